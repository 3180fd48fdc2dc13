section
-- ===== PART A: goes FIRST, ahead of the names: the tables' words, and 'selects' of the private methods out of them =====
/-- a private method of a class that the tables say can be made, by its rows of tables_1 -/
def lw_okq (q : MethodName × Nat) : Prop := (q.1.cls ≠ "java/lang/invoke/MethodHandle" ∧ q.1.cls ≠ "java/lang/invoke/VarHandle") ∧ Cond.instantiable q.1.cls q.2 ∈ tables_1 ∧ Cond.privateMethod q.1 ∈ tables_1 ∧ Cond.instanceMethod q.1 ∈ tables_1
theorem lw_p0 : lw_okq (⟨"RecordLabels", "kindNumbered", "(I)LRecordLabels$Kind;"⟩, 14) := ⟨⟨by decide +kernel, by decide +kernel⟩, List.mem_of_getElem? (i := 8) (by decide +kernel), List.mem_of_getElem? (i := 149) (by decide +kernel), List.mem_of_getElem? (i := 150) (by decide +kernel)⟩
theorem lw_p1 : lw_okq (⟨"RecordLabels$Kind", "constantNamed", "(J)I"⟩, 7) := ⟨⟨by decide +kernel, by decide +kernel⟩, List.mem_of_getElem? (i := 16) (by decide +kernel), List.mem_of_getElem? (i := 153) (by decide +kernel), List.mem_of_getElem? (i := 154) (by decide +kernel)⟩
theorem lw_p2 : lw_okq (⟨"RecordLabels$Kind", "codeOf", "(I)I"⟩, 7) := ⟨⟨by decide +kernel, by decide +kernel⟩, List.mem_of_getElem? (i := 16) (by decide +kernel), List.mem_of_getElem? (i := 157) (by decide +kernel), List.mem_of_getElem? (i := 158) (by decide +kernel)⟩
theorem lw_p3 : lw_okq (⟨"RecordLabels$Kind", "has", "(I)Z"⟩, 7) := ⟨⟨by decide +kernel, by decide +kernel⟩, List.mem_of_getElem? (i := 16) (by decide +kernel), List.mem_of_getElem? (i := 161) (by decide +kernel), List.mem_of_getElem? (i := 162) (by decide +kernel)⟩
theorem lw_p4 : lw_okq (⟨"RecordLabels$Kind", "exchange", "(II)V"⟩, 7) := ⟨⟨by decide +kernel, by decide +kernel⟩, List.mem_of_getElem? (i := 16) (by decide +kernel), List.mem_of_getElem? (i := 174) (by decide +kernel), List.mem_of_getElem? (i := 175) (by decide +kernel)⟩
theorem lw_p5 : lw_okq (⟨"RecordLabels$Kind", "constantOf", "(I)I"⟩, 7) := ⟨⟨by decide +kernel, by decide +kernel⟩, List.mem_of_getElem? (i := 16) (by decide +kernel), List.mem_of_getElem? (i := 182) (by decide +kernel), List.mem_of_getElem? (i := 183) (by decide +kernel)⟩
theorem lw_p6 : lw_okq (⟨"RecordLabels", "askRule", "(LRecordLabels$Kind;IJ)I"⟩, 14) := ⟨⟨by decide +kernel, by decide +kernel⟩, List.mem_of_getElem? (i := 8) (by decide +kernel), List.mem_of_getElem? (i := 186) (by decide +kernel), List.mem_of_getElem? (i := 187) (by decide +kernel)⟩
theorem lw_p7 : lw_okq (⟨"RecordLabels$Kind", "startForRule", "()I"⟩, 7) := ⟨⟨by decide +kernel, by decide +kernel⟩, List.mem_of_getElem? (i := 16) (by decide +kernel), List.mem_of_getElem? (i := 190) (by decide +kernel), List.mem_of_getElem? (i := 191) (by decide +kernel)⟩
theorem lw_p8 : lw_okq (⟨"RecordLabels", "setNumbered", "(I)LRecordLabels$LabelSet;"⟩, 14) := ⟨⟨by decide +kernel, by decide +kernel⟩, List.mem_of_getElem? (i := 8) (by decide +kernel), List.mem_of_getElem? (i := 230) (by decide +kernel), List.mem_of_getElem? (i := 231) (by decide +kernel)⟩
theorem lw_p9 : lw_okq (⟨"RecordLabels$LabelSet", "size", "()I"⟩, 2) := ⟨⟨by decide +kernel, by decide +kernel⟩, List.mem_of_getElem? (i := 87) (by decide +kernel), List.mem_of_getElem? (i := 234) (by decide +kernel), List.mem_of_getElem? (i := 235) (by decide +kernel)⟩
theorem lw_p10 : lw_okq (⟨"RecordLabels$LabelSet", "become", "(LRecordLabels$Kind;I)V"⟩, 2) := ⟨⟨by decide +kernel, by decide +kernel⟩, List.mem_of_getElem? (i := 87) (by decide +kernel), List.mem_of_getElem? (i := 244) (by decide +kernel), List.mem_of_getElem? (i := 245) (by decide +kernel)⟩
theorem lw_p11 : lw_okq (⟨"RecordLabels$LabelSet", "holds", "(I)Z"⟩, 2) := ⟨⟨by decide +kernel, by decide +kernel⟩, List.mem_of_getElem? (i := 87) (by decide +kernel), List.mem_of_getElem? (i := 252) (by decide +kernel), List.mem_of_getElem? (i := 253) (by decide +kernel)⟩
theorem lw_p12 : lw_okq (⟨"RecordLabels", "tableNumbered", "(I)LRecordLabels$Table;"⟩, 14) := ⟨⟨by decide +kernel, by decide +kernel⟩, List.mem_of_getElem? (i := 8) (by decide +kernel), List.mem_of_getElem? (i := 276) (by decide +kernel), List.mem_of_getElem? (i := 277) (by decide +kernel)⟩
theorem lw_p13 : lw_okq (⟨"RecordLabels", "toCell", "(LRecordLabels$Table;II)I"⟩, 14) := ⟨⟨by decide +kernel, by decide +kernel⟩, List.mem_of_getElem? (i := 8) (by decide +kernel), List.mem_of_getElem? (i := 280) (by decide +kernel), List.mem_of_getElem? (i := 281) (by decide +kernel)⟩
theorem lw_p14 : lw_okq (⟨"RecordLabels", "kindOfItem", "(LRecordLabels$Table;I)LRecordLabels$Kind;"⟩, 14) := ⟨⟨by decide +kernel, by decide +kernel⟩, List.mem_of_getElem? (i := 8) (by decide +kernel), List.mem_of_getElem? (i := 284) (by decide +kernel), List.mem_of_getElem? (i := 285) (by decide +kernel)⟩
theorem lw_p15 : lw_okq (⟨"RecordLabels", "putTogether", "(LRecordLabels$Table;)I"⟩, 14) := ⟨⟨by decide +kernel, by decide +kernel⟩, List.mem_of_getElem? (i := 8) (by decide +kernel), List.mem_of_getElem? (i := 288) (by decide +kernel), List.mem_of_getElem? (i := 289) (by decide +kernel)⟩
def lw_privs_1 : List (MethodName × Nat) := [(⟨"RecordLabels", "kindNumbered", "(I)LRecordLabels$Kind;"⟩, 14), (⟨"RecordLabels$Kind", "constantNamed", "(J)I"⟩, 7), (⟨"RecordLabels$Kind", "codeOf", "(I)I"⟩, 7), (⟨"RecordLabels$Kind", "has", "(I)Z"⟩, 7), (⟨"RecordLabels$Kind", "exchange", "(II)V"⟩, 7), (⟨"RecordLabels$Kind", "constantOf", "(I)I"⟩, 7), (⟨"RecordLabels", "askRule", "(LRecordLabels$Kind;IJ)I"⟩, 14), (⟨"RecordLabels$Kind", "startForRule", "()I"⟩, 7), (⟨"RecordLabels", "setNumbered", "(I)LRecordLabels$LabelSet;"⟩, 14), (⟨"RecordLabels$LabelSet", "size", "()I"⟩, 2), (⟨"RecordLabels$LabelSet", "become", "(LRecordLabels$Kind;I)V"⟩, 2), (⟨"RecordLabels$LabelSet", "holds", "(I)Z"⟩, 2), (⟨"RecordLabels", "tableNumbered", "(I)LRecordLabels$Table;"⟩, 14), (⟨"RecordLabels", "toCell", "(LRecordLabels$Table;II)I"⟩, 14), (⟨"RecordLabels", "kindOfItem", "(LRecordLabels$Table;I)LRecordLabels$Kind;"⟩, 14), (⟨"RecordLabels", "putTogether", "(LRecordLabels$Table;)I"⟩, 14)]
theorem lw_r1 : ∀ q ∈ lw_privs_1, lw_okq q := List.forall_mem_cons.mpr ⟨lw_p0, List.forall_mem_cons.mpr ⟨lw_p1, List.forall_mem_cons.mpr ⟨lw_p2, List.forall_mem_cons.mpr ⟨lw_p3, List.forall_mem_cons.mpr ⟨lw_p4, List.forall_mem_cons.mpr ⟨lw_p5, List.forall_mem_cons.mpr ⟨lw_p6, List.forall_mem_cons.mpr ⟨lw_p7, List.forall_mem_cons.mpr ⟨lw_p8, List.forall_mem_cons.mpr ⟨lw_p9, List.forall_mem_cons.mpr ⟨lw_p10, List.forall_mem_cons.mpr ⟨lw_p11, List.forall_mem_cons.mpr ⟨lw_p12, List.forall_mem_cons.mpr ⟨lw_p13, List.forall_mem_cons.mpr ⟨lw_p14, List.forall_mem_cons.mpr ⟨lw_p15, fun _ h => absurd h List.not_mem_nil⟩⟩⟩⟩⟩⟩⟩⟩⟩⟩⟩⟩⟩⟩⟩⟩
theorem lw_p16 : lw_okq (⟨"RecordLabels", "wrongItem", "(LRecordLabels$Table;)I"⟩, 14) := ⟨⟨by decide +kernel, by decide +kernel⟩, List.mem_of_getElem? (i := 8) (by decide +kernel), List.mem_of_getElem? (i := 292) (by decide +kernel), List.mem_of_getElem? (i := 293) (by decide +kernel)⟩
theorem lw_p17 : lw_okq (⟨"RecordLabels", "highestOf", "(LRecordLabels$Table;I)I"⟩, 14) := ⟨⟨by decide +kernel, by decide +kernel⟩, List.mem_of_getElem? (i := 8) (by decide +kernel), List.mem_of_getElem? (i := 296) (by decide +kernel), List.mem_of_getElem? (i := 297) (by decide +kernel)⟩
theorem lw_p18 : lw_okq (⟨"RecordLabels$Table", "hasRecord", "(I)Z"⟩, 5) := ⟨⟨by decide +kernel, by decide +kernel⟩, List.mem_of_getElem? (i := 59) (by decide +kernel), List.mem_of_getElem? (i := 308) (by decide +kernel), List.mem_of_getElem? (i := 309) (by decide +kernel)⟩
theorem lw_p19 : lw_okq (⟨"RecordLabels$Table", "hasItem", "(I)Z"⟩, 5) := ⟨⟨by decide +kernel, by decide +kernel⟩, List.mem_of_getElem? (i := 59) (by decide +kernel), List.mem_of_getElem? (i := 312) (by decide +kernel), List.mem_of_getElem? (i := 313) (by decide +kernel)⟩
theorem lw_p20 : lw_okq (⟨"RecordLabels", "fromCell", "(LRecordLabels$Table;II)I"⟩, 14) := ⟨⟨by decide +kernel, by decide +kernel⟩, List.mem_of_getElem? (i := 8) (by decide +kernel), List.mem_of_getElem? (i := 321) (by decide +kernel), List.mem_of_getElem? (i := 322) (by decide +kernel)⟩
theorem lw_p21 : lw_okq (⟨"RecordLabels", "draftOf", "(LRecordLabels$Table;I)V"⟩, 14) := ⟨⟨by decide +kernel, by decide +kernel⟩, List.mem_of_getElem? (i := 8) (by decide +kernel), List.mem_of_getElem? (i := 329) (by decide +kernel), List.mem_of_getElem? (i := 330) (by decide +kernel)⟩
theorem lw_p22 : lw_okq (⟨"RecordLabelsModel", "nameOf", "(II)J"⟩, 19) := ⟨⟨by decide +kernel, by decide +kernel⟩, List.mem_of_getElem? (i := 354) (by decide +kernel), List.mem_of_getElem? (i := 442) (by decide +kernel), List.mem_of_getElem? (i := 443) (by decide +kernel)⟩
theorem lw_p23 : lw_okq (⟨"RecordLabelsModel", "isCode", "(II)Z"⟩, 19) := ⟨⟨by decide +kernel, by decide +kernel⟩, List.mem_of_getElem? (i := 354) (by decide +kernel), List.mem_of_getElem? (i := 451) (by decide +kernel), List.mem_of_getElem? (i := 452) (by decide +kernel)⟩
theorem lw_p24 : lw_okq (⟨"RecordLabelsModel", "constant", "(II)I"⟩, 19) := ⟨⟨by decide +kernel, by decide +kernel⟩, List.mem_of_getElem? (i := 354) (by decide +kernel), List.mem_of_getElem? (i := 455) (by decide +kernel), List.mem_of_getElem? (i := 456) (by decide +kernel)⟩
theorem lw_p25 : lw_okq (⟨"RecordLabelsModel", "begin", "(I)I"⟩, 19) := ⟨⟨by decide +kernel, by decide +kernel⟩, List.mem_of_getElem? (i := 354) (by decide +kernel), List.mem_of_getElem? (i := 467) (by decide +kernel), List.mem_of_getElem? (i := 468) (by decide +kernel)⟩
theorem lw_p26 : lw_okq (⟨"RecordLabelsModel", "works", "(IIJ)I"⟩, 19) := ⟨⟨by decide +kernel, by decide +kernel⟩, List.mem_of_getElem? (i := 354) (by decide +kernel), List.mem_of_getElem? (i := 471) (by decide +kernel), List.mem_of_getElem? (i := 472) (by decide +kernel)⟩
theorem lw_p27 : lw_okq (⟨"RecordLabelsModel", "lost", "(I)I"⟩, 19) := ⟨⟨by decide +kernel, by decide +kernel⟩, List.mem_of_getElem? (i := 354) (by decide +kernel), List.mem_of_getElem? (i := 477) (by decide +kernel), List.mem_of_getElem? (i := 478) (by decide +kernel)⟩
theorem lw_p28 : lw_okq (⟨"RecordLabelsModel", "wrong", "(I[II)I"⟩, 19) := ⟨⟨by decide +kernel, by decide +kernel⟩, List.mem_of_getElem? (i := 354) (by decide +kernel), List.mem_of_getElem? (i := 528) (by decide +kernel), List.mem_of_getElem? (i := 529) (by decide +kernel)⟩
theorem lw_p29 : lw_okq (⟨"RecordLabelsModel", "take", "(I[II)V"⟩, 19) := ⟨⟨by decide +kernel, by decide +kernel⟩, List.mem_of_getElem? (i := 354) (by decide +kernel), List.mem_of_getElem? (i := 533) (by decide +kernel), List.mem_of_getElem? (i := 534) (by decide +kernel)⟩
theorem lw_p30 : lw_okq (⟨"RecordLabelsModel", "isCell", "(III)Z"⟩, 19) := ⟨⟨by decide +kernel, by decide +kernel⟩, List.mem_of_getElem? (i := 354) (by decide +kernel), List.mem_of_getElem? (i := 541) (by decide +kernel), List.mem_of_getElem? (i := 542) (by decide +kernel)⟩
theorem lw_p31 : lw_okq (⟨"RecordLabelsModel", "toldOf", "(III)I"⟩, 19) := ⟨⟨by decide +kernel, by decide +kernel⟩, List.mem_of_getElem? (i := 354) (by decide +kernel), List.mem_of_getElem? (i := 555) (by decide +kernel), List.mem_of_getElem? (i := 556) (by decide +kernel)⟩
def lw_privs_2 : List (MethodName × Nat) := [(⟨"RecordLabels", "wrongItem", "(LRecordLabels$Table;)I"⟩, 14), (⟨"RecordLabels", "highestOf", "(LRecordLabels$Table;I)I"⟩, 14), (⟨"RecordLabels$Table", "hasRecord", "(I)Z"⟩, 5), (⟨"RecordLabels$Table", "hasItem", "(I)Z"⟩, 5), (⟨"RecordLabels", "fromCell", "(LRecordLabels$Table;II)I"⟩, 14), (⟨"RecordLabels", "draftOf", "(LRecordLabels$Table;I)V"⟩, 14), (⟨"RecordLabelsModel", "nameOf", "(II)J"⟩, 19), (⟨"RecordLabelsModel", "isCode", "(II)Z"⟩, 19), (⟨"RecordLabelsModel", "constant", "(II)I"⟩, 19), (⟨"RecordLabelsModel", "begin", "(I)I"⟩, 19), (⟨"RecordLabelsModel", "works", "(IIJ)I"⟩, 19), (⟨"RecordLabelsModel", "lost", "(I)I"⟩, 19), (⟨"RecordLabelsModel", "wrong", "(I[II)I"⟩, 19), (⟨"RecordLabelsModel", "take", "(I[II)V"⟩, 19), (⟨"RecordLabelsModel", "isCell", "(III)Z"⟩, 19), (⟨"RecordLabelsModel", "toldOf", "(III)I"⟩, 19)]
theorem lw_r2 : ∀ q ∈ lw_privs_2, lw_okq q := List.forall_mem_cons.mpr ⟨lw_p16, List.forall_mem_cons.mpr ⟨lw_p17, List.forall_mem_cons.mpr ⟨lw_p18, List.forall_mem_cons.mpr ⟨lw_p19, List.forall_mem_cons.mpr ⟨lw_p20, List.forall_mem_cons.mpr ⟨lw_p21, List.forall_mem_cons.mpr ⟨lw_p22, List.forall_mem_cons.mpr ⟨lw_p23, List.forall_mem_cons.mpr ⟨lw_p24, List.forall_mem_cons.mpr ⟨lw_p25, List.forall_mem_cons.mpr ⟨lw_p26, List.forall_mem_cons.mpr ⟨lw_p27, List.forall_mem_cons.mpr ⟨lw_p28, List.forall_mem_cons.mpr ⟨lw_p29, List.forall_mem_cons.mpr ⟨lw_p30, List.forall_mem_cons.mpr ⟨lw_p31, fun _ h => absurd h List.not_mem_nil⟩⟩⟩⟩⟩⟩⟩⟩⟩⟩⟩⟩⟩⟩⟩⟩
theorem lw_p32 : lw_okq (⟨"RecordLabelsModel", "codeNow", "(II)I"⟩, 19) := ⟨⟨by decide +kernel, by decide +kernel⟩, List.mem_of_getElem? (i := 354) (by decide +kernel), List.mem_of_getElem? (i := 559) (by decide +kernel), List.mem_of_getElem? (i := 560) (by decide +kernel)⟩
def lw_privs_3 : List (MethodName × Nat) := [(⟨"RecordLabelsModel", "codeNow", "(II)I"⟩, 19)]
theorem lw_r3 : ∀ q ∈ lw_privs_3, lw_okq q := List.forall_mem_cons.mpr ⟨lw_p32, fun _ h => absurd h List.not_mem_nil⟩
def lw_privs : List (MethodName × Nat) := lw_privs_1 ++ (lw_privs_2 ++ (lw_privs_3))
def lw_tbl : List Cond := k2_sels lw_privs ++ tables_1
theorem lw_privs_ok : ∀ q ∈ lw_privs, lw_okq q := by
  show ∀ q ∈ lw_privs_1 ++ (lw_privs_2 ++ (lw_privs_3)), lw_okq q
  exact List.forall_mem_append.mpr ⟨lw_r1, List.forall_mem_append.mpr ⟨lw_r2, lw_r3⟩⟩
/-! ===== BEGIN words of one list among another's, by their places ===== -/
theorem goodIn_r {big : List Cond} (ws : List Cond) (ps : List Nat) (hp : ws = ps.filterMap (fun i => big[i]?)) (h : ws.all goodWord = true) : GoodIn big ws := by
  intro w hw
  have h1 := List.all_eq_true.mp h w hw
  rw [hp] at hw
  obtain ⟨i, -, hi⟩ := List.mem_filterMap.mp hw
  have hm : w ∈ big := by first | exact List.mem_of_getElem? hi | exact List.getElem?_mem hi
  exact ⟨hm, good_of_word h1⟩
theorem goodIn_app {big a b : List Cond} (ha : GoodIn big a) (hb : GoodIn big b) : GoodIn big (a ++ b) := fun w h => (List.mem_append.mp h).elim (ha w) (hb w)
theorem goodIn_ca {big a b : List Cond} {c : Cond} (ha : GoodIn big (c :: a)) (hb : GoodIn big b) : GoodIn big (c :: (a ++ b)) := fun w h => (List.mem_cons.mp h).elim (fun e => ha w (List.mem_cons.mpr (Or.inl e))) (fun h => (List.mem_append.mp h).elim (fun h => ha w (List.mem_cons.mpr (Or.inr h))) (hb w))
theorem goodIn_sub {big ws : List Cond} (hm : ∀ w ∈ ws, w ∈ big) (h : ws.all goodWord = true) : GoodIn big ws := fun w hw => ⟨hm w hw, good_of_word (List.all_eq_true.mp h w hw)⟩
/-! ===== END ===== -/

/-! ===== BEGIN new T[n][m]: the outer array a place, the inner ones among the pooled ===== -/
/-- f, but v at every address of l -/
def vr_up {α : Type} (f : Nat → α) (l : List Nat) (v : α) : Nat → α := fun a => if a ∈ l then v else f a
theorem vr_up_in {α : Type} {f : Nat → α} {l : List Nat} {v : α} {a : Nat} (h : a ∈ l) : vr_up f l v a = v := if_pos h
theorem vr_up_ne {α : Type} {f : Nat → α} {l : List Nat} {v : α} {a : Nat} (h : a ∉ l) : vr_up f l v a = f a := if_neg h
theorem vr_rows {L l : List Nat} {f : Nat → va_E} {e : va_E} (h : ∀ a, a ∈ l → a ∉ L) : va_pl L f ++ l.map (fun a => (a, e)) = va_pl (L ++ l) (vr_up f l e) := by
  unfold va_pl
  rw [List.map_append]
  congr 1
  · apply List.map_congr_left
    intro a ha
    rw [vr_up_ne (fun q => h a q ha)]
  · apply List.map_congr_left
    intro a ha
    rw [vr_up_in ha]
theorem vr_lay {X rows : va_W} {x : Nat × va_E} {pl : va_W} {D : va_G} {cl : List vw_C} {H : Heap} (hP : va_P D cl (((X ++ pl) ++ [x]) ++ rows) H) : va_P D cl ((X ++ [x]) ++ (pl ++ rows)) H := by
  rw [List.append_assoc (X ++ pl)] at hP
  have h := va_P.swap hP
  rw [← List.append_assoc X] at h
  have h2 := va_P.swap h
  rw [List.append_assoc (X ++ [x])] at h2
  exact h2
theorem vr_layD {X rows : va_W} {x : Nat × va_E} {pl : va_W} {A : Nat → Prop} (hD : va_D A (((X ++ pl) ++ [x]) ++ rows)) : va_D A ((X ++ [x]) ++ (pl ++ rows)) := by
  rw [List.append_assoc (X ++ pl)] at hD
  have h := va_D.swap hD
  rw [← List.append_assoc X] at h
  have h2 := va_D.swap h
  rw [List.append_assoc (X ++ [x])] at h2
  exact h2
theorem vr_outer (c : ClassId) (N h0 : Nat) : ∀ i : Nat, Jvm.Free.Multi.outerC c N h0 i = arrV c N (fun j => va_rf (if j < i then some (h0 + 1 + j) else none))
  | 0 => by
    show ({ cls := c, slots := Array.replicate N .null, vm := .none } : Cell) = _
    rw [arrV_new]
    refine congrArg (arrV c N) (funext fun j => ?_)
    simp [va_rf]
  | i + 1 => by
    show (Jvm.Free.Multi.outerC c N h0 i).setSlot i (.ref (h0 + 1 + i)) = _
    rw [vr_outer c N h0 i, arrV_store]
    refine congrArg (arrV c N) (funext fun j => ?_)
    by_cases e : j = i
    · subst e
      simp [updV, va_rf]
    · by_cases h : j < i
      · simp [updV, e, h, Nat.lt_succ_of_lt h]
      · simp [updV, e, h, show ¬ j < i + 1 by omega]
def va_AOA (ty : FieldType) (U : State) : Prop := (Cond.arrayOver (.array ty)).before #[] U = true
theorem va_AOA.use {ty : FieldType} {A : Array Value} {U : State} (h : va_AOA ty U) : (Cond.arrayOver (.array ty)).before A U = true := h
section VGM
variable {p : Program} {l : Launch} {e : Env} {R : Room} {s : State} {m : MethodId} {args : Array Value} {below : List Frame} {meth : Method} {c : Code} {H : Heap} {locs : List Loc} {cells slots : Nat} {Q : State → Prop}
variable {cc : ByteArray} {pc : Nat} {ls : Array Slot} {rest : List Value} {D : va_G} {cl : List vw_C} {A : Nat → Prop} {a : Nat} {tys : List (ClassId × FieldType)} {ws : va_W} {H0 : Heap}
theorem va_mna {X : va_W} {L : List Nat} {f : Nat → va_E} {cc : ByteArray} (hexec : p.tables.exec = Jvm.exec) (hb : c.code = cc) {own : String} {index : Nat} {ty : FieldType} {cy : ClassId} (hown : s.vm.findClass own = some m.cls) (hclink : (Cond.classLink own index ("[" ++ (FieldType.array ty).toString)).before args s = true) (hover : va_AOA ty s) (harr : (Cond.arrayClass ty).before args s = true) (hcy : s.vm.findClass (FieldType.array ty).toString = some cy)
    (hK : va_K D cl tys s) (hP : va_P D cl (X ++ va_pl L f) H) (hD : va_D A (X ++ va_pl L f)) (hS : va_S A H0 H locs) (hA : ∀ q, H0.size ≤ q → A q) {n k : Int32} {N' K' : Nat} {z : vp_A} (hn : ¬ n < 0) (hk : ¬ k < 0) (hN : n.toNatClampNeg = N') (hM : k.toNatClampNeg = K')
    (hb1 : N' * 4 ≤ 536870912) (hb2 : K' * componentBytes ty ≤ 536870912) (hb3 : K' ≤ 536870912) (hdf : fits ty (defaultValue ty) = true) (hdd : (defaultValue ty).isDefault = true) (hcells : cells + (1 + N') ≤ R.cells) (hslots : slots + (N' + N' * K') ≤ R.slots) (hz : ∀ c : ClassId, Jvm.Free.Multi.innerC c K' (defaultValue ty) = vp_cell c z) (hdg : decode cc pc = .ok (.multianewarray index 2, 4))
    (kk : ∀ (q : Nat) (r : Nat → Nat) (cA : ClassId) (H1 : Heap), (∀ i j : Nat, i < N' → j < N' → r i = r j → i = j) → (∀ i : Nat, i < N' → r i ∉ L) → va_K D cl (tys ++ [(cA, .array ty)]) s →
      va_P D cl ((X ++ [(q, .inl (cA, N', .inr (.inr (.inr (.inr (fun i => if i < N' then some (r i) else none))))))]) ++ va_pl (L ++ (List.range N').map r) (vr_up f ((List.range N').map r) (.inl (cy, z)))) H1 → va_D A ((X ++ [(q, .inl (cA, N', .inr (.inr (.inr (.inr (fun i => if i < N' then some (r i) else none))))))]) ++ va_pl (L ++ (List.range N').map r) (vr_up f ((List.range N').map r) (.inl (cy, z)))) → va_S A H0 H1 locs →
      W p l e R s m args below meth c H1 locs (cells + 1 + N') (slots + N' + N' * K') Q (F0 m (pc + 4) ls (.ref q :: rest))) : W p l e R s m args below meth c H locs cells slots Q (F0 m pc ls (.int k :: .int n :: rest)) := by
  subst hN
  subst hM
  intro T hT Xs
  obtain ⟨vm₁, cA, comp, -, fA, fC, hO, -, X', step⟩ := Xs.multianewarray2F hexec hown hclink (va_AOA.use hover) harr (g := F0 m pc ls (.int k :: .int n :: rest)) rfl (by rw [hb]; exact hdg) rfl hn hk hb1 hb2 hb3 hdf hdd hcells hslots
  have ec : some cy = some comp := hcy.symm.trans fC
  cases ec
  generalize hF : Jvm.Free.Multi.fill (T.setVm vm₁) cA cy n.toNatClampNeg k.toNatClampNeg (defaultValue ty) n.toNatClampNeg = F at X' step
  have hTh : (T.setVm vm₁).heap = H := hT
  obtain ⟨f1, f2, -, -⟩ := Jvm.Free.Multi.fill_facts (T.setVm vm₁) cA cy n.toNatClampNeg k.toNatClampNeg (defaultValue ty) n.toNatClampNeg
  rw [hF, hTh] at f1 f2
  have hold : ∀ x : Nat, x < H.size → F.heap[x]? = H[x]? := fun x hx => by
    have := Jvm.Free.Multi.fill_old (T.setVm vm₁) cA cy n.toNatClampNeg k.toNatClampNeg (defaultValue ty) (a := x) (by rw [hTh]; exact hx) n.toNatClampNeg
    rw [hF, hTh] at this
    exact this
  have hrow : ∀ j : Nat, j < n.toNatClampNeg → F.heap[H.size + 1 + j]? = some (vp_cell cy z) := fun j hj => by
    have := Jvm.Free.Multi.fill_inner (T.setVm vm₁) cA cy n.toNatClampNeg k.toNatClampNeg (defaultValue ty) n.toNatClampNeg j hj
    rw [hF, hTh, hz] at this
    exact this
  have hout : Jvm.Free.Multi.outerC cA n.toNatClampNeg H.size n.toNatClampNeg = vp_cell cA (n.toNatClampNeg, .inr (.inr (.inr (.inr (fun i => if i < n.toNatClampNeg then some (H.size + 1 + i) else none))))) := by
    rw [vp_cell_q]
    exact vr_outer cA n.toNatClampNeg H.size n.toNatClampNeg
  rw [hout] at f2
  have hlt : ∀ a, a ∈ L → a < H.size := fun a ha => by
    obtain ⟨k9, hk9⟩ := va_pl_get (X := X) (f := f) ha
    exact (hP k9 _ hk9).lt
  have hnl : ∀ i : Nat, i < n.toNatClampNeg → H.size + 1 + i ∉ L := fun i _ h => by
    have := hlt _ h
    omega
  have hnm : ∀ a, a ∈ (List.range n.toNatClampNeg).map (fun i => H.size + 1 + i) → a ∉ L := fun a ha h => by
    obtain ⟨i, -, rfl⟩ := List.mem_map.mp ha
    have := hlt _ h
    omega
  have hP0 : va_P D cl (X ++ va_pl L f) F.heap := hP.kept (fun k9 x hx => hold x.1 ((hP k9 x hx).lt))
  have hP1 : va_P D cl ((X ++ va_pl L f) ++ [(H.size, .inl (cA, n.toNatClampNeg, .inr (.inr (.inr (.inr (fun i => if i < n.toNatClampNeg then some (H.size + 1 + i) else none))))))]) F.heap := hP0.app (fun k9 x hx => by
    have h0 : k9 < 1 := (List.getElem?_eq_some_iff.mp hx).1
    rw [show k9 = 0 by omega] at hx
    cases hx
    exact f2)
  have hP2 : va_P D cl (((X ++ va_pl L f) ++ [(H.size, .inl (cA, n.toNatClampNeg, .inr (.inr (.inr (.inr (fun i => if i < n.toNatClampNeg then some (H.size + 1 + i) else none))))))]) ++ ((List.range n.toNatClampNeg).map (fun i => H.size + 1 + i)).map (fun a => (a, .inl (cy, z)))) F.heap := hP1.app (fun k9 x hx => by
    obtain ⟨a, ha, rfl⟩ := List.mem_map.mp (List.mem_of_getElem? hx)
    obtain ⟨i, hi, rfl⟩ := List.mem_map.mp ha
    exact hrow i (List.mem_range.mp hi))
  have hD2 : va_D A (((X ++ va_pl L f) ++ [(H.size, .inl (cA, n.toNatClampNeg, .inr (.inr (.inr (.inr (fun i => if i < n.toNatClampNeg then some (H.size + 1 + i) else none))))))]) ++ ((List.range n.toNatClampNeg).map (fun i => H.size + 1 + i)).map (fun a => (a, .inl (cy, z)))) := by
    have hD1 := hD.push (e := .inl (cA, n.toNatClampNeg, .inr (.inr (.inr (.inr (fun i => if i < n.toNatClampNeg then some (H.size + 1 + i) else none)))))) hP rfl (hA _ hS.1)
    generalize hW1 : (X ++ va_pl L f) ++ [(H.size, .inl (cA, n.toNatClampNeg, .inr (.inr (.inr (.inr (fun i => if i < n.toNatClampNeg then some (H.size + 1 + i) else none))))))] = W1 at hD1 hP1 ⊢
    have hle : ∀ (k9 : Nat) (x : Nat × va_E), W1[k9]? = some x → x.1 ≤ H.size := fun k9 x hx => by
      rw [← hW1] at hx
      by_cases hl : k9 < (X ++ va_pl L f).length
      · rw [List.getElem?_append_left hl] at hx
        exact Nat.le_of_lt ((hP k9 x hx).lt)
      · rw [List.getElem?_append_right (by omega)] at hx
        have h0 : k9 - (X ++ va_pl L f).length < 1 := (List.getElem?_eq_some_iff.mp hx).1
        rw [show k9 - (X ++ va_pl L f).length = 0 by omega] at hx
        cases hx
        exact Nat.le_refl _
    have hr : ∀ (k9 : Nat) (x : Nat × va_E), (((List.range n.toNatClampNeg).map (fun i => H.size + 1 + i)).map (fun a => ((a, .inl (cy, z)) : Nat × va_E)))[k9]? = some x → x.1 = H.size + 1 + k9 := fun k9 x hx => by
      rw [List.getElem?_map, List.getElem?_map] at hx
      by_cases h9 : k9 < n.toNatClampNeg
      · rw [List.getElem?_range h9] at hx
        cases hx
        rfl
      · have hn0 : (List.range n.toNatClampNeg)[k9]? = none := List.getElem?_eq_none (by rw [List.length_range]; omega)
        rw [hn0] at hx
        cases hx
    refine ⟨fun i j x y hi hj hxy => ?_, fun k9 x hx => ?_⟩
    · by_cases h1 : i < W1.length <;> by_cases h2 : j < W1.length
      · rw [List.getElem?_append_left h1] at hi
        rw [List.getElem?_append_left h2] at hj
        exact hD1.1 i j x y hi hj hxy
      · rw [List.getElem?_append_left h1] at hi
        rw [List.getElem?_append_right (by omega)] at hj
        have := hle _ _ hi
        have := hr _ _ hj
        omega
      · rw [List.getElem?_append_right (by omega)] at hi
        rw [List.getElem?_append_left h2] at hj
        have := hle _ _ hj
        have := hr _ _ hi
        omega
      · rw [List.getElem?_append_right (by omega)] at hi hj
        have := hr _ _ hi
        have := hr _ _ hj
        omega
    · by_cases h1 : k9 < W1.length
      · rw [List.getElem?_append_left h1] at hx
        exact hD1.2 k9 x hx
      · rw [List.getElem?_append_right (by omega)] at hx
        have := hr _ _ hx
        exact hA _ (by have := hS.1; omega)
  have hAr : ArrOfT s cA (.array ty) := fun N9 z9 => by
    obtain ⟨-, k9, hk9, cm9, hkk9⟩ := (hO 0 0 0).1
    exact ⟨(fun q hq => by cases hq), k9, hk9, cm9, hkk9⟩
  have hK2 : va_K D cl (tys ++ [(cA, .array ty)]) s := ⟨hK.1, fun k9 x hx => by
    by_cases hl : k9 < tys.length
    · rw [List.getElem?_append_left hl] at hx
      exact hK.2 k9 x hx
    · rw [List.getElem?_append_right (by omega)] at hx
      have h0 : k9 - tys.length < 1 := (List.getElem?_eq_some_iff.mp hx).1
      rw [show k9 - tys.length = 0 by omega] at hx
      cases hx
      exact ⟨hAr, fA⟩⟩
  obtain ⟨t, a1, b1⟩ := kk H.size (fun i => H.size + 1 + i) cA F.heap (fun i j _ _ h => by have h9 : H.size + 1 + i = H.size + 1 + j := h; omega) hnl hK2 (by rw [← vr_rows hnm]; exact vr_lay hP2) (by rw [← vr_rows hnm]; exact vr_layD hD2) ⟨by rw [f1]; have := hS.1; omega, fun x h1 h2 => (hold x (Nat.lt_of_lt_of_le h1 hS.1)).trans (hS.2.1 x h1 h2), hS.2.2⟩ F rfl X'
  refine ⟨t, step t ?_, b1⟩
  have e : T.heap.size = H.size := by rw [hT]
  rw [e]
  exact a1
end VGM
/-! ===== END ===== -/

/-! ===== BEGIN printed: names, fields, word lists, decode rows ===== -/
def RX0 : String := "RecordLabels$Kind"
def TX0 : u_T := fun k => match k with
  | 0 => ("RecordLabels$Kind", "number", "I", true)
  | 1 => ("RecordLabels$Kind", "names", "[J", true)
  | 2 => ("RecordLabels$Kind", "size", "I", true)
  | 3 => ("RecordLabels$Kind", "constants", "[I", true)
  | 4 => ("RecordLabels$Kind", "codes", "[I", true)
  | 5 => ("RecordLabels$Kind", "start", "I", false)
  | _ => ("RecordLabels$Kind", "toldToFail", "Z", false)
def tyX0 : Nat → FieldType := fun k => match k with
  | 0 => .int
  | 1 => .array .long
  | 2 => .int
  | 3 => .array .int
  | 4 => .array .int
  | 5 => .int
  | _ => .boolean
abbrev wsX00 : List Cond := u_ws RX0 TX0 7
theorem nmX0 : ∀ a, a < 7 → ∀ b, b < 7 → a ≠ b → (TX0 a).2.1 ≠ (TX0 b).2.1 := by decide +kernel
theorem tyX0_ok : ∀ k, k < 7 → parseFieldDescriptor (TX0 k).2.2.1 = some (tyX0 k) := by decide +kernel
abbrev cX0_init : ByteArray := prog_2_method_1_code
def yX0_init : MethodName := ⟨RX0, "<init>", "(I[J)V"⟩
abbrev cX0_has : ByteArray := prog_2_method_2_code
def yX0_has : MethodName := ⟨RX0, "has", "(I)Z"⟩
abbrev cX0_constantOf : ByteArray := prog_2_method_3_code
def yX0_constantOf : MethodName := ⟨RX0, "constantOf", "(I)I"⟩
abbrev cX0_codeOf : ByteArray := prog_2_method_4_code
def yX0_codeOf : MethodName := ⟨RX0, "codeOf", "(I)I"⟩
abbrev cX0_constantNamed : ByteArray := prog_2_method_5_code
def yX0_constantNamed : MethodName := ⟨RX0, "constantNamed", "(J)I"⟩
abbrev cX0_exchange : ByteArray := prog_2_method_6_code
def yX0_exchange : MethodName := ⟨RX0, "exchange", "(II)V"⟩
abbrev cX0_startForRule : ByteArray := prog_2_method_7_code
def yX0_startForRule : MethodName := ⟨RX0, "startForRule", "()I"⟩
def RX1 : String := "RecordLabels$LabelSet"
def TX1 : u_T := fun k => match k with
  | 0 => ("RecordLabels$LabelSet", "kind", "LRecordLabels$Kind;", false)
  | _ => ("RecordLabels$LabelSet", "members", "I", false)
def tyX1 : Nat → FieldType := fun k => match k with
  | 0 => .object "RecordLabels$Kind"
  | _ => .int
abbrev wsX10 : List Cond := u_ws RX1 TX1 2
theorem nmX1 : ∀ a, a < 2 → ∀ b, b < 2 → a ≠ b → (TX1 a).2.1 ≠ (TX1 b).2.1 := by decide +kernel
theorem tyX1_ok : ∀ k, k < 2 → parseFieldDescriptor (TX1 k).2.2.1 = some (tyX1 k) := by decide +kernel
abbrev cX1_init : ByteArray := prog_3_method_1_code
def yX1_init : MethodName := ⟨RX1, "<init>", "(LRecordLabels$Kind;)V"⟩
abbrev cX1_size : ByteArray := prog_3_method_2_code
def yX1_size : MethodName := ⟨RX1, "size", "()I"⟩
abbrev cX1_holds : ByteArray := prog_3_method_3_code
def yX1_holds : MethodName := ⟨RX1, "holds", "(I)Z"⟩
abbrev cX1_become : ByteArray := prog_3_method_4_code
def yX1_become : MethodName := ⟨RX1, "become", "(LRecordLabels$Kind;I)V"⟩
def RX2 : String := "RecordLabels$Table"
def TX2 : u_T := fun k => match k with
  | 0 => ("RecordLabels$Table", "kind", "LRecordLabels$Kind;", true)
  | 1 => ("RecordLabels$Table", "items", "I", true)
  | 2 => ("RecordLabels$Table", "measure", "I", true)
  | 3 => ("RecordLabels$Table", "columns", "[[I", true)
  | _ => ("RecordLabels$Table", "size", "I", false)
def tyX2 : Nat → FieldType := fun k => match k with
  | 0 => .object "RecordLabels$Kind"
  | 1 => .int
  | 2 => .int
  | 3 => .array (.array .int)
  | _ => .int
abbrev wsX20 : List Cond := u_ws RX2 TX2 5
theorem nmX2 : ∀ a, a < 5 → ∀ b, b < 5 → a ≠ b → (TX2 a).2.1 ≠ (TX2 b).2.1 := by decide +kernel
theorem tyX2_ok : ∀ k, k < 5 → parseFieldDescriptor (TX2 k).2.2.1 = some (tyX2 k) := by decide +kernel
abbrev cX2_init : ByteArray := prog_4_method_1_code
def yX2_init : MethodName := ⟨RX2, "<init>", "(LRecordLabels$Kind;II)V"⟩
abbrev cX2_hasRecord : ByteArray := prog_4_method_2_code
def yX2_hasRecord : MethodName := ⟨RX2, "hasRecord", "(I)Z"⟩
abbrev cX2_hasItem : ByteArray := prog_4_method_3_code
def yX2_hasItem : MethodName := ⟨RX2, "hasItem", "(I)Z"⟩
def RX3 : String := "RecordLabels"
def TX3 : u_T := fun k => match k with
  | 0 => ("RecordLabels", "nodeKind", "LRecordLabels$Kind;", true)
  | 1 => ("RecordLabels", "arcKind", "LRecordLabels$Kind;", true)
  | 2 => ("RecordLabels", "signKind", "LRecordLabels$Kind;", true)
  | 3 => ("RecordLabels", "sets", "[LRecordLabels$LabelSet;", true)
  | 4 => ("RecordLabels", "nodeTable", "LRecordLabels$Table;", true)
  | 5 => ("RecordLabels", "arcTable", "LRecordLabels$Table;", true)
  | 6 => ("RecordLabels", "lastResult", "J", false)
  | 7 => ("RecordLabels", "ruleFailures", "I", false)
  | 8 => ("RecordLabels", "wrongRecords", "I", false)
  | 9 => ("RecordLabels", "draft", "[I", true)
  | 10 => ("RecordLabels", "parts", "[I", true)
  | 11 => ("RecordLabels", "partsTable", "LRecordLabels$Table;", false)
  | 12 => ("RecordLabels", "foundRecords", "[I", true)
  | _ => ("RecordLabels", "foundSize", "I", false)
def tyX3 : Nat → FieldType := fun k => match k with
  | 0 => .object "RecordLabels$Kind"
  | 1 => .object "RecordLabels$Kind"
  | 2 => .object "RecordLabels$Kind"
  | 3 => .array (.object "RecordLabels$LabelSet")
  | 4 => .object "RecordLabels$Table"
  | 5 => .object "RecordLabels$Table"
  | 6 => .long
  | 7 => .int
  | 8 => .int
  | 9 => .array .int
  | 10 => .array .int
  | 11 => .object "RecordLabels$Table"
  | 12 => .array .int
  | _ => .int
abbrev wsX30 : List Cond := u_ws RX3 TX3 14
theorem nmX3 : ∀ a, a < 14 → ∀ b, b < 14 → a ≠ b → (TX3 a).2.1 ≠ (TX3 b).2.1 := by decide +kernel
theorem tyX3_ok : ∀ k, k < 14 → parseFieldDescriptor (TX3 k).2.2.1 = some (tyX3 k) := by decide +kernel
abbrev cX3_init : ByteArray := prog_1_method_1_code
def yX3_init : MethodName := ⟨RX3, "<init>", "()V"⟩
abbrev cX3_code : ByteArray := prog_1_method_2_code
def yX3_code : MethodName := ⟨RX3, "code", "(IJ)I"⟩
abbrev cX3_name : ByteArray := prog_1_method_3_code
def yX3_name : MethodName := ⟨RX3, "name", "(II)J"⟩
abbrev cX3_swap : ByteArray := prog_1_method_4_code
def yX3_swap : MethodName := ⟨RX3, "swap", "(III)I"⟩
abbrev cX3_rule : ByteArray := prog_1_method_5_code
def yX3_rule : MethodName := ⟨RX3, "rule", "(IIJ)I"⟩
abbrev cX3_result : ByteArray := prog_1_method_6_code
def yX3_result : MethodName := ⟨RX3, "result", "()J"⟩
abbrev cX3_fail : ByteArray := prog_1_method_7_code
def yX3_fail : MethodName := ⟨RX3, "fail", "(IZ)I"⟩
abbrev cX3_started : ByteArray := prog_1_method_8_code
def yX3_started : MethodName := ⟨RX3, "started", "(I)I"⟩
abbrev cX3_clear : ByteArray := prog_1_method_9_code
def yX3_clear : MethodName := ⟨RX3, "clear", "(II)I"⟩
abbrev cX3_put : ByteArray := prog_1_method_10_code
def yX3_put : MethodName := ⟨RX3, "put", "(IIZ)I"⟩
abbrev cX3_join : ByteArray := prog_1_method_11_code
def yX3_join : MethodName := ⟨RX3, "join", "(IIII)I"⟩
abbrev cX3_member : ByteArray := prog_1_method_12_code
def yX3_member : MethodName := ⟨RX3, "member", "(II)I"⟩
abbrev cX3_about : ByteArray := prog_1_method_13_code
def yX3_about : MethodName := ⟨RX3, "about", "(II)I"⟩
abbrev cX3_record : ByteArray := prog_1_method_14_code
def yX3_record : MethodName := ⟨RX3, "record", "(IIIII)I"⟩
abbrev cX3_lay : ByteArray := prog_1_method_15_code
def yX3_lay : MethodName := ⟨RX3, "lay", "(IIII)I"⟩
abbrev cX3_cell : ByteArray := prog_1_method_16_code
def yX3_cell : MethodName := ⟨RX3, "cell", "(III)I"⟩
abbrev cX3_back : ByteArray := prog_1_method_17_code
def yX3_back : MethodName := ⟨RX3, "back", "(II)I"⟩
abbrev cX3_part : ByteArray := prog_1_method_18_code
def yX3_part : MethodName := ⟨RX3, "part", "(I)I"⟩
abbrev cX3_filter : ByteArray := prog_1_method_19_code
def yX3_filter : MethodName := ⟨RX3, "filter", "(IIIII)I"⟩
abbrev cX3_found : ByteArray := prog_1_method_20_code
def yX3_found : MethodName := ⟨RX3, "found", "(I)I"⟩
abbrev cX3_sum : ByteArray := prog_1_method_21_code
def yX3_sum : MethodName := ⟨RX3, "sum", "(I)J"⟩
abbrev cX3_count : ByteArray := prog_1_method_22_code
def yX3_count : MethodName := ⟨RX3, "count", "(I)I"⟩
abbrev cX3_kindNumbered : ByteArray := prog_1_method_23_code
def yX3_kindNumbered : MethodName := ⟨RX3, "kindNumbered", "(I)LRecordLabels$Kind;"⟩
abbrev cX3_setNumbered : ByteArray := prog_1_method_24_code
def yX3_setNumbered : MethodName := ⟨RX3, "setNumbered", "(I)LRecordLabels$LabelSet;"⟩
abbrev cX3_tableNumbered : ByteArray := prog_1_method_25_code
def yX3_tableNumbered : MethodName := ⟨RX3, "tableNumbered", "(I)LRecordLabels$Table;"⟩
abbrev cX3_oneIf : ByteArray := prog_1_method_26_code
def yX3_oneIf : MethodName := ⟨RX3, "oneIf", "(Z)I"⟩
abbrev cX3_isFromTo : ByteArray := prog_1_method_27_code
def yX3_isFromTo : MethodName := ⟨RX3, "isFromTo", "(III)Z"⟩
abbrev cX3_askRule : ByteArray := prog_1_method_28_code
def yX3_askRule : MethodName := ⟨RX3, "askRule", "(LRecordLabels$Kind;IJ)I"⟩
abbrev cX3_arcRuleAnswer : ByteArray := prog_1_method_29_code
def yX3_arcRuleAnswer : MethodName := ⟨RX3, "arcRuleAnswer", "(IJ)I"⟩
abbrev cX3_valueOf : ByteArray := prog_1_method_30_code
def yX3_valueOf : MethodName := ⟨RX3, "valueOf", "(LRecordLabels$Kind;IJ)J"⟩
abbrev cX3_nodeValue : ByteArray := prog_1_method_31_code
def yX3_nodeValue : MethodName := ⟨RX3, "nodeValue", "(IJ)J"⟩
abbrev cX3_arcValue : ByteArray := prog_1_method_32_code
def yX3_arcValue : MethodName := ⟨RX3, "arcValue", "(IJ)J"⟩
abbrev cX3_joined : ByteArray := prog_1_method_33_code
def yX3_joined : MethodName := ⟨RX3, "joined", "(ILRecordLabels$LabelSet;LRecordLabels$LabelSet;)I"⟩
abbrev cX3_kindOfItem : ByteArray := prog_1_method_34_code
def yX3_kindOfItem : MethodName := ⟨RX3, "kindOfItem", "(LRecordLabels$Table;I)LRecordLabels$Kind;"⟩
abbrev cX3_toCell : ByteArray := prog_1_method_35_code
def yX3_toCell : MethodName := ⟨RX3, "toCell", "(LRecordLabels$Table;II)I"⟩
abbrev cX3_fromCell : ByteArray := prog_1_method_36_code
def yX3_fromCell : MethodName := ⟨RX3, "fromCell", "(LRecordLabels$Table;II)I"⟩
abbrev cX3_draftOf : ByteArray := prog_1_method_37_code
def yX3_draftOf : MethodName := ⟨RX3, "draftOf", "(LRecordLabels$Table;I)V"⟩
abbrev cX3_putTogether : ByteArray := prog_1_method_38_code
def yX3_putTogether : MethodName := ⟨RX3, "putTogether", "(LRecordLabels$Table;)I"⟩
abbrev cX3_wrongItem : ByteArray := prog_1_method_39_code
def yX3_wrongItem : MethodName := ⟨RX3, "wrongItem", "(LRecordLabels$Table;)I"⟩
abbrev cX3_highestOf : ByteArray := prog_1_method_40_code
def yX3_highestOf : MethodName := ⟨RX3, "highestOf", "(LRecordLabels$Table;I)I"⟩
def RX4 : String := "RecordLabelsModel"
def TX4 : u_T := fun k => match k with
  | 0 => ("RecordLabelsModel", "many", "[I", true)
  | 1 => ("RecordLabelsModel", "names", "[J", true)
  | 2 => ("RecordLabelsModel", "codeOf", "[I", true)
  | 3 => ("RecordLabelsModel", "constantOf", "[I", true)
  | 4 => ("RecordLabelsModel", "state", "[I", true)
  | 5 => ("RecordLabelsModel", "fails", "[Z", true)
  | 6 => ("RecordLabelsModel", "result", "J", false)
  | 7 => ("RecordLabelsModel", "failures", "I", false)
  | 8 => ("RecordLabelsModel", "wrongs", "I", false)
  | 9 => ("RecordLabelsModel", "setKind", "[I", true)
  | 10 => ("RecordLabelsModel", "held", "[I", true)
  | 11 => ("RecordLabelsModel", "records", "[I", true)
  | 12 => ("RecordLabelsModel", "cells", "[I", true)
  | 13 => ("RecordLabelsModel", "latest", "I", false)
  | 14 => ("RecordLabelsModel", "parts", "[I", true)
  | 15 => ("RecordLabelsModel", "finds", "I", false)
  | 16 => ("RecordLabelsModel", "foundAt", "[I", true)
  | 17 => ("RecordLabelsModel", "came", "J", false)
  | _ => ("RecordLabelsModel", "draft", "[I", true)
def tyX4 : Nat → FieldType := fun k => match k with
  | 0 => .array .int
  | 1 => .array .long
  | 2 => .array .int
  | 3 => .array .int
  | 4 => .array .int
  | 5 => .array .boolean
  | 6 => .long
  | 7 => .int
  | 8 => .int
  | 9 => .array .int
  | 10 => .array .int
  | 11 => .array .int
  | 12 => .array .int
  | 13 => .int
  | 14 => .array .int
  | 15 => .int
  | 16 => .array .int
  | 17 => .long
  | _ => .array .int
abbrev wsX40 : List Cond := u_ws RX4 TX4 19
theorem nmX4 : ∀ a, a < 19 → ∀ b, b < 19 → a ≠ b → (TX4 a).2.1 ≠ (TX4 b).2.1 := by decide +kernel
theorem tyX4_ok : ∀ k, k < 19 → parseFieldDescriptor (TX4 k).2.2.1 = some (tyX4 k) := by decide +kernel
abbrev cX4_init : ByteArray := prog_6_method_1_code
def yX4_init : MethodName := ⟨RX4, "<init>", "()V"⟩
abbrev cX4_isIn : ByteArray := prog_6_method_2_code
def yX4_isIn : MethodName := ⟨RX4, "isIn", "(III)Z"⟩
abbrev cX4_isKind : ByteArray := prog_6_method_3_code
def yX4_isKind : MethodName := ⟨RX4, "isKind", "(I)Z"⟩
abbrev cX4_isSet : ByteArray := prog_6_method_4_code
def yX4_isSet : MethodName := ⟨RX4, "isSet", "(I)Z"⟩
abbrev cX4_isTable : ByteArray := prog_6_method_5_code
def yX4_isTable : MethodName := ⟨RX4, "isTable", "(I)Z"⟩
abbrev cX4_isCode : ByteArray := prog_6_method_6_code
def yX4_isCode : MethodName := ⟨RX4, "isCode", "(II)Z"⟩
abbrev cX4_constant : ByteArray := prog_6_method_7_code
def yX4_constant : MethodName := ⟨RX4, "constant", "(II)I"⟩
abbrev cX4_codeNow : ByteArray := prog_6_method_8_code
def yX4_codeNow : MethodName := ⟨RX4, "codeNow", "(II)I"⟩
abbrev cX4_nameOf : ByteArray := prog_6_method_9_code
def yX4_nameOf : MethodName := ⟨RX4, "nameOf", "(II)J"⟩
abbrev cX4_code : ByteArray := prog_6_method_10_code
def yX4_code : MethodName := ⟨RX4, "code", "(IJ)I"⟩
abbrev cX4_name : ByteArray := prog_6_method_11_code
def yX4_name : MethodName := ⟨RX4, "name", "(II)J"⟩
abbrev cX4_swap : ByteArray := prog_6_method_12_code
def yX4_swap : MethodName := ⟨RX4, "swap", "(III)I"⟩
abbrev cX4_begin : ByteArray := prog_6_method_13_code
def yX4_begin : MethodName := ⟨RX4, "begin", "(I)I"⟩
abbrev cX4_works : ByteArray := prog_6_method_14_code
def yX4_works : MethodName := ⟨RX4, "works", "(IIJ)I"⟩
abbrev cX4_lost : ByteArray := prog_6_method_15_code
def yX4_lost : MethodName := ⟨RX4, "lost", "(I)I"⟩
abbrev cX4_rule : ByteArray := prog_6_method_16_code
def yX4_rule : MethodName := ⟨RX4, "rule", "(IIJ)I"⟩
abbrev cX4_result : ByteArray := prog_6_method_17_code
def yX4_result : MethodName := ⟨RX4, "result", "()J"⟩
abbrev cX4_fail : ByteArray := prog_6_method_18_code
def yX4_fail : MethodName := ⟨RX4, "fail", "(IZ)I"⟩
abbrev cX4_started : ByteArray := prog_6_method_19_code
def yX4_started : MethodName := ⟨RX4, "started", "(I)I"⟩
abbrev cX4_size : ByteArray := prog_6_method_20_code
def yX4_size : MethodName := ⟨RX4, "size", "(I)I"⟩
abbrev cX4_clear : ByteArray := prog_6_method_21_code
def yX4_clear : MethodName := ⟨RX4, "clear", "(II)I"⟩
abbrev cX4_put : ByteArray := prog_6_method_22_code
def yX4_put : MethodName := ⟨RX4, "put", "(IIZ)I"⟩
abbrev cX4_join : ByteArray := prog_6_method_23_code
def yX4_join : MethodName := ⟨RX4, "join", "(IIII)I"⟩
abbrev cX4_member : ByteArray := prog_6_method_24_code
def yX4_member : MethodName := ⟨RX4, "member", "(II)I"⟩
abbrev cX4_about : ByteArray := prog_6_method_25_code
def yX4_about : MethodName := ⟨RX4, "about", "(II)I"⟩
abbrev cX4_items : ByteArray := prog_6_method_26_code
def yX4_items : MethodName := ⟨RX4, "items", "(I)I"⟩
abbrev cX4_kindOf : ByteArray := prog_6_method_27_code
def yX4_kindOf : MethodName := ⟨RX4, "kindOf", "(II)I"⟩
abbrev cX4_wrong : ByteArray := prog_6_method_28_code
def yX4_wrong : MethodName := ⟨RX4, "wrong", "(I[II)I"⟩
abbrev cX4_take : ByteArray := prog_6_method_29_code
def yX4_take : MethodName := ⟨RX4, "take", "(I[II)V"⟩
abbrev cX4_record : ByteArray := prog_6_method_30_code
def yX4_record : MethodName := ⟨RX4, "record", "(IIIII)I"⟩
abbrev cX4_isCell : ByteArray := prog_6_method_31_code
def yX4_isCell : MethodName := ⟨RX4, "isCell", "(III)Z"⟩
abbrev cX4_lay : ByteArray := prog_6_method_32_code
def yX4_lay : MethodName := ⟨RX4, "lay", "(IIII)I"⟩
abbrev cX4_toldOf : ByteArray := prog_6_method_33_code
def yX4_toldOf : MethodName := ⟨RX4, "toldOf", "(III)I"⟩
abbrev cX4_cell : ByteArray := prog_6_method_34_code
def yX4_cell : MethodName := ⟨RX4, "cell", "(III)I"⟩
abbrev cX4_back : ByteArray := prog_6_method_35_code
def yX4_back : MethodName := ⟨RX4, "back", "(II)I"⟩
abbrev cX4_part : ByteArray := prog_6_method_36_code
def yX4_part : MethodName := ⟨RX4, "part", "(I)I"⟩
abbrev cX4_filter : ByteArray := prog_6_method_37_code
def yX4_filter : MethodName := ⟨RX4, "filter", "(IIIII)I"⟩
abbrev cX4_found : ByteArray := prog_6_method_38_code
def yX4_found : MethodName := ⟨RX4, "found", "(I)I"⟩
abbrev cX4_sum : ByteArray := prog_6_method_39_code
def yX4_sum : MethodName := ⟨RX4, "sum", "(I)J"⟩
abbrev cX4_count : ByteArray := prog_6_method_40_code
def yX4_count : MethodName := ⟨RX4, "count", "(I)I"⟩
def RJ6 : String := "java/lang/Integer"
def TJ6 : u_T := fun k => match k with
  | _ => ("", "", "", false)
def tyJ6 : Nat → FieldType := fun k => match k with
  | _ => .int
abbrev wsJ60 : List Cond := u_ws RJ6 TJ6 0
theorem nmJ6 : ∀ a, a < 0 → ∀ b, b < 0 → a ≠ b → (TJ6 a).2.1 ≠ (TJ6 b).2.1 := by decide +kernel
theorem tyJ6_ok : ∀ k, k < 0 → parseFieldDescriptor (TJ6 k).2.2.1 = some (tyJ6 k) := by decide +kernel
abbrev cJ6_bitCount_0f7a4 : ByteArray := prog_7_method_49_code
def yJ6_bitCount_0f7a4 : MethodName := ⟨RJ6, "bitCount", "(I)I"⟩
def RL : String := "RecordLabelsLaw"
abbrev cL_law : ByteArray := code
def yL_law : MethodName := ⟨RL, "law", "([I)Z"⟩
def wsX0_init : List Cond := .code yX0_init cX0_init 4 none :: ([.methodLink RX0 3 objectInit, .instanceMethod objectInit, .code objectInit ⟨#[0xb1]⟩ 1 none, .fieldLink RX0 9 "RecordLabels$Kind" "start" "I", .fieldLink RX0 15 "RecordLabels$Kind" "toldToFail" "Z", .fieldLink RX0 19 "RecordLabels$Kind" "number" "I", .fieldLink RX0 22 "RecordLabels$Kind" "names" "[J", .fieldLink RX0 26 "RecordLabels$Kind" "size" "I", .arrayClass .int, .fieldLink RX0 29 "RecordLabels$Kind" "constants" "[I", .fieldLink RX0 33 "RecordLabels$Kind" "codes" "[I"] ++ wsX00)
def wsX0_has : List Cond := .code yX0_has cX0_has 2 (some .boolean) :: ([.fieldLink RX0 26 "RecordLabels$Kind" "size" "I"] ++ wsX00)
def wsX0_constantOf : List Cond := .code yX0_constantOf cX0_constantOf 2 (some .int) :: ([.fieldLink RX0 29 "RecordLabels$Kind" "constants" "[I", .methodLink RX0 36 yX0_has, .instanceMethod yX0_has, .selects RX0 yX0_has yX0_has, .initialized RX0, .code yX0_has cX0_has 2 (some .boolean), .fieldLink RX0 26 "RecordLabels$Kind" "size" "I"] ++ wsX00)
def wsX0_codeOf : List Cond := .code yX0_codeOf cX0_codeOf 2 (some .int) :: ([.fieldLink RX0 33 "RecordLabels$Kind" "codes" "[I", .methodLink RX0 36 yX0_has, .instanceMethod yX0_has, .selects RX0 yX0_has yX0_has, .initialized RX0, .code yX0_has cX0_has 2 (some .boolean), .fieldLink RX0 26 "RecordLabels$Kind" "size" "I"] ++ wsX00)
def wsX0_constantNamed : List Cond := .code yX0_constantNamed cX0_constantNamed 4 (some .int) :: ([.fieldLink RX0 26 "RecordLabels$Kind" "size" "I", .fieldLink RX0 22 "RecordLabels$Kind" "names" "[J"] ++ wsX00)
def wsX0_exchange : List Cond := .code yX0_exchange cX0_exchange 4 none :: ([.fieldLink RX0 29 "RecordLabels$Kind" "constants" "[I", .fieldLink RX0 33 "RecordLabels$Kind" "codes" "[I", .methodLink RX0 36 yX0_has, .instanceMethod yX0_has, .selects RX0 yX0_has yX0_has, .initialized RX0, .code yX0_has cX0_has 2 (some .boolean), .fieldLink RX0 26 "RecordLabels$Kind" "size" "I"] ++ wsX00)
def wsX0_startForRule : List Cond := .code yX0_startForRule cX0_startForRule 1 (some .int) :: ([.fieldLink RX0 9 "RecordLabels$Kind" "start" "I", .fieldLink RX0 15 "RecordLabels$Kind" "toldToFail" "Z"] ++ wsX00)
def wsX1_init : List Cond := .code yX1_init cX1_init 2 none :: ([.methodLink RX1 1 objectInit, .instanceMethod objectInit, .code objectInit ⟨#[0xb1]⟩ 1 none, .fieldLink RX1 7 "RecordLabels$LabelSet" "members" "I", .fieldLink RX1 13 "RecordLabels$LabelSet" "kind" "LRecordLabels$Kind;"] ++ wsX10)
def wsJ6_bitCount_0f7a4 : List Cond := .code yJ6_bitCount_0f7a4 cJ6_bitCount_0f7a4 1 (some .int) :: ([.constant RJ6 265 (1431655765), .constant RJ6 266 (858993459), .constant RJ6 267 (252645135)])
def wsX1_size : List Cond := .code yX1_size cX1_size 1 (some .int) :: ([.fieldLink RX1 7 "RecordLabels$LabelSet" "members" "I", .methodLink RX1 17 yJ6_bitCount_0f7a4, .static yJ6_bitCount_0f7a4, .initialized RJ6, .code yJ6_bitCount_0f7a4 cJ6_bitCount_0f7a4 1 (some .int), .constant RJ6 265 (1431655765), .constant RJ6 266 (858993459), .constant RJ6 267 (252645135)] ++ wsX10)
def wsX1_holds : List Cond := .code yX1_holds cX1_holds 2 (some .boolean) :: ([.fieldLink RX1 13 "RecordLabels$LabelSet" "kind" "LRecordLabels$Kind;", .fieldLink RX1 7 "RecordLabels$LabelSet" "members" "I", .instanceMethod yX0_has, .initialized RX0, .selects RX0 yX0_has yX0_has, .code yX0_has cX0_has 2 (some .boolean), .fieldLink RX0 26 "RecordLabels$Kind" "size" "I"] ++ wsX10 ++ wsX00)
def wsX1_become : List Cond := .code yX1_become cX1_become 3 none :: ([.fieldLink RX1 13 "RecordLabels$LabelSet" "kind" "LRecordLabels$Kind;", .fieldLink RX1 7 "RecordLabels$LabelSet" "members" "I"] ++ wsX10)
def wsX2_init : List Cond := .code yX2_init cX2_init 4 none :: ([.methodLink RX2 3 objectInit, .instanceMethod objectInit, .code objectInit ⟨#[0xb1]⟩ 1 none, .fieldLink RX2 9 "RecordLabels$Table" "size" "I", .fieldLink RX2 15 "RecordLabels$Table" "kind" "LRecordLabels$Kind;", .fieldLink RX2 19 "RecordLabels$Table" "items" "I", .fieldLink RX2 22 "RecordLabels$Table" "measure" "I", .classLink RX2 25 "[[I", .arrayClass .int, .fieldLink RX2 27 "RecordLabels$Table" "columns" "[[I"] ++ wsX20)
def wsX2_hasRecord : List Cond := .code yX2_hasRecord cX2_hasRecord 2 (some .boolean) :: ([.fieldLink RX2 9 "RecordLabels$Table" "size" "I"] ++ wsX20)
def wsX2_hasItem : List Cond := .code yX2_hasItem cX2_hasItem 2 (some .boolean) :: ([.fieldLink RX2 19 "RecordLabels$Table" "items" "I"] ++ wsX20)
def wsX3_init_r1 : List Cond := [Cond.methodLink RX3 1 objectInit, Cond.instanceMethod objectInit, Cond.code objectInit ⟨#[0xb1]⟩ 1 none, Cond.classLink RX3 7 RX0, Cond.instantiable RX0 7, Cond.initialized RX0, Cond.fieldLink RX3 11 "RecordLabels" "NODE_NAMES" "[J", Cond.fieldLink RX3 18 "RecordLabels" "nodeKind" "LRecordLabels$Kind;", Cond.fieldLink RX3 22 "RecordLabels" "ARC_NAMES" "[J", Cond.fieldLink RX3 25 "RecordLabels" "arcKind" "LRecordLabels$Kind;", Cond.fieldLink RX3 28 "RecordLabels" "SIGN_NAMES" "[J", Cond.fieldLink RX3 31 "RecordLabels" "signKind" "LRecordLabels$Kind;", Cond.classLink RX3 34 RX1, Cond.fieldLink RX3 36 "RecordLabels" "sets" "[LRecordLabels$LabelSet;", Cond.classLink RX3 40 RX2, Cond.instantiable RX2 5, Cond.initialized RX2, Cond.fieldLink RX3 45 "RecordLabels" "nodeTable" "LRecordLabels$Table;", Cond.fieldLink RX3 49 "RecordLabels" "arcTable" "LRecordLabels$Table;", Cond.fieldLink RX3 52 "RecordLabels" "lastResult" "J", Cond.fieldLink RX3 56 "RecordLabels" "ruleFailures" "I", Cond.fieldLink RX3 60 "RecordLabels" "wrongRecords" "I", Cond.arrayClass .int, Cond.fieldLink RX3 63 "RecordLabels" "draft" "[I"]
def wsX3_init_r2 : List Cond := [Cond.fieldLink RX3 67 "RecordLabels" "parts" "[I", Cond.fieldLink RX3 70 "RecordLabels" "partsTable" "LRecordLabels$Table;", Cond.fieldLink RX3 73 "RecordLabels" "foundRecords" "[I", Cond.fieldLink RX3 76 "RecordLabels" "foundSize" "I", Cond.instantiable RX1 2, Cond.initialized RX1, Cond.instanceMethod yX0_init, Cond.code yX0_init cX0_init 4 none, Cond.methodLink RX0 3 objectInit, Cond.fieldLink RX0 9 "RecordLabels$Kind" "start" "I", Cond.fieldLink RX0 15 "RecordLabels$Kind" "toldToFail" "Z", Cond.fieldLink RX0 19 "RecordLabels$Kind" "number" "I", Cond.fieldLink RX0 22 "RecordLabels$Kind" "names" "[J", Cond.fieldLink RX0 26 "RecordLabels$Kind" "size" "I", Cond.fieldLink RX0 29 "RecordLabels$Kind" "constants" "[I", Cond.fieldLink RX0 33 "RecordLabels$Kind" "codes" "[I", Cond.instanceMethod yX2_init, Cond.code yX2_init cX2_init 4 none, Cond.methodLink RX2 3 objectInit, Cond.fieldLink RX2 9 "RecordLabels$Table" "size" "I", Cond.fieldLink RX2 15 "RecordLabels$Table" "kind" "LRecordLabels$Kind;", Cond.fieldLink RX2 19 "RecordLabels$Table" "items" "I", Cond.fieldLink RX2 22 "RecordLabels$Table" "measure" "I", Cond.classLink RX2 25 "[[I"]
def wsX3_init_r3 : List Cond := [Cond.fieldLink RX2 27 "RecordLabels$Table" "columns" "[[I", Cond.instanceMethod yX1_init, Cond.code yX1_init cX1_init 2 none, Cond.methodLink RX1 1 objectInit, Cond.fieldLink RX1 7 "RecordLabels$LabelSet" "members" "I", Cond.fieldLink RX1 13 "RecordLabels$LabelSet" "kind" "LRecordLabels$Kind;"]
def wsX3_init : List Cond := .code yX3_init cX3_init 2 none :: ((wsX3_init_r1 ++ (wsX3_init_r2 ++ wsX3_init_r3)) ++ wsX00 ++ wsX30 ++ wsX20 ++ wsX10)
def wsX3_kindNumbered : List Cond := .code yX3_kindNumbered cX3_kindNumbered 2 (some (.object "RecordLabels$Kind")) :: ([.fieldLink RX3 18 "RecordLabels" "nodeKind" "LRecordLabels$Kind;", .fieldLink RX3 25 "RecordLabels" "arcKind" "LRecordLabels$Kind;", .fieldLink RX3 31 "RecordLabels" "signKind" "LRecordLabels$Kind;"] ++ wsX30)
def wsX3_code : List Cond := .code yX3_code cX3_code 6 (some .int) :: ([.methodLink RX3 82 yX3_kindNumbered, .instanceMethod yX3_kindNumbered, .selects RX3 yX3_kindNumbered yX3_kindNumbered, .initialized RX3, .code yX3_kindNumbered cX3_kindNumbered 2 (some (.object "RecordLabels$Kind")), .fieldLink RX3 18 "RecordLabels" "nodeKind" "LRecordLabels$Kind;", .fieldLink RX3 25 "RecordLabels" "arcKind" "LRecordLabels$Kind;", .fieldLink RX3 31 "RecordLabels" "signKind" "LRecordLabels$Kind;", .instanceMethod yX0_constantNamed, .initialized RX0, .selects RX0 yX0_constantNamed yX0_constantNamed, .code yX0_constantNamed cX0_constantNamed 4 (some .int), .fieldLink RX0 26 "RecordLabels$Kind" "size" "I", .fieldLink RX0 22 "RecordLabels$Kind" "names" "[J", .instanceMethod yX0_codeOf, .selects RX0 yX0_codeOf yX0_codeOf, .code yX0_codeOf cX0_codeOf 2 (some .int), .fieldLink RX0 33 "RecordLabels$Kind" "codes" "[I", .methodLink RX0 36 yX0_has, .instanceMethod yX0_has, .selects RX0 yX0_has yX0_has, .code yX0_has cX0_has 2 (some .boolean)] ++ wsX30 ++ wsX00)
def wsX3_name : List Cond := .code yX3_name cX3_name 4 (some .long) :: ([.methodLink RX3 82 yX3_kindNumbered, .instanceMethod yX3_kindNumbered, .selects RX3 yX3_kindNumbered yX3_kindNumbered, .initialized RX3, .code yX3_kindNumbered cX3_kindNumbered 2 (some (.object "RecordLabels$Kind")), .fieldLink RX3 18 "RecordLabels" "nodeKind" "LRecordLabels$Kind;", .fieldLink RX3 25 "RecordLabels" "arcKind" "LRecordLabels$Kind;", .fieldLink RX3 31 "RecordLabels" "signKind" "LRecordLabels$Kind;", .instanceMethod yX0_has, .initialized RX0, .selects RX0 yX0_has yX0_has, .code yX0_has cX0_has 2 (some .boolean), .fieldLink RX0 26 "RecordLabels$Kind" "size" "I"] ++ wsX00 ++ wsX30)
def wsX3_swap : List Cond := .code yX3_swap cX3_swap 5 (some .int) :: ([.methodLink RX3 82 yX3_kindNumbered, .instanceMethod yX3_kindNumbered, .selects RX3 yX3_kindNumbered yX3_kindNumbered, .initialized RX3, .code yX3_kindNumbered cX3_kindNumbered 2 (some (.object "RecordLabels$Kind")), .fieldLink RX3 18 "RecordLabels" "nodeKind" "LRecordLabels$Kind;", .fieldLink RX3 25 "RecordLabels" "arcKind" "LRecordLabels$Kind;", .fieldLink RX3 31 "RecordLabels" "signKind" "LRecordLabels$Kind;", .instanceMethod yX0_has, .initialized RX0, .selects RX0 yX0_has yX0_has, .code yX0_has cX0_has 2 (some .boolean), .fieldLink RX0 26 "RecordLabels$Kind" "size" "I", .instanceMethod yX0_exchange, .selects RX0 yX0_exchange yX0_exchange, .code yX0_exchange cX0_exchange 4 none, .fieldLink RX0 29 "RecordLabels$Kind" "constants" "[I", .fieldLink RX0 33 "RecordLabels$Kind" "codes" "[I", .methodLink RX0 36 yX0_has] ++ wsX30 ++ wsX00)
def wsX3_arcRuleAnswer : List Cond := .code yX3_arcRuleAnswer cX3_arcRuleAnswer 3 (some .int) :: ([.fieldLink RX3 214 "RecordLabels" "WITHIN_ITEMS" "[J"])
def wsX3_askRule : List Cond := .code yX3_askRule cX3_askRule 7 (some .int) :: ([.fieldLink RX3 25 "RecordLabels" "arcKind" "LRecordLabels$Kind;", .fieldLink RX3 56 "RecordLabels" "ruleFailures" "I", .instanceMethod yX0_startForRule, .initialized RX0, .selects RX0 yX0_startForRule yX0_startForRule, .code yX0_startForRule cX0_startForRule 1 (some .int), .fieldLink RX0 9 "RecordLabels$Kind" "start" "I", .fieldLink RX0 15 "RecordLabels$Kind" "toldToFail" "Z", .methodLink RX3 210 yX3_arcRuleAnswer, .static yX3_arcRuleAnswer, .initialized RX3, .code yX3_arcRuleAnswer cX3_arcRuleAnswer 3 (some .int), .fieldLink RX3 214 "RecordLabels" "WITHIN_ITEMS" "[J"] ++ wsX30 ++ wsX00)
def wsX3_nodeValue : List Cond := .code yX3_nodeValue cX3_nodeValue 3 (some .long) :: ([.constantLong RX3 224 (2), .constantLong RX3 226 (10)])
def wsX3_arcValue : List Cond := .code yX3_arcValue cX3_arcValue 3 (some .long) :: ([.constantLong RX3 224 (2), .constantLong RX3 228 (100), .fieldLink RX3 214 "RecordLabels" "WITHIN_ITEMS" "[J"])
def wsX3_valueOf : List Cond := .code yX3_valueOf cX3_valueOf 4 (some .long) :: ([.methodLink RX3 217 yX3_nodeValue, .static yX3_nodeValue, .initialized RX3, .code yX3_nodeValue cX3_nodeValue 3 (some .long), .constantLong RX3 224 (2), .constantLong RX3 226 (10), .methodLink RX3 221 yX3_arcValue, .static yX3_arcValue, .code yX3_arcValue cX3_arcValue 3 (some .long), .constantLong RX3 228 (100), .fieldLink RX3 214 "RecordLabels" "WITHIN_ITEMS" "[J"] ++ wsX00)
def wsX3_rule_r1 : List Cond := [Cond.fieldLink RX3 52 "RecordLabels" "lastResult" "J", Cond.methodLink RX3 82 yX3_kindNumbered, Cond.instanceMethod yX3_kindNumbered, Cond.selects RX3 yX3_kindNumbered yX3_kindNumbered, Cond.initialized RX3, Cond.code yX3_kindNumbered cX3_kindNumbered 2 (some (.object "RecordLabels$Kind")), Cond.fieldLink RX3 18 "RecordLabels" "nodeKind" "LRecordLabels$Kind;", Cond.fieldLink RX3 25 "RecordLabels" "arcKind" "LRecordLabels$Kind;", Cond.fieldLink RX3 31 "RecordLabels" "signKind" "LRecordLabels$Kind;", Cond.instanceMethod yX0_has, Cond.initialized RX0, Cond.selects RX0 yX0_has yX0_has, Cond.code yX0_has cX0_has 2 (some .boolean), Cond.fieldLink RX0 26 "RecordLabels$Kind" "size" "I", Cond.instanceMethod yX0_constantOf, Cond.selects RX0 yX0_constantOf yX0_constantOf, Cond.code yX0_constantOf cX0_constantOf 2 (some .int), Cond.fieldLink RX0 29 "RecordLabels$Kind" "constants" "[I", Cond.methodLink RX0 36 yX0_has, Cond.methodLink RX3 111 yX3_askRule, Cond.instanceMethod yX3_askRule, Cond.selects RX3 yX3_askRule yX3_askRule, Cond.code yX3_askRule cX3_askRule 7 (some .int), Cond.fieldLink RX3 56 "RecordLabels" "ruleFailures" "I"]
def wsX3_rule_r2 : List Cond := [Cond.instanceMethod yX0_startForRule, Cond.selects RX0 yX0_startForRule yX0_startForRule, Cond.code yX0_startForRule cX0_startForRule 1 (some .int), Cond.fieldLink RX0 9 "RecordLabels$Kind" "start" "I", Cond.fieldLink RX0 15 "RecordLabels$Kind" "toldToFail" "Z", Cond.methodLink RX3 210 yX3_arcRuleAnswer, Cond.static yX3_arcRuleAnswer, Cond.code yX3_arcRuleAnswer cX3_arcRuleAnswer 3 (some .int), Cond.fieldLink RX3 214 "RecordLabels" "WITHIN_ITEMS" "[J", Cond.methodLink RX3 115 yX3_valueOf, Cond.static yX3_valueOf, Cond.code yX3_valueOf cX3_valueOf 4 (some .long), Cond.methodLink RX3 217 yX3_nodeValue, Cond.static yX3_nodeValue, Cond.code yX3_nodeValue cX3_nodeValue 3 (some .long), Cond.constantLong RX3 224 (2), Cond.constantLong RX3 226 (10), Cond.methodLink RX3 221 yX3_arcValue, Cond.static yX3_arcValue, Cond.code yX3_arcValue cX3_arcValue 3 (some .long), Cond.constantLong RX3 228 (100)]
def wsX3_rule : List Cond := .code yX3_rule cX3_rule 8 (some .int) :: ((wsX3_rule_r1 ++ wsX3_rule_r2) ++ wsX30 ++ wsX00)
def wsX3_result : List Cond := .code yX3_result cX3_result 1 (some .long) :: ([.fieldLink RX3 52 "RecordLabels" "lastResult" "J"] ++ wsX30)
def wsX3_oneIf : List Cond := .code yX3_oneIf cX3_oneIf 1 (some .int) :: ([])
def wsX3_fail : List Cond := .code yX3_fail cX3_fail 5 (some .int) :: ([.methodLink RX3 82 yX3_kindNumbered, .instanceMethod yX3_kindNumbered, .selects RX3 yX3_kindNumbered yX3_kindNumbered, .initialized RX3, .code yX3_kindNumbered cX3_kindNumbered 2 (some (.object "RecordLabels$Kind")), .fieldLink RX3 18 "RecordLabels" "nodeKind" "LRecordLabels$Kind;", .fieldLink RX3 25 "RecordLabels" "arcKind" "LRecordLabels$Kind;", .fieldLink RX3 31 "RecordLabels" "signKind" "LRecordLabels$Kind;", .methodLink RX3 126 yX3_oneIf, .static yX3_oneIf, .code yX3_oneIf cX3_oneIf 1 (some .int)] ++ wsX00 ++ wsX30)
def wsX3_started : List Cond := .code yX3_started cX3_started 3 (some .int) :: ([.methodLink RX3 82 yX3_kindNumbered, .instanceMethod yX3_kindNumbered, .selects RX3 yX3_kindNumbered yX3_kindNumbered, .initialized RX3, .code yX3_kindNumbered cX3_kindNumbered 2 (some (.object "RecordLabels$Kind")), .fieldLink RX3 18 "RecordLabels" "nodeKind" "LRecordLabels$Kind;", .fieldLink RX3 25 "RecordLabels" "arcKind" "LRecordLabels$Kind;", .fieldLink RX3 31 "RecordLabels" "signKind" "LRecordLabels$Kind;"] ++ wsX00 ++ wsX30)
def wsX3_setNumbered : List Cond := .code yX3_setNumbered cX3_setNumbered 2 (some (.object "RecordLabels$LabelSet")) :: ([.fieldLink RX3 36 "RecordLabels" "sets" "[LRecordLabels$LabelSet;"] ++ wsX30)
def wsX3_clear_r1 : List Cond := [Cond.methodLink RX3 130 yX3_setNumbered, Cond.instanceMethod yX3_setNumbered, Cond.selects RX3 yX3_setNumbered yX3_setNumbered, Cond.initialized RX3, Cond.code yX3_setNumbered cX3_setNumbered 2 (some (.object "RecordLabels$LabelSet")), Cond.fieldLink RX3 36 "RecordLabels" "sets" "[LRecordLabels$LabelSet;", Cond.methodLink RX3 82 yX3_kindNumbered, Cond.instanceMethod yX3_kindNumbered, Cond.selects RX3 yX3_kindNumbered yX3_kindNumbered, Cond.code yX3_kindNumbered cX3_kindNumbered 2 (some (.object "RecordLabels$Kind")), Cond.fieldLink RX3 18 "RecordLabels" "nodeKind" "LRecordLabels$Kind;", Cond.fieldLink RX3 25 "RecordLabels" "arcKind" "LRecordLabels$Kind;", Cond.fieldLink RX3 31 "RecordLabels" "signKind" "LRecordLabels$Kind;", Cond.instanceMethod yX1_size, Cond.initialized RX1, Cond.selects RX1 yX1_size yX1_size, Cond.code yX1_size cX1_size 1 (some .int), Cond.fieldLink RX1 7 "RecordLabels$LabelSet" "members" "I", Cond.methodLink RX1 17 yJ6_bitCount_0f7a4, Cond.static yJ6_bitCount_0f7a4, Cond.initialized RJ6, Cond.code yJ6_bitCount_0f7a4 cJ6_bitCount_0f7a4 1 (some .int), Cond.constant RJ6 265 (1431655765), Cond.constant RJ6 266 (858993459)]
def wsX3_clear_r2 : List Cond := [Cond.constant RJ6 267 (252645135), Cond.instanceMethod yX1_become, Cond.selects RX1 yX1_become yX1_become, Cond.code yX1_become cX1_become 3 none, Cond.fieldLink RX1 13 "RecordLabels$LabelSet" "kind" "LRecordLabels$Kind;"]
def wsX3_clear : List Cond := .code yX3_clear cX3_clear 6 (some .int) :: ((wsX3_clear_r1 ++ wsX3_clear_r2) ++ wsX30 ++ wsX10)
def wsX3_put_r1 : List Cond := [Cond.methodLink RX3 130 yX3_setNumbered, Cond.instanceMethod yX3_setNumbered, Cond.selects RX3 yX3_setNumbered yX3_setNumbered, Cond.initialized RX3, Cond.code yX3_setNumbered cX3_setNumbered 2 (some (.object "RecordLabels$LabelSet")), Cond.fieldLink RX3 36 "RecordLabels" "sets" "[LRecordLabels$LabelSet;", Cond.instanceMethod yX0_has, Cond.initialized RX0, Cond.selects RX0 yX0_has yX0_has, Cond.code yX0_has cX0_has 2 (some .boolean), Cond.fieldLink RX0 26 "RecordLabels$Kind" "size" "I", Cond.instanceMethod yX0_constantOf, Cond.selects RX0 yX0_constantOf yX0_constantOf, Cond.code yX0_constantOf cX0_constantOf 2 (some .int), Cond.fieldLink RX0 29 "RecordLabels$Kind" "constants" "[I", Cond.methodLink RX0 36 yX0_has, Cond.instanceMethod yX1_holds, Cond.initialized RX1, Cond.selects RX1 yX1_holds yX1_holds, Cond.code yX1_holds cX1_holds 2 (some .boolean), Cond.fieldLink RX1 13 "RecordLabels$LabelSet" "kind" "LRecordLabels$Kind;", Cond.fieldLink RX1 7 "RecordLabels$LabelSet" "members" "I", Cond.methodLink RX3 126 yX3_oneIf, Cond.static yX3_oneIf]
def wsX3_put_r2 : List Cond := [Cond.code yX3_oneIf cX3_oneIf 1 (some .int)]
def wsX3_put : List Cond := .code yX3_put cX3_put 8 (some .int) :: ((wsX3_put_r1 ++ wsX3_put_r2) ++ wsX10 ++ wsX30 ++ wsX00)
def wsX3_joined : List Cond := .code yX3_joined cX3_joined 3 (some .int) :: ([] ++ wsX10 ++ wsX00)
def wsX3_join_r1 : List Cond := [Cond.methodLink RX3 130 yX3_setNumbered, Cond.instanceMethod yX3_setNumbered, Cond.selects RX3 yX3_setNumbered yX3_setNumbered, Cond.initialized RX3, Cond.code yX3_setNumbered cX3_setNumbered 2 (some (.object "RecordLabels$LabelSet")), Cond.fieldLink RX3 36 "RecordLabels" "sets" "[LRecordLabels$LabelSet;", Cond.methodLink RX3 151 yX3_joined, Cond.static yX3_joined, Cond.code yX3_joined cX3_joined 3 (some .int), Cond.instanceMethod yX1_become, Cond.initialized RX1, Cond.selects RX1 yX1_become yX1_become, Cond.code yX1_become cX1_become 3 none, Cond.fieldLink RX1 13 "RecordLabels$LabelSet" "kind" "LRecordLabels$Kind;", Cond.fieldLink RX1 7 "RecordLabels$LabelSet" "members" "I", Cond.instanceMethod yX1_size, Cond.selects RX1 yX1_size yX1_size, Cond.code yX1_size cX1_size 1 (some .int), Cond.methodLink RX1 17 yJ6_bitCount_0f7a4, Cond.static yJ6_bitCount_0f7a4, Cond.initialized RJ6, Cond.code yJ6_bitCount_0f7a4 cJ6_bitCount_0f7a4 1 (some .int), Cond.constant RJ6 265 (1431655765), Cond.constant RJ6 266 (858993459)]
def wsX3_join_r2 : List Cond := [Cond.constant RJ6 267 (252645135)]
def wsX3_join : List Cond := .code yX3_join cX3_join 8 (some .int) :: ((wsX3_join_r1 ++ wsX3_join_r2) ++ wsX10 ++ wsX30 ++ wsX00)
def wsX3_member : List Cond := .code yX3_member cX3_member 6 (some .int) :: ([.methodLink RX3 130 yX3_setNumbered, .instanceMethod yX3_setNumbered, .selects RX3 yX3_setNumbered yX3_setNumbered, .initialized RX3, .code yX3_setNumbered cX3_setNumbered 2 (some (.object "RecordLabels$LabelSet")), .fieldLink RX3 36 "RecordLabels" "sets" "[LRecordLabels$LabelSet;", .instanceMethod yX0_constantOf, .initialized RX0, .selects RX0 yX0_constantOf yX0_constantOf, .code yX0_constantOf cX0_constantOf 2 (some .int), .fieldLink RX0 29 "RecordLabels$Kind" "constants" "[I", .methodLink RX0 36 yX0_has, .instanceMethod yX0_has, .selects RX0 yX0_has yX0_has, .code yX0_has cX0_has 2 (some .boolean), .fieldLink RX0 26 "RecordLabels$Kind" "size" "I", .instanceMethod yX1_holds, .initialized RX1, .selects RX1 yX1_holds yX1_holds, .code yX1_holds cX1_holds 2 (some .boolean), .fieldLink RX1 13 "RecordLabels$LabelSet" "kind" "LRecordLabels$Kind;", .fieldLink RX1 7 "RecordLabels$LabelSet" "members" "I"] ++ wsX10 ++ wsX00 ++ wsX30)
def wsX3_about : List Cond := .code yX3_about cX3_about 4 (some .int) :: ([.methodLink RX3 130 yX3_setNumbered, .instanceMethod yX3_setNumbered, .selects RX3 yX3_setNumbered yX3_setNumbered, .initialized RX3, .code yX3_setNumbered cX3_setNumbered 2 (some (.object "RecordLabels$LabelSet")), .fieldLink RX3 36 "RecordLabels" "sets" "[LRecordLabels$LabelSet;", .instanceMethod yX1_size, .initialized RX1, .selects RX1 yX1_size yX1_size, .code yX1_size cX1_size 1 (some .int), .fieldLink RX1 7 "RecordLabels$LabelSet" "members" "I", .methodLink RX1 17 yJ6_bitCount_0f7a4, .static yJ6_bitCount_0f7a4, .initialized RJ6, .code yJ6_bitCount_0f7a4 cJ6_bitCount_0f7a4 1 (some .int), .constant RJ6 265 (1431655765), .constant RJ6 266 (858993459), .constant RJ6 267 (252645135)] ++ wsX10 ++ wsX00 ++ wsX30)
def wsX3_tableNumbered : List Cond := .code yX3_tableNumbered cX3_tableNumbered 2 (some (.object "RecordLabels$Table")) :: ([.fieldLink RX3 45 "RecordLabels" "nodeTable" "LRecordLabels$Table;", .fieldLink RX3 49 "RecordLabels" "arcTable" "LRecordLabels$Table;"] ++ wsX30)
def wsX3_kindOfItem : List Cond := .code yX3_kindOfItem cX3_kindOfItem 3 (some (.object "RecordLabels$Kind")) :: ([.fieldLink RX3 45 "RecordLabels" "nodeTable" "LRecordLabels$Table;", .fieldLink RX3 31 "RecordLabels" "signKind" "LRecordLabels$Kind;"] ++ wsX20 ++ wsX30)
def wsX3_toCell : List Cond := .code yX3_toCell cX3_toCell 5 (some .int) :: ([.methodLink RX3 230 yX3_kindOfItem, .instanceMethod yX3_kindOfItem, .selects RX3 yX3_kindOfItem yX3_kindOfItem, .initialized RX3, .code yX3_kindOfItem cX3_kindOfItem 3 (some (.object "RecordLabels$Kind")), .fieldLink RX3 45 "RecordLabels" "nodeTable" "LRecordLabels$Table;", .fieldLink RX3 31 "RecordLabels" "signKind" "LRecordLabels$Kind;", .instanceMethod yX0_constantOf, .initialized RX0, .selects RX0 yX0_constantOf yX0_constantOf, .code yX0_constantOf cX0_constantOf 2 (some .int), .fieldLink RX0 29 "RecordLabels$Kind" "constants" "[I", .methodLink RX0 36 yX0_has, .instanceMethod yX0_has, .selects RX0 yX0_has yX0_has, .code yX0_has cX0_has 2 (some .boolean), .fieldLink RX0 26 "RecordLabels$Kind" "size" "I"] ++ wsX20 ++ wsX30 ++ wsX00)
def wsX3_highestOf : List Cond := .code yX3_highestOf cX3_highestOf 4 (some .int) :: ([.fieldLink RX3 45 "RecordLabels" "nodeTable" "LRecordLabels$Table;", .constant RX3 238 (1000000), .methodLink RX3 230 yX3_kindOfItem, .instanceMethod yX3_kindOfItem, .selects RX3 yX3_kindOfItem yX3_kindOfItem, .initialized RX3, .code yX3_kindOfItem cX3_kindOfItem 3 (some (.object "RecordLabels$Kind")), .fieldLink RX3 31 "RecordLabels" "signKind" "LRecordLabels$Kind;"] ++ wsX00 ++ wsX20 ++ wsX30)
def wsX3_isFromTo : List Cond := .code yX3_isFromTo cX3_isFromTo 3 (some .boolean) :: ([])
def wsX3_wrongItem : List Cond := .code yX3_wrongItem cX3_wrongItem 3 (some .int) :: ([.fieldLink RX3 63 "RecordLabels" "draft" "[I", .fieldLink RX3 49 "RecordLabels" "arcTable" "LRecordLabels$Table;", .methodLink RX3 234 yX3_highestOf, .instanceMethod yX3_highestOf, .selects RX3 yX3_highestOf yX3_highestOf, .initialized RX3, .code yX3_highestOf cX3_highestOf 4 (some .int), .fieldLink RX3 45 "RecordLabels" "nodeTable" "LRecordLabels$Table;", .constant RX3 238 (1000000), .methodLink RX3 230 yX3_kindOfItem, .instanceMethod yX3_kindOfItem, .selects RX3 yX3_kindOfItem yX3_kindOfItem, .code yX3_kindOfItem cX3_kindOfItem 3 (some (.object "RecordLabels$Kind")), .fieldLink RX3 31 "RecordLabels" "signKind" "LRecordLabels$Kind;", .methodLink RX3 198 yX3_isFromTo, .static yX3_isFromTo, .code yX3_isFromTo cX3_isFromTo 3 (some .boolean)] ++ wsX20 ++ wsX30 ++ wsX00)
def wsX3_putTogether : List Cond := .code yX3_putTogether cX3_putTogether 4 (some .int) :: ([.fieldLink RX3 60 "RecordLabels" "wrongRecords" "I", .fieldLink RX3 67 "RecordLabels" "parts" "[I", .fieldLink RX3 63 "RecordLabels" "draft" "[I", .fieldLink RX3 70 "RecordLabels" "partsTable" "LRecordLabels$Table;", .methodLink RX3 195 yX3_wrongItem, .instanceMethod yX3_wrongItem, .selects RX3 yX3_wrongItem yX3_wrongItem, .initialized RX3, .code yX3_wrongItem cX3_wrongItem 3 (some .int), .fieldLink RX3 49 "RecordLabels" "arcTable" "LRecordLabels$Table;", .methodLink RX3 234 yX3_highestOf, .instanceMethod yX3_highestOf, .selects RX3 yX3_highestOf yX3_highestOf, .code yX3_highestOf cX3_highestOf 4 (some .int), .fieldLink RX3 45 "RecordLabels" "nodeTable" "LRecordLabels$Table;", .constant RX3 238 (1000000), .methodLink RX3 230 yX3_kindOfItem, .instanceMethod yX3_kindOfItem, .selects RX3 yX3_kindOfItem yX3_kindOfItem, .code yX3_kindOfItem cX3_kindOfItem 3 (some (.object "RecordLabels$Kind")), .fieldLink RX3 31 "RecordLabels" "signKind" "LRecordLabels$Kind;", .methodLink RX3 198 yX3_isFromTo, .static yX3_isFromTo, .code yX3_isFromTo cX3_isFromTo 3 (some .boolean)] ++ wsX30 ++ wsX20 ++ wsX00)
def wsX3_record_r1 : List Cond := [Cond.fieldLink RX3 63 "RecordLabels" "draft" "[I", Cond.methodLink RX3 160 yX3_tableNumbered, Cond.instanceMethod yX3_tableNumbered, Cond.selects RX3 yX3_tableNumbered yX3_tableNumbered, Cond.initialized RX3, Cond.code yX3_tableNumbered cX3_tableNumbered 2 (some (.object "RecordLabels$Table")), Cond.fieldLink RX3 45 "RecordLabels" "nodeTable" "LRecordLabels$Table;", Cond.fieldLink RX3 49 "RecordLabels" "arcTable" "LRecordLabels$Table;", Cond.methodLink RX3 165 yX3_toCell, Cond.instanceMethod yX3_toCell, Cond.selects RX3 yX3_toCell yX3_toCell, Cond.code yX3_toCell cX3_toCell 5 (some .int), Cond.methodLink RX3 230 yX3_kindOfItem, Cond.instanceMethod yX3_kindOfItem, Cond.selects RX3 yX3_kindOfItem yX3_kindOfItem, Cond.code yX3_kindOfItem cX3_kindOfItem 3 (some (.object "RecordLabels$Kind")), Cond.fieldLink RX3 31 "RecordLabels" "signKind" "LRecordLabels$Kind;", Cond.instanceMethod yX0_constantOf, Cond.initialized RX0, Cond.selects RX0 yX0_constantOf yX0_constantOf, Cond.code yX0_constantOf cX0_constantOf 2 (some .int), Cond.fieldLink RX0 29 "RecordLabels$Kind" "constants" "[I", Cond.methodLink RX0 36 yX0_has, Cond.instanceMethod yX0_has]
def wsX3_record_r2 : List Cond := [Cond.selects RX0 yX0_has yX0_has, Cond.code yX0_has cX0_has 2 (some .boolean), Cond.fieldLink RX0 26 "RecordLabels$Kind" "size" "I", Cond.methodLink RX3 169 yX3_putTogether, Cond.instanceMethod yX3_putTogether, Cond.selects RX3 yX3_putTogether yX3_putTogether, Cond.code yX3_putTogether cX3_putTogether 4 (some .int), Cond.fieldLink RX3 60 "RecordLabels" "wrongRecords" "I", Cond.fieldLink RX3 67 "RecordLabels" "parts" "[I", Cond.fieldLink RX3 70 "RecordLabels" "partsTable" "LRecordLabels$Table;", Cond.methodLink RX3 195 yX3_wrongItem, Cond.instanceMethod yX3_wrongItem, Cond.selects RX3 yX3_wrongItem yX3_wrongItem, Cond.code yX3_wrongItem cX3_wrongItem 3 (some .int), Cond.methodLink RX3 234 yX3_highestOf, Cond.instanceMethod yX3_highestOf, Cond.selects RX3 yX3_highestOf yX3_highestOf, Cond.code yX3_highestOf cX3_highestOf 4 (some .int), Cond.constant RX3 238 (1000000), Cond.methodLink RX3 198 yX3_isFromTo, Cond.static yX3_isFromTo, Cond.code yX3_isFromTo cX3_isFromTo 3 (some .boolean)]
def wsX3_record : List Cond := .code yX3_record cX3_record 9 (some .int) :: ((wsX3_record_r1 ++ wsX3_record_r2) ++ wsX20 ++ wsX30 ++ wsX00)
def wsX3_lay_r1 : List Cond := [Cond.methodLink RX3 160 yX3_tableNumbered, Cond.instanceMethod yX3_tableNumbered, Cond.selects RX3 yX3_tableNumbered yX3_tableNumbered, Cond.initialized RX3, Cond.code yX3_tableNumbered cX3_tableNumbered 2 (some (.object "RecordLabels$Table")), Cond.fieldLink RX3 45 "RecordLabels" "nodeTable" "LRecordLabels$Table;", Cond.fieldLink RX3 49 "RecordLabels" "arcTable" "LRecordLabels$Table;", Cond.instanceMethod yX2_hasRecord, Cond.initialized RX2, Cond.selects RX2 yX2_hasRecord yX2_hasRecord, Cond.code yX2_hasRecord cX2_hasRecord 2 (some .boolean), Cond.fieldLink RX2 9 "RecordLabels$Table" "size" "I", Cond.instanceMethod yX2_hasItem, Cond.selects RX2 yX2_hasItem yX2_hasItem, Cond.code yX2_hasItem cX2_hasItem 2 (some .boolean), Cond.fieldLink RX2 19 "RecordLabels$Table" "items" "I", Cond.methodLink RX3 165 yX3_toCell, Cond.instanceMethod yX3_toCell, Cond.selects RX3 yX3_toCell yX3_toCell, Cond.code yX3_toCell cX3_toCell 5 (some .int), Cond.methodLink RX3 230 yX3_kindOfItem, Cond.instanceMethod yX3_kindOfItem, Cond.selects RX3 yX3_kindOfItem yX3_kindOfItem, Cond.code yX3_kindOfItem cX3_kindOfItem 3 (some (.object "RecordLabels$Kind"))]
def wsX3_lay_r2 : List Cond := [Cond.fieldLink RX3 31 "RecordLabels" "signKind" "LRecordLabels$Kind;", Cond.instanceMethod yX0_constantOf, Cond.initialized RX0, Cond.selects RX0 yX0_constantOf yX0_constantOf, Cond.code yX0_constantOf cX0_constantOf 2 (some .int), Cond.fieldLink RX0 29 "RecordLabels$Kind" "constants" "[I", Cond.methodLink RX0 36 yX0_has, Cond.instanceMethod yX0_has, Cond.selects RX0 yX0_has yX0_has, Cond.code yX0_has cX0_has 2 (some .boolean), Cond.fieldLink RX0 26 "RecordLabels$Kind" "size" "I"]
def wsX3_lay : List Cond := .code yX3_lay cX3_lay 6 (some .int) :: ((wsX3_lay_r1 ++ wsX3_lay_r2) ++ wsX20 ++ wsX30 ++ wsX00)
def wsX3_fromCell : List Cond := .code yX3_fromCell cX3_fromCell 5 (some .int) :: ([.methodLink RX3 230 yX3_kindOfItem, .instanceMethod yX3_kindOfItem, .selects RX3 yX3_kindOfItem yX3_kindOfItem, .initialized RX3, .code yX3_kindOfItem cX3_kindOfItem 3 (some (.object "RecordLabels$Kind")), .fieldLink RX3 45 "RecordLabels" "nodeTable" "LRecordLabels$Table;", .fieldLink RX3 31 "RecordLabels" "signKind" "LRecordLabels$Kind;", .instanceMethod yX0_codeOf, .initialized RX0, .selects RX0 yX0_codeOf yX0_codeOf, .code yX0_codeOf cX0_codeOf 2 (some .int), .fieldLink RX0 33 "RecordLabels$Kind" "codes" "[I", .methodLink RX0 36 yX0_has, .instanceMethod yX0_has, .selects RX0 yX0_has yX0_has, .code yX0_has cX0_has 2 (some .boolean), .fieldLink RX0 26 "RecordLabels$Kind" "size" "I"] ++ wsX20 ++ wsX30 ++ wsX00)
def wsX3_cell_r1 : List Cond := [Cond.constant RX3 186 (-2000000000), Cond.methodLink RX3 160 yX3_tableNumbered, Cond.instanceMethod yX3_tableNumbered, Cond.selects RX3 yX3_tableNumbered yX3_tableNumbered, Cond.initialized RX3, Cond.code yX3_tableNumbered cX3_tableNumbered 2 (some (.object "RecordLabels$Table")), Cond.fieldLink RX3 45 "RecordLabels" "nodeTable" "LRecordLabels$Table;", Cond.fieldLink RX3 49 "RecordLabels" "arcTable" "LRecordLabels$Table;", Cond.instanceMethod yX2_hasRecord, Cond.initialized RX2, Cond.selects RX2 yX2_hasRecord yX2_hasRecord, Cond.code yX2_hasRecord cX2_hasRecord 2 (some .boolean), Cond.fieldLink RX2 9 "RecordLabels$Table" "size" "I", Cond.instanceMethod yX2_hasItem, Cond.selects RX2 yX2_hasItem yX2_hasItem, Cond.code yX2_hasItem cX2_hasItem 2 (some .boolean), Cond.fieldLink RX2 19 "RecordLabels$Table" "items" "I", Cond.methodLink RX3 187 yX3_fromCell, Cond.instanceMethod yX3_fromCell, Cond.selects RX3 yX3_fromCell yX3_fromCell, Cond.code yX3_fromCell cX3_fromCell 5 (some .int), Cond.methodLink RX3 230 yX3_kindOfItem, Cond.instanceMethod yX3_kindOfItem, Cond.selects RX3 yX3_kindOfItem yX3_kindOfItem]
def wsX3_cell_r2 : List Cond := [Cond.code yX3_kindOfItem cX3_kindOfItem 3 (some (.object "RecordLabels$Kind")), Cond.fieldLink RX3 31 "RecordLabels" "signKind" "LRecordLabels$Kind;", Cond.instanceMethod yX0_codeOf, Cond.initialized RX0, Cond.selects RX0 yX0_codeOf yX0_codeOf, Cond.code yX0_codeOf cX0_codeOf 2 (some .int), Cond.fieldLink RX0 33 "RecordLabels$Kind" "codes" "[I", Cond.methodLink RX0 36 yX0_has, Cond.instanceMethod yX0_has, Cond.selects RX0 yX0_has yX0_has, Cond.code yX0_has cX0_has 2 (some .boolean), Cond.fieldLink RX0 26 "RecordLabels$Kind" "size" "I"]
def wsX3_cell : List Cond := .code yX3_cell cX3_cell 5 (some .int) :: ((wsX3_cell_r1 ++ wsX3_cell_r2) ++ wsX20 ++ wsX30 ++ wsX00)
def wsX3_draftOf : List Cond := .code yX3_draftOf cX3_draftOf 4 none :: ([.fieldLink RX3 63 "RecordLabels" "draft" "[I", .instanceMethod yX2_hasRecord, .initialized RX2, .selects RX2 yX2_hasRecord yX2_hasRecord, .code yX2_hasRecord cX2_hasRecord 2 (some .boolean), .fieldLink RX2 9 "RecordLabels$Table" "size" "I"] ++ wsX20 ++ wsX30)
def wsX3_back_r1 : List Cond := [Cond.methodLink RX3 160 yX3_tableNumbered, Cond.instanceMethod yX3_tableNumbered, Cond.selects RX3 yX3_tableNumbered yX3_tableNumbered, Cond.initialized RX3, Cond.code yX3_tableNumbered cX3_tableNumbered 2 (some (.object "RecordLabels$Table")), Cond.fieldLink RX3 45 "RecordLabels" "nodeTable" "LRecordLabels$Table;", Cond.fieldLink RX3 49 "RecordLabels" "arcTable" "LRecordLabels$Table;", Cond.instanceMethod yX2_hasRecord, Cond.initialized RX2, Cond.selects RX2 yX2_hasRecord yX2_hasRecord, Cond.code yX2_hasRecord cX2_hasRecord 2 (some .boolean), Cond.fieldLink RX2 9 "RecordLabels$Table" "size" "I", Cond.methodLink RX3 190 yX3_draftOf, Cond.instanceMethod yX3_draftOf, Cond.selects RX3 yX3_draftOf yX3_draftOf, Cond.code yX3_draftOf cX3_draftOf 4 none, Cond.fieldLink RX3 63 "RecordLabels" "draft" "[I", Cond.methodLink RX3 169 yX3_putTogether, Cond.instanceMethod yX3_putTogether, Cond.selects RX3 yX3_putTogether yX3_putTogether, Cond.code yX3_putTogether cX3_putTogether 4 (some .int), Cond.fieldLink RX3 60 "RecordLabels" "wrongRecords" "I", Cond.fieldLink RX3 67 "RecordLabels" "parts" "[I", Cond.fieldLink RX3 70 "RecordLabels" "partsTable" "LRecordLabels$Table;"]
def wsX3_back_r2 : List Cond := [Cond.methodLink RX3 195 yX3_wrongItem, Cond.instanceMethod yX3_wrongItem, Cond.selects RX3 yX3_wrongItem yX3_wrongItem, Cond.code yX3_wrongItem cX3_wrongItem 3 (some .int), Cond.methodLink RX3 234 yX3_highestOf, Cond.instanceMethod yX3_highestOf, Cond.selects RX3 yX3_highestOf yX3_highestOf, Cond.code yX3_highestOf cX3_highestOf 4 (some .int), Cond.constant RX3 238 (1000000), Cond.methodLink RX3 230 yX3_kindOfItem, Cond.instanceMethod yX3_kindOfItem, Cond.selects RX3 yX3_kindOfItem yX3_kindOfItem, Cond.code yX3_kindOfItem cX3_kindOfItem 3 (some (.object "RecordLabels$Kind")), Cond.fieldLink RX3 31 "RecordLabels" "signKind" "LRecordLabels$Kind;", Cond.methodLink RX3 198 yX3_isFromTo, Cond.static yX3_isFromTo, Cond.code yX3_isFromTo cX3_isFromTo 3 (some .boolean)]
def wsX3_back : List Cond := .code yX3_back cX3_back 4 (some .int) :: ((wsX3_back_r1 ++ wsX3_back_r2) ++ wsX30 ++ wsX20 ++ wsX00)
def wsX3_part_r1 : List Cond := [Cond.fieldLink RX3 70 "RecordLabels" "partsTable" "LRecordLabels$Table;", Cond.fieldLink RX3 67 "RecordLabels" "parts" "[I", Cond.instanceMethod yX2_hasItem, Cond.initialized RX2, Cond.selects RX2 yX2_hasItem yX2_hasItem, Cond.code yX2_hasItem cX2_hasItem 2 (some .boolean), Cond.fieldLink RX2 19 "RecordLabels$Table" "items" "I", Cond.methodLink RX3 187 yX3_fromCell, Cond.instanceMethod yX3_fromCell, Cond.selects RX3 yX3_fromCell yX3_fromCell, Cond.initialized RX3, Cond.code yX3_fromCell cX3_fromCell 5 (some .int), Cond.methodLink RX3 230 yX3_kindOfItem, Cond.instanceMethod yX3_kindOfItem, Cond.selects RX3 yX3_kindOfItem yX3_kindOfItem, Cond.code yX3_kindOfItem cX3_kindOfItem 3 (some (.object "RecordLabels$Kind")), Cond.fieldLink RX3 45 "RecordLabels" "nodeTable" "LRecordLabels$Table;", Cond.fieldLink RX3 31 "RecordLabels" "signKind" "LRecordLabels$Kind;", Cond.instanceMethod yX0_codeOf, Cond.initialized RX0, Cond.selects RX0 yX0_codeOf yX0_codeOf, Cond.code yX0_codeOf cX0_codeOf 2 (some .int), Cond.fieldLink RX0 33 "RecordLabels$Kind" "codes" "[I", Cond.methodLink RX0 36 yX0_has]
def wsX3_part_r2 : List Cond := [Cond.instanceMethod yX0_has, Cond.selects RX0 yX0_has yX0_has, Cond.code yX0_has cX0_has 2 (some .boolean), Cond.fieldLink RX0 26 "RecordLabels$Kind" "size" "I"]
def wsX3_part : List Cond := .code yX3_part cX3_part 2 (some .int) :: ((wsX3_part_r1 ++ wsX3_part_r2) ++ wsX30 ++ wsX20 ++ wsX00)
def wsX3_filter_r1 : List Cond := [Cond.fieldLink RX3 76 "RecordLabels" "foundSize" "I", Cond.fieldLink RX3 63 "RecordLabels" "draft" "[I", Cond.fieldLink RX3 73 "RecordLabels" "foundRecords" "[I", Cond.methodLink RX3 160 yX3_tableNumbered, Cond.instanceMethod yX3_tableNumbered, Cond.selects RX3 yX3_tableNumbered yX3_tableNumbered, Cond.initialized RX3, Cond.code yX3_tableNumbered cX3_tableNumbered 2 (some (.object "RecordLabels$Table")), Cond.fieldLink RX3 45 "RecordLabels" "nodeTable" "LRecordLabels$Table;", Cond.fieldLink RX3 49 "RecordLabels" "arcTable" "LRecordLabels$Table;", Cond.methodLink RX3 130 yX3_setNumbered, Cond.instanceMethod yX3_setNumbered, Cond.selects RX3 yX3_setNumbered yX3_setNumbered, Cond.code yX3_setNumbered cX3_setNumbered 2 (some (.object "RecordLabels$LabelSet")), Cond.fieldLink RX3 36 "RecordLabels" "sets" "[LRecordLabels$LabelSet;", Cond.instanceMethod yX2_hasItem, Cond.initialized RX2, Cond.selects RX2 yX2_hasItem yX2_hasItem, Cond.code yX2_hasItem cX2_hasItem 2 (some .boolean), Cond.fieldLink RX2 19 "RecordLabels$Table" "items" "I", Cond.methodLink RX3 190 yX3_draftOf, Cond.instanceMethod yX3_draftOf, Cond.selects RX3 yX3_draftOf yX3_draftOf, Cond.code yX3_draftOf cX3_draftOf 4 none]
def wsX3_filter_r2 : List Cond := [Cond.instanceMethod yX2_hasRecord, Cond.selects RX2 yX2_hasRecord yX2_hasRecord, Cond.code yX2_hasRecord cX2_hasRecord 2 (some .boolean), Cond.fieldLink RX2 9 "RecordLabels$Table" "size" "I", Cond.methodLink RX3 187 yX3_fromCell, Cond.instanceMethod yX3_fromCell, Cond.selects RX3 yX3_fromCell yX3_fromCell, Cond.code yX3_fromCell cX3_fromCell 5 (some .int), Cond.methodLink RX3 230 yX3_kindOfItem, Cond.instanceMethod yX3_kindOfItem, Cond.selects RX3 yX3_kindOfItem yX3_kindOfItem, Cond.code yX3_kindOfItem cX3_kindOfItem 3 (some (.object "RecordLabels$Kind")), Cond.fieldLink RX3 31 "RecordLabels" "signKind" "LRecordLabels$Kind;", Cond.instanceMethod yX0_codeOf, Cond.initialized RX0, Cond.selects RX0 yX0_codeOf yX0_codeOf, Cond.code yX0_codeOf cX0_codeOf 2 (some .int), Cond.fieldLink RX0 33 "RecordLabels$Kind" "codes" "[I", Cond.methodLink RX0 36 yX0_has, Cond.instanceMethod yX0_has, Cond.selects RX0 yX0_has yX0_has, Cond.code yX0_has cX0_has 2 (some .boolean), Cond.fieldLink RX0 26 "RecordLabels$Kind" "size" "I", Cond.methodLink RX3 195 yX3_wrongItem]
def wsX3_filter_r3 : List Cond := [Cond.instanceMethod yX3_wrongItem, Cond.selects RX3 yX3_wrongItem yX3_wrongItem, Cond.code yX3_wrongItem cX3_wrongItem 3 (some .int), Cond.methodLink RX3 234 yX3_highestOf, Cond.instanceMethod yX3_highestOf, Cond.selects RX3 yX3_highestOf yX3_highestOf, Cond.code yX3_highestOf cX3_highestOf 4 (some .int), Cond.constant RX3 238 (1000000), Cond.methodLink RX3 198 yX3_isFromTo, Cond.static yX3_isFromTo, Cond.code yX3_isFromTo cX3_isFromTo 3 (some .boolean), Cond.instanceMethod yX1_holds, Cond.initialized RX1, Cond.selects RX1 yX1_holds yX1_holds, Cond.code yX1_holds cX1_holds 2 (some .boolean), Cond.fieldLink RX1 13 "RecordLabels$LabelSet" "kind" "LRecordLabels$Kind;", Cond.fieldLink RX1 7 "RecordLabels$LabelSet" "members" "I"]
def wsX3_filter : List Cond := .code yX3_filter cX3_filter 10 (some .int) :: ((wsX3_filter_r1 ++ (wsX3_filter_r2 ++ wsX3_filter_r3)) ++ wsX10 ++ wsX20 ++ wsX30 ++ wsX00)
def wsX3_found : List Cond := .code yX3_found cX3_found 2 (some .int) :: ([.fieldLink RX3 76 "RecordLabels" "foundSize" "I", .fieldLink RX3 73 "RecordLabels" "foundRecords" "[I"] ++ wsX30)
def wsX3_sum_r1 : List Cond := [Cond.constantLong RX3 202 (-1), Cond.fieldLink RX3 63 "RecordLabels" "draft" "[I", Cond.methodLink RX3 160 yX3_tableNumbered, Cond.instanceMethod yX3_tableNumbered, Cond.selects RX3 yX3_tableNumbered yX3_tableNumbered, Cond.initialized RX3, Cond.code yX3_tableNumbered cX3_tableNumbered 2 (some (.object "RecordLabels$Table")), Cond.fieldLink RX3 45 "RecordLabels" "nodeTable" "LRecordLabels$Table;", Cond.fieldLink RX3 49 "RecordLabels" "arcTable" "LRecordLabels$Table;", Cond.methodLink RX3 190 yX3_draftOf, Cond.instanceMethod yX3_draftOf, Cond.selects RX3 yX3_draftOf yX3_draftOf, Cond.code yX3_draftOf cX3_draftOf 4 none, Cond.instanceMethod yX2_hasRecord, Cond.initialized RX2, Cond.selects RX2 yX2_hasRecord yX2_hasRecord, Cond.code yX2_hasRecord cX2_hasRecord 2 (some .boolean), Cond.fieldLink RX2 9 "RecordLabels$Table" "size" "I", Cond.methodLink RX3 195 yX3_wrongItem, Cond.instanceMethod yX3_wrongItem, Cond.selects RX3 yX3_wrongItem yX3_wrongItem, Cond.code yX3_wrongItem cX3_wrongItem 3 (some .int), Cond.methodLink RX3 234 yX3_highestOf, Cond.instanceMethod yX3_highestOf]
def wsX3_sum_r2 : List Cond := [Cond.selects RX3 yX3_highestOf yX3_highestOf, Cond.code yX3_highestOf cX3_highestOf 4 (some .int), Cond.constant RX3 238 (1000000), Cond.methodLink RX3 230 yX3_kindOfItem, Cond.instanceMethod yX3_kindOfItem, Cond.selects RX3 yX3_kindOfItem yX3_kindOfItem, Cond.code yX3_kindOfItem cX3_kindOfItem 3 (some (.object "RecordLabels$Kind")), Cond.fieldLink RX3 31 "RecordLabels" "signKind" "LRecordLabels$Kind;", Cond.methodLink RX3 198 yX3_isFromTo, Cond.static yX3_isFromTo, Cond.code yX3_isFromTo cX3_isFromTo 3 (some .boolean), Cond.methodLink RX3 111 yX3_askRule, Cond.instanceMethod yX3_askRule, Cond.selects RX3 yX3_askRule yX3_askRule, Cond.code yX3_askRule cX3_askRule 7 (some .int), Cond.fieldLink RX3 25 "RecordLabels" "arcKind" "LRecordLabels$Kind;", Cond.fieldLink RX3 56 "RecordLabels" "ruleFailures" "I", Cond.instanceMethod yX0_startForRule, Cond.initialized RX0, Cond.selects RX0 yX0_startForRule yX0_startForRule, Cond.code yX0_startForRule cX0_startForRule 1 (some .int), Cond.fieldLink RX0 9 "RecordLabels$Kind" "start" "I", Cond.fieldLink RX0 15 "RecordLabels$Kind" "toldToFail" "Z", Cond.methodLink RX3 210 yX3_arcRuleAnswer]
def wsX3_sum_r3 : List Cond := [Cond.static yX3_arcRuleAnswer, Cond.code yX3_arcRuleAnswer cX3_arcRuleAnswer 3 (some .int), Cond.fieldLink RX3 214 "RecordLabels" "WITHIN_ITEMS" "[J", Cond.methodLink RX3 115 yX3_valueOf, Cond.static yX3_valueOf, Cond.code yX3_valueOf cX3_valueOf 4 (some .long), Cond.methodLink RX3 217 yX3_nodeValue, Cond.static yX3_nodeValue, Cond.code yX3_nodeValue cX3_nodeValue 3 (some .long), Cond.constantLong RX3 224 (2), Cond.constantLong RX3 226 (10), Cond.methodLink RX3 221 yX3_arcValue, Cond.static yX3_arcValue, Cond.code yX3_arcValue cX3_arcValue 3 (some .long), Cond.constantLong RX3 228 (100)]
def wsX3_sum : List Cond := .code yX3_sum cX3_sum 7 (some .long) :: ((wsX3_sum_r1 ++ (wsX3_sum_r2 ++ wsX3_sum_r3)) ++ wsX20 ++ wsX30 ++ wsX00)
def wsX3_count : List Cond := .code yX3_count cX3_count 2 (some .int) :: ([.fieldLink RX3 45 "RecordLabels" "nodeTable" "LRecordLabels$Table;", .fieldLink RX3 49 "RecordLabels" "arcTable" "LRecordLabels$Table;", .fieldLink RX3 56 "RecordLabels" "ruleFailures" "I", .fieldLink RX3 60 "RecordLabels" "wrongRecords" "I"] ++ wsX30 ++ wsX20)
def wsX4_init_r1 : List Cond := [Cond.methodLink RX4 1 objectInit, Cond.instanceMethod objectInit, Cond.code objectInit ⟨#[0xb1]⟩ 1 none, Cond.arrayClass .int, Cond.fieldLink RX4 7 "RecordLabelsModel" "many" "[I", Cond.arrayClass .long, Cond.constantLong RX4 13 (435459026032), Cond.constantLong RX4 15 (1684107122), Cond.constantLong RX4 17 (1853321076), Cond.constantLong RX4 19 (491328530802), Cond.constantLong RX4 21 (1819044200), Cond.constantLong RX4 23 (28532), Cond.constantLong RX4 25 (1836020326), Cond.constantLong RX4 27 (1918985582), Cond.constantLong RX4 29 (1919252079), Cond.constantLong RX4 31 (491327352437), Cond.constantLong RX4 33 (121399003081079), Cond.constantLong RX4 35 (111481940305250), Cond.fieldLink RX4 37 "RecordLabelsModel" "names" "[J", Cond.fieldLink RX4 41 "RecordLabelsModel" "codeOf" "[I", Cond.fieldLink RX4 44 "RecordLabelsModel" "constantOf" "[I", Cond.fieldLink RX4 47 "RecordLabelsModel" "state" "[I", Cond.arrayClass .boolean, Cond.fieldLink RX4 50 "RecordLabelsModel" "fails" "[Z"]
def wsX4_init_r2 : List Cond := [Cond.fieldLink RX4 54 "RecordLabelsModel" "setKind" "[I", Cond.fieldLink RX4 57 "RecordLabelsModel" "held" "[I", Cond.fieldLink RX4 60 "RecordLabelsModel" "records" "[I", Cond.fieldLink RX4 63 "RecordLabelsModel" "cells" "[I", Cond.fieldLink RX4 66 "RecordLabelsModel" "latest" "I", Cond.fieldLink RX4 70 "RecordLabelsModel" "parts" "[I", Cond.fieldLink RX4 73 "RecordLabelsModel" "foundAt" "[I", Cond.fieldLink RX4 76 "RecordLabelsModel" "draft" "[I"]
def wsX4_init : List Cond := .code yX4_init cX4_init 3 none :: ((wsX4_init_r1 ++ wsX4_init_r2) ++ wsX40)
def wsX4_isIn : List Cond := .code yX4_isIn cX4_isIn 3 (some .boolean) :: ([])
def wsX4_isKind : List Cond := .code yX4_isKind cX4_isKind 1 (some .boolean) :: ([.methodLink RX4 79 yX4_isIn, .static yX4_isIn, .initialized RX4, .code yX4_isIn cX4_isIn 3 (some .boolean)])
def wsX4_isSet : List Cond := .code yX4_isSet cX4_isSet 1 (some .boolean) :: ([.methodLink RX4 79 yX4_isIn, .static yX4_isIn, .initialized RX4, .code yX4_isIn cX4_isIn 3 (some .boolean)])
def wsX4_isTable : List Cond := .code yX4_isTable cX4_isTable 1 (some .boolean) :: ([])
def wsX4_isCode : List Cond := .code yX4_isCode cX4_isCode 3 (some .boolean) :: ([.fieldLink RX4 7 "RecordLabelsModel" "many" "[I", .methodLink RX4 79 yX4_isIn, .static yX4_isIn, .initialized RX4, .code yX4_isIn cX4_isIn 3 (some .boolean)] ++ wsX40)
def wsX4_constant : List Cond := .code yX4_constant cX4_constant 3 (some .int) :: ([.fieldLink RX4 44 "RecordLabelsModel" "constantOf" "[I", .methodLink RX4 83 yX4_isCode, .instanceMethod yX4_isCode, .selects RX4 yX4_isCode yX4_isCode, .initialized RX4, .code yX4_isCode cX4_isCode 3 (some .boolean), .fieldLink RX4 7 "RecordLabelsModel" "many" "[I", .methodLink RX4 79 yX4_isIn, .static yX4_isIn, .code yX4_isIn cX4_isIn 3 (some .boolean)] ++ wsX40)
def wsX4_codeNow : List Cond := .code yX4_codeNow cX4_codeNow 3 (some .int) :: ([.fieldLink RX4 41 "RecordLabelsModel" "codeOf" "[I"] ++ wsX40)
def wsX4_nameOf : List Cond := .code yX4_nameOf cX4_nameOf 3 (some .long) :: ([.constantLong RX4 87 (97), .fieldLink RX4 37 "RecordLabelsModel" "names" "[J"] ++ wsX40)
def wsX4_code : List Cond := .code yX4_code cX4_code 5 (some .int) :: ([.fieldLink RX4 7 "RecordLabelsModel" "many" "[I", .fieldLink RX4 41 "RecordLabelsModel" "codeOf" "[I", .methodLink RX4 89 yX4_isKind, .static yX4_isKind, .initialized RX4, .code yX4_isKind cX4_isKind 1 (some .boolean), .methodLink RX4 79 yX4_isIn, .static yX4_isIn, .code yX4_isIn cX4_isIn 3 (some .boolean), .methodLink RX4 93 yX4_nameOf, .instanceMethod yX4_nameOf, .selects RX4 yX4_nameOf yX4_nameOf, .code yX4_nameOf cX4_nameOf 3 (some .long), .constantLong RX4 87 (97), .fieldLink RX4 37 "RecordLabelsModel" "names" "[J"] ++ wsX40)
def wsX4_name : List Cond := .code yX4_name cX4_name 3 (some .long) :: ([.methodLink RX4 89 yX4_isKind, .static yX4_isKind, .initialized RX4, .code yX4_isKind cX4_isKind 1 (some .boolean), .methodLink RX4 79 yX4_isIn, .static yX4_isIn, .code yX4_isIn cX4_isIn 3 (some .boolean), .methodLink RX4 83 yX4_isCode, .instanceMethod yX4_isCode, .selects RX4 yX4_isCode yX4_isCode, .code yX4_isCode cX4_isCode 3 (some .boolean), .fieldLink RX4 7 "RecordLabelsModel" "many" "[I", .methodLink RX4 97 yX4_constant, .instanceMethod yX4_constant, .selects RX4 yX4_constant yX4_constant, .code yX4_constant cX4_constant 3 (some .int), .fieldLink RX4 44 "RecordLabelsModel" "constantOf" "[I", .methodLink RX4 93 yX4_nameOf, .instanceMethod yX4_nameOf, .selects RX4 yX4_nameOf yX4_nameOf, .code yX4_nameOf cX4_nameOf 3 (some .long), .constantLong RX4 87 (97), .fieldLink RX4 37 "RecordLabelsModel" "names" "[J"] ++ wsX40)
def wsX4_swap : List Cond := .code yX4_swap cX4_swap 6 (some .int) :: ([.fieldLink RX4 41 "RecordLabelsModel" "codeOf" "[I", .fieldLink RX4 44 "RecordLabelsModel" "constantOf" "[I", .methodLink RX4 89 yX4_isKind, .static yX4_isKind, .initialized RX4, .code yX4_isKind cX4_isKind 1 (some .boolean), .methodLink RX4 79 yX4_isIn, .static yX4_isIn, .code yX4_isIn cX4_isIn 3 (some .boolean), .methodLink RX4 83 yX4_isCode, .instanceMethod yX4_isCode, .selects RX4 yX4_isCode yX4_isCode, .code yX4_isCode cX4_isCode 3 (some .boolean), .fieldLink RX4 7 "RecordLabelsModel" "many" "[I", .methodLink RX4 97 yX4_constant, .instanceMethod yX4_constant, .selects RX4 yX4_constant yX4_constant, .code yX4_constant cX4_constant 3 (some .int)] ++ wsX40)
def wsX4_begin : List Cond := .code yX4_begin cX4_begin 2 (some .int) :: ([.fieldLink RX4 47 "RecordLabelsModel" "state" "[I", .fieldLink RX4 50 "RecordLabelsModel" "fails" "[Z"] ++ wsX40)
def wsX4_lost : List Cond := .code yX4_lost cX4_lost 2 (some .int) :: ([.fieldLink RX4 117 "RecordLabelsModel" "failures" "I"] ++ wsX40)
def wsX4_works : List Cond := .code yX4_works cX4_works 6 (some .int) :: ([.fieldLink RX4 101 "RecordLabelsModel" "came" "J", .constantLong RX4 105 (2), .constantLong RX4 107 (10), .constantLong RX4 113 (100), .constantLong RX4 115 (5), .methodLink RX4 109 yX4_lost, .instanceMethod yX4_lost, .selects RX4 yX4_lost yX4_lost, .initialized RX4, .code yX4_lost cX4_lost 2 (some .int), .fieldLink RX4 117 "RecordLabelsModel" "failures" "I"] ++ wsX40)
def wsX4_rule_r1 : List Cond := [Cond.fieldLink RX4 101 "RecordLabelsModel" "came" "J", Cond.fieldLink RX4 127 "RecordLabelsModel" "result" "J", Cond.methodLink RX4 89 yX4_isKind, Cond.static yX4_isKind, Cond.initialized RX4, Cond.code yX4_isKind cX4_isKind 1 (some .boolean), Cond.methodLink RX4 79 yX4_isIn, Cond.static yX4_isIn, Cond.code yX4_isIn cX4_isIn 3 (some .boolean), Cond.methodLink RX4 83 yX4_isCode, Cond.instanceMethod yX4_isCode, Cond.selects RX4 yX4_isCode yX4_isCode, Cond.code yX4_isCode cX4_isCode 3 (some .boolean), Cond.fieldLink RX4 7 "RecordLabelsModel" "many" "[I", Cond.methodLink RX4 120 yX4_begin, Cond.instanceMethod yX4_begin, Cond.selects RX4 yX4_begin yX4_begin, Cond.code yX4_begin cX4_begin 2 (some .int), Cond.fieldLink RX4 47 "RecordLabelsModel" "state" "[I", Cond.fieldLink RX4 50 "RecordLabelsModel" "fails" "[Z", Cond.methodLink RX4 97 yX4_constant, Cond.instanceMethod yX4_constant, Cond.selects RX4 yX4_constant yX4_constant, Cond.code yX4_constant cX4_constant 3 (some .int)]
def wsX4_rule_r2 : List Cond := [Cond.fieldLink RX4 44 "RecordLabelsModel" "constantOf" "[I", Cond.methodLink RX4 123 yX4_works, Cond.instanceMethod yX4_works, Cond.selects RX4 yX4_works yX4_works, Cond.code yX4_works cX4_works 6 (some .int), Cond.constantLong RX4 105 (2), Cond.constantLong RX4 107 (10), Cond.constantLong RX4 113 (100), Cond.constantLong RX4 115 (5), Cond.methodLink RX4 109 yX4_lost, Cond.instanceMethod yX4_lost, Cond.selects RX4 yX4_lost yX4_lost, Cond.code yX4_lost cX4_lost 2 (some .int), Cond.fieldLink RX4 117 "RecordLabelsModel" "failures" "I"]
def wsX4_rule : List Cond := .code yX4_rule cX4_rule 7 (some .int) :: ((wsX4_rule_r1 ++ wsX4_rule_r2) ++ wsX40)
def wsX4_result : List Cond := .code yX4_result cX4_result 1 (some .long) :: ([.fieldLink RX4 127 "RecordLabelsModel" "result" "J"] ++ wsX40)
def wsX4_fail : List Cond := .code yX4_fail cX4_fail 4 (some .int) :: ([.fieldLink RX4 47 "RecordLabelsModel" "state" "[I", .fieldLink RX4 50 "RecordLabelsModel" "fails" "[Z", .methodLink RX4 89 yX4_isKind, .static yX4_isKind, .initialized RX4, .code yX4_isKind cX4_isKind 1 (some .boolean), .methodLink RX4 79 yX4_isIn, .static yX4_isIn, .code yX4_isIn cX4_isIn 3 (some .boolean)] ++ wsX40)
def wsX4_started : List Cond := .code yX4_started cX4_started 2 (some .int) :: ([.fieldLink RX4 47 "RecordLabelsModel" "state" "[I", .methodLink RX4 89 yX4_isKind, .static yX4_isKind, .initialized RX4, .code yX4_isKind cX4_isKind 1 (some .boolean), .methodLink RX4 79 yX4_isIn, .static yX4_isIn, .code yX4_isIn cX4_isIn 3 (some .boolean)] ++ wsX40)
def wsX4_size : List Cond := .code yX4_size cX4_size 3 (some .int) :: ([])
def wsX4_clear : List Cond := .code yX4_clear cX4_clear 4 (some .int) :: ([.fieldLink RX4 57 "RecordLabelsModel" "held" "[I", .fieldLink RX4 54 "RecordLabelsModel" "setKind" "[I", .methodLink RX4 130 yX4_isSet, .static yX4_isSet, .initialized RX4, .code yX4_isSet cX4_isSet 1 (some .boolean), .methodLink RX4 79 yX4_isIn, .static yX4_isIn, .code yX4_isIn cX4_isIn 3 (some .boolean), .methodLink RX4 89 yX4_isKind, .static yX4_isKind, .code yX4_isKind cX4_isKind 1 (some .boolean), .methodLink RX4 133 yX4_size, .static yX4_size, .code yX4_size cX4_size 3 (some .int)] ++ wsX40)
def wsX4_put : List Cond := .code yX4_put cX4_put 6 (some .int) :: ([.fieldLink RX4 54 "RecordLabelsModel" "setKind" "[I", .fieldLink RX4 57 "RecordLabelsModel" "held" "[I", .methodLink RX4 130 yX4_isSet, .static yX4_isSet, .initialized RX4, .code yX4_isSet cX4_isSet 1 (some .boolean), .methodLink RX4 79 yX4_isIn, .static yX4_isIn, .code yX4_isIn cX4_isIn 3 (some .boolean), .methodLink RX4 83 yX4_isCode, .instanceMethod yX4_isCode, .selects RX4 yX4_isCode yX4_isCode, .code yX4_isCode cX4_isCode 3 (some .boolean), .fieldLink RX4 7 "RecordLabelsModel" "many" "[I", .methodLink RX4 97 yX4_constant, .instanceMethod yX4_constant, .selects RX4 yX4_constant yX4_constant, .code yX4_constant cX4_constant 3 (some .int), .fieldLink RX4 44 "RecordLabelsModel" "constantOf" "[I"] ++ wsX40)
def wsX4_join : List Cond := .code yX4_join cX4_join 7 (some .int) :: ([.fieldLink RX4 54 "RecordLabelsModel" "setKind" "[I", .fieldLink RX4 7 "RecordLabelsModel" "many" "[I", .fieldLink RX4 57 "RecordLabelsModel" "held" "[I", .methodLink RX4 79 yX4_isIn, .static yX4_isIn, .initialized RX4, .code yX4_isIn cX4_isIn 3 (some .boolean), .methodLink RX4 130 yX4_isSet, .static yX4_isSet, .code yX4_isSet cX4_isSet 1 (some .boolean), .methodLink RX4 133 yX4_size, .static yX4_size, .code yX4_size cX4_size 3 (some .int)] ++ wsX40)
def wsX4_member : List Cond := .code yX4_member cX4_member 5 (some .int) :: ([.fieldLink RX4 7 "RecordLabelsModel" "many" "[I", .fieldLink RX4 54 "RecordLabelsModel" "setKind" "[I", .fieldLink RX4 57 "RecordLabelsModel" "held" "[I", .methodLink RX4 130 yX4_isSet, .static yX4_isSet, .initialized RX4, .code yX4_isSet cX4_isSet 1 (some .boolean), .methodLink RX4 79 yX4_isIn, .static yX4_isIn, .code yX4_isIn cX4_isIn 3 (some .boolean), .methodLink RX4 97 yX4_constant, .instanceMethod yX4_constant, .selects RX4 yX4_constant yX4_constant, .code yX4_constant cX4_constant 3 (some .int), .fieldLink RX4 44 "RecordLabelsModel" "constantOf" "[I", .methodLink RX4 83 yX4_isCode, .instanceMethod yX4_isCode, .selects RX4 yX4_isCode yX4_isCode, .code yX4_isCode cX4_isCode 3 (some .boolean)] ++ wsX40)
def wsX4_about : List Cond := .code yX4_about cX4_about 3 (some .int) :: ([.fieldLink RX4 57 "RecordLabelsModel" "held" "[I", .fieldLink RX4 54 "RecordLabelsModel" "setKind" "[I", .methodLink RX4 130 yX4_isSet, .static yX4_isSet, .initialized RX4, .code yX4_isSet cX4_isSet 1 (some .boolean), .methodLink RX4 79 yX4_isIn, .static yX4_isIn, .code yX4_isIn cX4_isIn 3 (some .boolean), .methodLink RX4 133 yX4_size, .static yX4_size, .code yX4_size cX4_size 3 (some .int)] ++ wsX40)
def wsX4_items : List Cond := .code yX4_items cX4_items 1 (some .int) :: ([])
def wsX4_kindOf : List Cond := .code yX4_kindOf cX4_kindOf 2 (some .int) :: ([])
def wsX4_wrong : List Cond := .code yX4_wrong cX4_wrong 5 (some .int) :: ([.fieldLink RX4 60 "RecordLabelsModel" "records" "[I", .constant RX4 136 (1000000), .methodLink RX4 79 yX4_isIn, .static yX4_isIn, .initialized RX4, .code yX4_isIn cX4_isIn 3 (some .boolean)] ++ wsX40)
def wsX4_take : List Cond := .code yX4_take cX4_take 5 none :: ([.fieldLink RX4 66 "RecordLabelsModel" "latest" "I", .fieldLink RX4 70 "RecordLabelsModel" "parts" "[I"] ++ wsX40)
def wsX4_record_r1 : List Cond := [Cond.fieldLink RX4 60 "RecordLabelsModel" "records" "[I", Cond.fieldLink RX4 76 "RecordLabelsModel" "draft" "[I", Cond.fieldLink RX4 144 "RecordLabelsModel" "wrongs" "I", Cond.fieldLink RX4 63 "RecordLabelsModel" "cells" "[I", Cond.methodLink RX4 137 yX4_isTable, Cond.static yX4_isTable, Cond.initialized RX4, Cond.code yX4_isTable cX4_isTable 1 (some .boolean), Cond.methodLink RX4 97 yX4_constant, Cond.instanceMethod yX4_constant, Cond.selects RX4 yX4_constant yX4_constant, Cond.code yX4_constant cX4_constant 3 (some .int), Cond.fieldLink RX4 44 "RecordLabelsModel" "constantOf" "[I", Cond.methodLink RX4 83 yX4_isCode, Cond.instanceMethod yX4_isCode, Cond.selects RX4 yX4_isCode yX4_isCode, Cond.code yX4_isCode cX4_isCode 3 (some .boolean), Cond.fieldLink RX4 7 "RecordLabelsModel" "many" "[I", Cond.methodLink RX4 79 yX4_isIn, Cond.static yX4_isIn, Cond.code yX4_isIn cX4_isIn 3 (some .boolean), Cond.methodLink RX4 140 yX4_wrong, Cond.instanceMethod yX4_wrong, Cond.selects RX4 yX4_wrong yX4_wrong]
def wsX4_record_r2 : List Cond := [Cond.code yX4_wrong cX4_wrong 5 (some .int), Cond.constant RX4 136 (1000000), Cond.methodLink RX4 147 yX4_take, Cond.instanceMethod yX4_take, Cond.selects RX4 yX4_take yX4_take, Cond.code yX4_take cX4_take 5 none, Cond.fieldLink RX4 66 "RecordLabelsModel" "latest" "I", Cond.fieldLink RX4 70 "RecordLabelsModel" "parts" "[I"]
def wsX4_record : List Cond := .code yX4_record cX4_record 9 (some .int) :: ((wsX4_record_r1 ++ wsX4_record_r2) ++ wsX40)
def wsX4_isCell : List Cond := .code yX4_isCell cX4_isCell 4 (some .boolean) :: ([.fieldLink RX4 60 "RecordLabelsModel" "records" "[I", .methodLink RX4 137 yX4_isTable, .static yX4_isTable, .initialized RX4, .code yX4_isTable cX4_isTable 1 (some .boolean), .methodLink RX4 79 yX4_isIn, .static yX4_isIn, .code yX4_isIn cX4_isIn 3 (some .boolean), .methodLink RX4 151 yX4_items, .static yX4_items, .code yX4_items cX4_items 1 (some .int)] ++ wsX40)
def wsX4_lay_r1 : List Cond := [Cond.fieldLink RX4 63 "RecordLabelsModel" "cells" "[I", Cond.methodLink RX4 154 yX4_isCell, Cond.instanceMethod yX4_isCell, Cond.selects RX4 yX4_isCell yX4_isCell, Cond.initialized RX4, Cond.code yX4_isCell cX4_isCell 4 (some .boolean), Cond.fieldLink RX4 60 "RecordLabelsModel" "records" "[I", Cond.methodLink RX4 137 yX4_isTable, Cond.static yX4_isTable, Cond.code yX4_isTable cX4_isTable 1 (some .boolean), Cond.methodLink RX4 79 yX4_isIn, Cond.static yX4_isIn, Cond.code yX4_isIn cX4_isIn 3 (some .boolean), Cond.methodLink RX4 151 yX4_items, Cond.static yX4_items, Cond.code yX4_items cX4_items 1 (some .int), Cond.methodLink RX4 157 yX4_kindOf, Cond.static yX4_kindOf, Cond.code yX4_kindOf cX4_kindOf 2 (some .int), Cond.methodLink RX4 97 yX4_constant, Cond.instanceMethod yX4_constant, Cond.selects RX4 yX4_constant yX4_constant, Cond.code yX4_constant cX4_constant 3 (some .int), Cond.fieldLink RX4 44 "RecordLabelsModel" "constantOf" "[I"]
def wsX4_lay_r2 : List Cond := [Cond.methodLink RX4 83 yX4_isCode, Cond.instanceMethod yX4_isCode, Cond.selects RX4 yX4_isCode yX4_isCode, Cond.code yX4_isCode cX4_isCode 3 (some .boolean), Cond.fieldLink RX4 7 "RecordLabelsModel" "many" "[I"]
def wsX4_lay : List Cond := .code yX4_lay cX4_lay 6 (some .int) :: ((wsX4_lay_r1 ++ wsX4_lay_r2) ++ wsX40)
def wsX4_toldOf : List Cond := .code yX4_toldOf cX4_toldOf 5 (some .int) :: ([.methodLink RX4 157 yX4_kindOf, .static yX4_kindOf, .initialized RX4, .code yX4_kindOf cX4_kindOf 2 (some .int), .methodLink RX4 160 yX4_codeNow, .instanceMethod yX4_codeNow, .selects RX4 yX4_codeNow yX4_codeNow, .code yX4_codeNow cX4_codeNow 3 (some .int), .fieldLink RX4 41 "RecordLabelsModel" "codeOf" "[I"] ++ wsX40)
def wsX4_cell_r1 : List Cond := [Cond.fieldLink RX4 63 "RecordLabelsModel" "cells" "[I", Cond.constant RX4 167 (-2000000000), Cond.methodLink RX4 154 yX4_isCell, Cond.instanceMethod yX4_isCell, Cond.selects RX4 yX4_isCell yX4_isCell, Cond.initialized RX4, Cond.code yX4_isCell cX4_isCell 4 (some .boolean), Cond.fieldLink RX4 60 "RecordLabelsModel" "records" "[I", Cond.methodLink RX4 137 yX4_isTable, Cond.static yX4_isTable, Cond.code yX4_isTable cX4_isTable 1 (some .boolean), Cond.methodLink RX4 79 yX4_isIn, Cond.static yX4_isIn, Cond.code yX4_isIn cX4_isIn 3 (some .boolean), Cond.methodLink RX4 151 yX4_items, Cond.static yX4_items, Cond.code yX4_items cX4_items 1 (some .int), Cond.methodLink RX4 163 yX4_toldOf, Cond.instanceMethod yX4_toldOf, Cond.selects RX4 yX4_toldOf yX4_toldOf, Cond.code yX4_toldOf cX4_toldOf 5 (some .int), Cond.methodLink RX4 157 yX4_kindOf, Cond.static yX4_kindOf, Cond.code yX4_kindOf cX4_kindOf 2 (some .int)]
def wsX4_cell_r2 : List Cond := [Cond.methodLink RX4 160 yX4_codeNow, Cond.instanceMethod yX4_codeNow, Cond.selects RX4 yX4_codeNow yX4_codeNow, Cond.code yX4_codeNow cX4_codeNow 3 (some .int), Cond.fieldLink RX4 41 "RecordLabelsModel" "codeOf" "[I"]
def wsX4_cell : List Cond := .code yX4_cell cX4_cell 4 (some .int) :: ((wsX4_cell_r1 ++ wsX4_cell_r2) ++ wsX40)
def wsX4_back_r1 : List Cond := [Cond.fieldLink RX4 63 "RecordLabelsModel" "cells" "[I", Cond.fieldLink RX4 144 "RecordLabelsModel" "wrongs" "I", Cond.methodLink RX4 154 yX4_isCell, Cond.instanceMethod yX4_isCell, Cond.selects RX4 yX4_isCell yX4_isCell, Cond.initialized RX4, Cond.code yX4_isCell cX4_isCell 4 (some .boolean), Cond.fieldLink RX4 60 "RecordLabelsModel" "records" "[I", Cond.methodLink RX4 137 yX4_isTable, Cond.static yX4_isTable, Cond.code yX4_isTable cX4_isTable 1 (some .boolean), Cond.methodLink RX4 79 yX4_isIn, Cond.static yX4_isIn, Cond.code yX4_isIn cX4_isIn 3 (some .boolean), Cond.methodLink RX4 151 yX4_items, Cond.static yX4_items, Cond.code yX4_items cX4_items 1 (some .int), Cond.methodLink RX4 140 yX4_wrong, Cond.instanceMethod yX4_wrong, Cond.selects RX4 yX4_wrong yX4_wrong, Cond.code yX4_wrong cX4_wrong 5 (some .int), Cond.constant RX4 136 (1000000), Cond.methodLink RX4 147 yX4_take, Cond.instanceMethod yX4_take]
def wsX4_back_r2 : List Cond := [Cond.selects RX4 yX4_take yX4_take, Cond.code yX4_take cX4_take 5 none, Cond.fieldLink RX4 66 "RecordLabelsModel" "latest" "I", Cond.fieldLink RX4 70 "RecordLabelsModel" "parts" "[I"]
def wsX4_back : List Cond := .code yX4_back cX4_back 5 (some .int) :: ((wsX4_back_r1 ++ wsX4_back_r2) ++ wsX40)
def wsX4_part : List Cond := .code yX4_part cX4_part 2 (some .int) :: ([.fieldLink RX4 66 "RecordLabelsModel" "latest" "I", .fieldLink RX4 70 "RecordLabelsModel" "parts" "[I", .methodLink RX4 151 yX4_items, .static yX4_items, .initialized RX4, .code yX4_items cX4_items 1 (some .int), .methodLink RX4 79 yX4_isIn, .static yX4_isIn, .code yX4_isIn cX4_isIn 3 (some .boolean), .methodLink RX4 163 yX4_toldOf, .instanceMethod yX4_toldOf, .selects RX4 yX4_toldOf yX4_toldOf, .code yX4_toldOf cX4_toldOf 5 (some .int), .methodLink RX4 157 yX4_kindOf, .static yX4_kindOf, .code yX4_kindOf cX4_kindOf 2 (some .int), .methodLink RX4 160 yX4_codeNow, .instanceMethod yX4_codeNow, .selects RX4 yX4_codeNow yX4_codeNow, .code yX4_codeNow cX4_codeNow 3 (some .int), .fieldLink RX4 41 "RecordLabelsModel" "codeOf" "[I"] ++ wsX40)
def wsX4_filter_r1 : List Cond := [Cond.fieldLink RX4 54 "RecordLabelsModel" "setKind" "[I", Cond.fieldLink RX4 168 "RecordLabelsModel" "finds" "I", Cond.fieldLink RX4 60 "RecordLabelsModel" "records" "[I", Cond.fieldLink RX4 63 "RecordLabelsModel" "cells" "[I", Cond.fieldLink RX4 57 "RecordLabelsModel" "held" "[I", Cond.fieldLink RX4 73 "RecordLabelsModel" "foundAt" "[I", Cond.methodLink RX4 137 yX4_isTable, Cond.static yX4_isTable, Cond.initialized RX4, Cond.code yX4_isTable cX4_isTable 1 (some .boolean), Cond.methodLink RX4 130 yX4_isSet, Cond.static yX4_isSet, Cond.code yX4_isSet cX4_isSet 1 (some .boolean), Cond.methodLink RX4 79 yX4_isIn, Cond.static yX4_isIn, Cond.code yX4_isIn cX4_isIn 3 (some .boolean), Cond.methodLink RX4 151 yX4_items, Cond.static yX4_items, Cond.code yX4_items cX4_items 1 (some .int), Cond.methodLink RX4 140 yX4_wrong, Cond.instanceMethod yX4_wrong, Cond.selects RX4 yX4_wrong yX4_wrong, Cond.code yX4_wrong cX4_wrong 5 (some .int), Cond.constant RX4 136 (1000000)]
def wsX4_filter_r2 : List Cond := [Cond.methodLink RX4 163 yX4_toldOf, Cond.instanceMethod yX4_toldOf, Cond.selects RX4 yX4_toldOf yX4_toldOf, Cond.code yX4_toldOf cX4_toldOf 5 (some .int), Cond.methodLink RX4 157 yX4_kindOf, Cond.static yX4_kindOf, Cond.code yX4_kindOf cX4_kindOf 2 (some .int), Cond.methodLink RX4 160 yX4_codeNow, Cond.instanceMethod yX4_codeNow, Cond.selects RX4 yX4_codeNow yX4_codeNow, Cond.code yX4_codeNow cX4_codeNow 3 (some .int), Cond.fieldLink RX4 41 "RecordLabelsModel" "codeOf" "[I"]
def wsX4_filter : List Cond := .code yX4_filter cX4_filter 8 (some .int) :: ((wsX4_filter_r1 ++ wsX4_filter_r2) ++ wsX40)
def wsX4_found : List Cond := .code yX4_found cX4_found 2 (some .int) :: ([.fieldLink RX4 168 "RecordLabelsModel" "finds" "I", .fieldLink RX4 73 "RecordLabelsModel" "foundAt" "[I", .methodLink RX4 79 yX4_isIn, .static yX4_isIn, .initialized RX4, .code yX4_isIn cX4_isIn 3 (some .boolean)] ++ wsX40)
def wsX4_sum_r1 : List Cond := [Cond.constantLong RX4 171 (-1), Cond.fieldLink RX4 60 "RecordLabelsModel" "records" "[I", Cond.fieldLink RX4 63 "RecordLabelsModel" "cells" "[I", Cond.fieldLink RX4 101 "RecordLabelsModel" "came" "J", Cond.methodLink RX4 137 yX4_isTable, Cond.static yX4_isTable, Cond.initialized RX4, Cond.code yX4_isTable cX4_isTable 1 (some .boolean), Cond.methodLink RX4 140 yX4_wrong, Cond.instanceMethod yX4_wrong, Cond.selects RX4 yX4_wrong yX4_wrong, Cond.code yX4_wrong cX4_wrong 5 (some .int), Cond.constant RX4 136 (1000000), Cond.methodLink RX4 79 yX4_isIn, Cond.static yX4_isIn, Cond.code yX4_isIn cX4_isIn 3 (some .boolean), Cond.methodLink RX4 120 yX4_begin, Cond.instanceMethod yX4_begin, Cond.selects RX4 yX4_begin yX4_begin, Cond.code yX4_begin cX4_begin 2 (some .int), Cond.fieldLink RX4 47 "RecordLabelsModel" "state" "[I", Cond.fieldLink RX4 50 "RecordLabelsModel" "fails" "[Z", Cond.methodLink RX4 123 yX4_works, Cond.instanceMethod yX4_works]
def wsX4_sum_r2 : List Cond := [Cond.selects RX4 yX4_works yX4_works, Cond.code yX4_works cX4_works 6 (some .int), Cond.constantLong RX4 105 (2), Cond.constantLong RX4 107 (10), Cond.constantLong RX4 113 (100), Cond.constantLong RX4 115 (5), Cond.methodLink RX4 109 yX4_lost, Cond.instanceMethod yX4_lost, Cond.selects RX4 yX4_lost yX4_lost, Cond.code yX4_lost cX4_lost 2 (some .int), Cond.fieldLink RX4 117 "RecordLabelsModel" "failures" "I"]
def wsX4_sum : List Cond := .code yX4_sum cX4_sum 7 (some .long) :: ((wsX4_sum_r1 ++ wsX4_sum_r2) ++ wsX40)
def wsX4_count : List Cond := .code yX4_count cX4_count 2 (some .int) :: ([.fieldLink RX4 60 "RecordLabelsModel" "records" "[I", .fieldLink RX4 117 "RecordLabelsModel" "failures" "I", .fieldLink RX4 144 "RecordLabelsModel" "wrongs" "I"] ++ wsX40)
def wsL_law_r1 : List Cond := [Cond.classLink RL 7 RX3, Cond.instantiable RX3 14, Cond.initialized RX3, Cond.classLink RL 10 RX4, Cond.instantiable RX4 19, Cond.initialized RX4, Cond.constantLong RL 13 (4294967295), Cond.methodLink RL 9 yX3_init, Cond.instanceMethod yX3_init, Cond.code yX3_init cX3_init 2 none, Cond.methodLink RX3 1 objectInit, Cond.instanceMethod objectInit, Cond.code objectInit ⟨#[0xb1]⟩ 1 none, Cond.classLink RX3 7 RX0, Cond.instantiable RX0 7, Cond.initialized RX0, Cond.fieldLink RX3 11 "RecordLabels" "NODE_NAMES" "[J", Cond.fieldLink RX3 18 "RecordLabels" "nodeKind" "LRecordLabels$Kind;", Cond.fieldLink RX3 22 "RecordLabels" "ARC_NAMES" "[J", Cond.fieldLink RX3 25 "RecordLabels" "arcKind" "LRecordLabels$Kind;", Cond.fieldLink RX3 28 "RecordLabels" "SIGN_NAMES" "[J", Cond.fieldLink RX3 31 "RecordLabels" "signKind" "LRecordLabels$Kind;", Cond.classLink RX3 34 RX1, Cond.fieldLink RX3 36 "RecordLabels" "sets" "[LRecordLabels$LabelSet;"]
def wsL_law_r2 : List Cond := [Cond.classLink RX3 40 RX2, Cond.instantiable RX2 5, Cond.initialized RX2, Cond.fieldLink RX3 45 "RecordLabels" "nodeTable" "LRecordLabels$Table;", Cond.fieldLink RX3 49 "RecordLabels" "arcTable" "LRecordLabels$Table;", Cond.fieldLink RX3 52 "RecordLabels" "lastResult" "J", Cond.fieldLink RX3 56 "RecordLabels" "ruleFailures" "I", Cond.fieldLink RX3 60 "RecordLabels" "wrongRecords" "I", Cond.arrayClass .int, Cond.fieldLink RX3 63 "RecordLabels" "draft" "[I", Cond.fieldLink RX3 67 "RecordLabels" "parts" "[I", Cond.fieldLink RX3 70 "RecordLabels" "partsTable" "LRecordLabels$Table;", Cond.fieldLink RX3 73 "RecordLabels" "foundRecords" "[I", Cond.fieldLink RX3 76 "RecordLabels" "foundSize" "I", Cond.instantiable RX1 2, Cond.initialized RX1, Cond.instanceMethod yX0_init, Cond.code yX0_init cX0_init 4 none, Cond.methodLink RX0 3 objectInit, Cond.fieldLink RX0 9 "RecordLabels$Kind" "start" "I", Cond.fieldLink RX0 15 "RecordLabels$Kind" "toldToFail" "Z", Cond.fieldLink RX0 19 "RecordLabels$Kind" "number" "I", Cond.fieldLink RX0 22 "RecordLabels$Kind" "names" "[J", Cond.fieldLink RX0 26 "RecordLabels$Kind" "size" "I"]
def wsL_law_r3 : List Cond := [Cond.fieldLink RX0 29 "RecordLabels$Kind" "constants" "[I", Cond.fieldLink RX0 33 "RecordLabels$Kind" "codes" "[I", Cond.instanceMethod yX2_init, Cond.code yX2_init cX2_init 4 none, Cond.methodLink RX2 3 objectInit, Cond.fieldLink RX2 9 "RecordLabels$Table" "size" "I", Cond.fieldLink RX2 15 "RecordLabels$Table" "kind" "LRecordLabels$Kind;", Cond.fieldLink RX2 19 "RecordLabels$Table" "items" "I", Cond.fieldLink RX2 22 "RecordLabels$Table" "measure" "I", Cond.classLink RX2 25 "[[I", Cond.fieldLink RX2 27 "RecordLabels$Table" "columns" "[[I", Cond.instanceMethod yX1_init, Cond.code yX1_init cX1_init 2 none, Cond.methodLink RX1 1 objectInit, Cond.fieldLink RX1 7 "RecordLabels$LabelSet" "members" "I", Cond.fieldLink RX1 13 "RecordLabels$LabelSet" "kind" "LRecordLabels$Kind;", Cond.methodLink RL 12 yX4_init, Cond.instanceMethod yX4_init, Cond.code yX4_init cX4_init 3 none, Cond.methodLink RX4 1 objectInit, Cond.fieldLink RX4 7 "RecordLabelsModel" "many" "[I", Cond.arrayClass .long, Cond.constantLong RX4 13 (435459026032), Cond.constantLong RX4 15 (1684107122)]
def wsL_law_r4 : List Cond := [Cond.constantLong RX4 17 (1853321076), Cond.constantLong RX4 19 (491328530802), Cond.constantLong RX4 21 (1819044200), Cond.constantLong RX4 23 (28532), Cond.constantLong RX4 25 (1836020326), Cond.constantLong RX4 27 (1918985582), Cond.constantLong RX4 29 (1919252079), Cond.constantLong RX4 31 (491327352437), Cond.constantLong RX4 33 (121399003081079), Cond.constantLong RX4 35 (111481940305250), Cond.fieldLink RX4 37 "RecordLabelsModel" "names" "[J", Cond.fieldLink RX4 41 "RecordLabelsModel" "codeOf" "[I", Cond.fieldLink RX4 44 "RecordLabelsModel" "constantOf" "[I", Cond.fieldLink RX4 47 "RecordLabelsModel" "state" "[I", Cond.arrayClass .boolean, Cond.fieldLink RX4 50 "RecordLabelsModel" "fails" "[Z", Cond.fieldLink RX4 54 "RecordLabelsModel" "setKind" "[I", Cond.fieldLink RX4 57 "RecordLabelsModel" "held" "[I", Cond.fieldLink RX4 60 "RecordLabelsModel" "records" "[I", Cond.fieldLink RX4 63 "RecordLabelsModel" "cells" "[I", Cond.fieldLink RX4 66 "RecordLabelsModel" "latest" "I", Cond.fieldLink RX4 70 "RecordLabelsModel" "parts" "[I", Cond.fieldLink RX4 73 "RecordLabelsModel" "foundAt" "[I", Cond.fieldLink RX4 76 "RecordLabelsModel" "draft" "[I"]
def wsL_law_r5 : List Cond := [Cond.methodLink RL 15 yX3_code, Cond.instanceMethod yX3_code, Cond.selects RX3 yX3_code yX3_code, Cond.code yX3_code cX3_code 6 (some .int), Cond.methodLink RX3 82 yX3_kindNumbered, Cond.instanceMethod yX3_kindNumbered, Cond.selects RX3 yX3_kindNumbered yX3_kindNumbered, Cond.code yX3_kindNumbered cX3_kindNumbered 2 (some (.object "RecordLabels$Kind")), Cond.instanceMethod yX0_constantNamed, Cond.selects RX0 yX0_constantNamed yX0_constantNamed, Cond.code yX0_constantNamed cX0_constantNamed 4 (some .int), Cond.instanceMethod yX0_codeOf, Cond.selects RX0 yX0_codeOf yX0_codeOf, Cond.code yX0_codeOf cX0_codeOf 2 (some .int), Cond.methodLink RX0 36 yX0_has, Cond.instanceMethod yX0_has, Cond.selects RX0 yX0_has yX0_has, Cond.code yX0_has cX0_has 2 (some .boolean), Cond.methodLink RL 19 yX4_code, Cond.instanceMethod yX4_code, Cond.selects RX4 yX4_code yX4_code, Cond.code yX4_code cX4_code 5 (some .int), Cond.methodLink RX4 89 yX4_isKind, Cond.static yX4_isKind]
def wsL_law_r6 : List Cond := [Cond.code yX4_isKind cX4_isKind 1 (some .boolean), Cond.methodLink RX4 79 yX4_isIn, Cond.static yX4_isIn, Cond.code yX4_isIn cX4_isIn 3 (some .boolean), Cond.methodLink RX4 93 yX4_nameOf, Cond.instanceMethod yX4_nameOf, Cond.selects RX4 yX4_nameOf yX4_nameOf, Cond.code yX4_nameOf cX4_nameOf 3 (some .long), Cond.constantLong RX4 87 (97), Cond.methodLink RL 20 yX3_name, Cond.instanceMethod yX3_name, Cond.selects RX3 yX3_name yX3_name, Cond.code yX3_name cX3_name 4 (some .long), Cond.methodLink RL 24 yX4_name, Cond.instanceMethod yX4_name, Cond.selects RX4 yX4_name yX4_name, Cond.code yX4_name cX4_name 3 (some .long), Cond.methodLink RX4 83 yX4_isCode, Cond.instanceMethod yX4_isCode, Cond.selects RX4 yX4_isCode yX4_isCode, Cond.code yX4_isCode cX4_isCode 3 (some .boolean), Cond.methodLink RX4 97 yX4_constant, Cond.instanceMethod yX4_constant, Cond.selects RX4 yX4_constant yX4_constant]
def wsL_law_r7 : List Cond := [Cond.code yX4_constant cX4_constant 3 (some .int), Cond.methodLink RL 25 yX3_swap, Cond.instanceMethod yX3_swap, Cond.selects RX3 yX3_swap yX3_swap, Cond.code yX3_swap cX3_swap 5 (some .int), Cond.instanceMethod yX0_exchange, Cond.selects RX0 yX0_exchange yX0_exchange, Cond.code yX0_exchange cX0_exchange 4 none, Cond.methodLink RL 29 yX4_swap, Cond.instanceMethod yX4_swap, Cond.selects RX4 yX4_swap yX4_swap, Cond.code yX4_swap cX4_swap 6 (some .int), Cond.methodLink RL 30 yX3_rule, Cond.instanceMethod yX3_rule, Cond.selects RX3 yX3_rule yX3_rule, Cond.code yX3_rule cX3_rule 8 (some .int), Cond.instanceMethod yX0_constantOf, Cond.selects RX0 yX0_constantOf yX0_constantOf, Cond.code yX0_constantOf cX0_constantOf 2 (some .int), Cond.methodLink RX3 111 yX3_askRule, Cond.instanceMethod yX3_askRule, Cond.selects RX3 yX3_askRule yX3_askRule, Cond.code yX3_askRule cX3_askRule 7 (some .int), Cond.instanceMethod yX0_startForRule]
def wsL_law_r8 : List Cond := [Cond.selects RX0 yX0_startForRule yX0_startForRule, Cond.code yX0_startForRule cX0_startForRule 1 (some .int), Cond.methodLink RX3 210 yX3_arcRuleAnswer, Cond.static yX3_arcRuleAnswer, Cond.code yX3_arcRuleAnswer cX3_arcRuleAnswer 3 (some .int), Cond.fieldLink RX3 214 "RecordLabels" "WITHIN_ITEMS" "[J", Cond.methodLink RX3 115 yX3_valueOf, Cond.static yX3_valueOf, Cond.code yX3_valueOf cX3_valueOf 4 (some .long), Cond.methodLink RX3 217 yX3_nodeValue, Cond.static yX3_nodeValue, Cond.code yX3_nodeValue cX3_nodeValue 3 (some .long), Cond.constantLong RX3 224 (2), Cond.constantLong RX3 226 (10), Cond.methodLink RX3 221 yX3_arcValue, Cond.static yX3_arcValue, Cond.code yX3_arcValue cX3_arcValue 3 (some .long), Cond.constantLong RX3 228 (100), Cond.methodLink RL 34 yX4_rule, Cond.instanceMethod yX4_rule, Cond.selects RX4 yX4_rule yX4_rule, Cond.code yX4_rule cX4_rule 7 (some .int), Cond.fieldLink RX4 101 "RecordLabelsModel" "came" "J", Cond.fieldLink RX4 127 "RecordLabelsModel" "result" "J"]
def wsL_law_r9 : List Cond := [Cond.methodLink RX4 120 yX4_begin, Cond.instanceMethod yX4_begin, Cond.selects RX4 yX4_begin yX4_begin, Cond.code yX4_begin cX4_begin 2 (some .int), Cond.methodLink RX4 123 yX4_works, Cond.instanceMethod yX4_works, Cond.selects RX4 yX4_works yX4_works, Cond.code yX4_works cX4_works 6 (some .int), Cond.constantLong RX4 105 (2), Cond.constantLong RX4 107 (10), Cond.constantLong RX4 113 (100), Cond.constantLong RX4 115 (5), Cond.methodLink RX4 109 yX4_lost, Cond.instanceMethod yX4_lost, Cond.selects RX4 yX4_lost yX4_lost, Cond.code yX4_lost cX4_lost 2 (some .int), Cond.fieldLink RX4 117 "RecordLabelsModel" "failures" "I", Cond.methodLink RL 35 yX3_result, Cond.instanceMethod yX3_result, Cond.selects RX3 yX3_result yX3_result, Cond.code yX3_result cX3_result 1 (some .long), Cond.methodLink RL 39 yX4_result, Cond.instanceMethod yX4_result, Cond.selects RX4 yX4_result yX4_result]
def wsL_law_r10 : List Cond := [Cond.code yX4_result cX4_result 1 (some .long), Cond.methodLink RL 40 yX3_fail, Cond.instanceMethod yX3_fail, Cond.selects RX3 yX3_fail yX3_fail, Cond.code yX3_fail cX3_fail 5 (some .int), Cond.methodLink RX3 126 yX3_oneIf, Cond.static yX3_oneIf, Cond.code yX3_oneIf cX3_oneIf 1 (some .int), Cond.methodLink RL 44 yX4_fail, Cond.instanceMethod yX4_fail, Cond.selects RX4 yX4_fail yX4_fail, Cond.code yX4_fail cX4_fail 4 (some .int), Cond.methodLink RL 45 yX3_started, Cond.instanceMethod yX3_started, Cond.selects RX3 yX3_started yX3_started, Cond.code yX3_started cX3_started 3 (some .int), Cond.methodLink RL 49 yX4_started, Cond.instanceMethod yX4_started, Cond.selects RX4 yX4_started yX4_started, Cond.code yX4_started cX4_started 2 (some .int), Cond.methodLink RL 50 yX3_clear, Cond.instanceMethod yX3_clear, Cond.selects RX3 yX3_clear yX3_clear, Cond.code yX3_clear cX3_clear 6 (some .int)]
def wsL_law_r11 : List Cond := [Cond.methodLink RX3 130 yX3_setNumbered, Cond.instanceMethod yX3_setNumbered, Cond.selects RX3 yX3_setNumbered yX3_setNumbered, Cond.code yX3_setNumbered cX3_setNumbered 2 (some (.object "RecordLabels$LabelSet")), Cond.instanceMethod yX1_size, Cond.selects RX1 yX1_size yX1_size, Cond.code yX1_size cX1_size 1 (some .int), Cond.methodLink RX1 17 yJ6_bitCount_0f7a4, Cond.static yJ6_bitCount_0f7a4, Cond.initialized RJ6, Cond.code yJ6_bitCount_0f7a4 cJ6_bitCount_0f7a4 1 (some .int), Cond.constant RJ6 265 (1431655765), Cond.constant RJ6 266 (858993459), Cond.constant RJ6 267 (252645135), Cond.instanceMethod yX1_become, Cond.selects RX1 yX1_become yX1_become, Cond.code yX1_become cX1_become 3 none, Cond.methodLink RL 54 yX4_clear, Cond.instanceMethod yX4_clear, Cond.selects RX4 yX4_clear yX4_clear, Cond.code yX4_clear cX4_clear 4 (some .int), Cond.methodLink RX4 130 yX4_isSet, Cond.static yX4_isSet, Cond.code yX4_isSet cX4_isSet 1 (some .boolean)]
def wsL_law_r12 : List Cond := [Cond.methodLink RX4 133 yX4_size, Cond.static yX4_size, Cond.code yX4_size cX4_size 3 (some .int), Cond.methodLink RL 55 yX3_put, Cond.instanceMethod yX3_put, Cond.selects RX3 yX3_put yX3_put, Cond.code yX3_put cX3_put 8 (some .int), Cond.instanceMethod yX1_holds, Cond.selects RX1 yX1_holds yX1_holds, Cond.code yX1_holds cX1_holds 2 (some .boolean), Cond.methodLink RL 59 yX4_put, Cond.instanceMethod yX4_put, Cond.selects RX4 yX4_put yX4_put, Cond.code yX4_put cX4_put 6 (some .int), Cond.methodLink RL 60 yX3_join, Cond.instanceMethod yX3_join, Cond.selects RX3 yX3_join yX3_join, Cond.code yX3_join cX3_join 8 (some .int), Cond.methodLink RX3 151 yX3_joined, Cond.static yX3_joined, Cond.code yX3_joined cX3_joined 3 (some .int), Cond.methodLink RL 64 yX4_join, Cond.instanceMethod yX4_join, Cond.selects RX4 yX4_join yX4_join]
def wsL_law_r13 : List Cond := [Cond.code yX4_join cX4_join 7 (some .int), Cond.methodLink RL 65 yX3_member, Cond.instanceMethod yX3_member, Cond.selects RX3 yX3_member yX3_member, Cond.code yX3_member cX3_member 6 (some .int), Cond.methodLink RL 68 yX4_member, Cond.instanceMethod yX4_member, Cond.selects RX4 yX4_member yX4_member, Cond.code yX4_member cX4_member 5 (some .int), Cond.methodLink RL 69 yX3_about, Cond.instanceMethod yX3_about, Cond.selects RX3 yX3_about yX3_about, Cond.code yX3_about cX3_about 4 (some .int), Cond.methodLink RL 72 yX4_about, Cond.instanceMethod yX4_about, Cond.selects RX4 yX4_about yX4_about, Cond.code yX4_about cX4_about 3 (some .int), Cond.methodLink RL 73 yX3_record, Cond.instanceMethod yX3_record, Cond.selects RX3 yX3_record yX3_record, Cond.code yX3_record cX3_record 9 (some .int), Cond.methodLink RX3 160 yX3_tableNumbered, Cond.instanceMethod yX3_tableNumbered, Cond.selects RX3 yX3_tableNumbered yX3_tableNumbered]
def wsL_law_r14 : List Cond := [Cond.code yX3_tableNumbered cX3_tableNumbered 2 (some (.object "RecordLabels$Table")), Cond.methodLink RX3 165 yX3_toCell, Cond.instanceMethod yX3_toCell, Cond.selects RX3 yX3_toCell yX3_toCell, Cond.code yX3_toCell cX3_toCell 5 (some .int), Cond.methodLink RX3 230 yX3_kindOfItem, Cond.instanceMethod yX3_kindOfItem, Cond.selects RX3 yX3_kindOfItem yX3_kindOfItem, Cond.code yX3_kindOfItem cX3_kindOfItem 3 (some (.object "RecordLabels$Kind")), Cond.methodLink RX3 169 yX3_putTogether, Cond.instanceMethod yX3_putTogether, Cond.selects RX3 yX3_putTogether yX3_putTogether, Cond.code yX3_putTogether cX3_putTogether 4 (some .int), Cond.methodLink RX3 195 yX3_wrongItem, Cond.instanceMethod yX3_wrongItem, Cond.selects RX3 yX3_wrongItem yX3_wrongItem, Cond.code yX3_wrongItem cX3_wrongItem 3 (some .int), Cond.methodLink RX3 234 yX3_highestOf, Cond.instanceMethod yX3_highestOf, Cond.selects RX3 yX3_highestOf yX3_highestOf, Cond.code yX3_highestOf cX3_highestOf 4 (some .int), Cond.constant RX3 238 (1000000), Cond.methodLink RX3 198 yX3_isFromTo, Cond.static yX3_isFromTo]
def wsL_law_r15 : List Cond := [Cond.code yX3_isFromTo cX3_isFromTo 3 (some .boolean), Cond.methodLink RL 77 yX4_record, Cond.instanceMethod yX4_record, Cond.selects RX4 yX4_record yX4_record, Cond.code yX4_record cX4_record 9 (some .int), Cond.fieldLink RX4 144 "RecordLabelsModel" "wrongs" "I", Cond.methodLink RX4 137 yX4_isTable, Cond.static yX4_isTable, Cond.code yX4_isTable cX4_isTable 1 (some .boolean), Cond.methodLink RX4 140 yX4_wrong, Cond.instanceMethod yX4_wrong, Cond.selects RX4 yX4_wrong yX4_wrong, Cond.code yX4_wrong cX4_wrong 5 (some .int), Cond.constant RX4 136 (1000000), Cond.methodLink RX4 147 yX4_take, Cond.instanceMethod yX4_take, Cond.selects RX4 yX4_take yX4_take, Cond.code yX4_take cX4_take 5 none, Cond.methodLink RL 78 yX3_lay, Cond.instanceMethod yX3_lay, Cond.selects RX3 yX3_lay yX3_lay, Cond.code yX3_lay cX3_lay 6 (some .int), Cond.instanceMethod yX2_hasRecord, Cond.selects RX2 yX2_hasRecord yX2_hasRecord]
def wsL_law_r16 : List Cond := [Cond.code yX2_hasRecord cX2_hasRecord 2 (some .boolean), Cond.instanceMethod yX2_hasItem, Cond.selects RX2 yX2_hasItem yX2_hasItem, Cond.code yX2_hasItem cX2_hasItem 2 (some .boolean), Cond.methodLink RL 81 yX4_lay, Cond.instanceMethod yX4_lay, Cond.selects RX4 yX4_lay yX4_lay, Cond.code yX4_lay cX4_lay 6 (some .int), Cond.methodLink RX4 154 yX4_isCell, Cond.instanceMethod yX4_isCell, Cond.selects RX4 yX4_isCell yX4_isCell, Cond.code yX4_isCell cX4_isCell 4 (some .boolean), Cond.methodLink RX4 151 yX4_items, Cond.static yX4_items, Cond.code yX4_items cX4_items 1 (some .int), Cond.methodLink RX4 157 yX4_kindOf, Cond.static yX4_kindOf, Cond.code yX4_kindOf cX4_kindOf 2 (some .int), Cond.methodLink RL 82 yX3_cell, Cond.instanceMethod yX3_cell, Cond.selects RX3 yX3_cell yX3_cell, Cond.code yX3_cell cX3_cell 5 (some .int), Cond.constant RX3 186 (-2000000000), Cond.methodLink RX3 187 yX3_fromCell]
def wsL_law_r17 : List Cond := [Cond.instanceMethod yX3_fromCell, Cond.selects RX3 yX3_fromCell yX3_fromCell, Cond.code yX3_fromCell cX3_fromCell 5 (some .int), Cond.methodLink RL 85 yX4_cell, Cond.instanceMethod yX4_cell, Cond.selects RX4 yX4_cell yX4_cell, Cond.code yX4_cell cX4_cell 4 (some .int), Cond.constant RX4 167 (-2000000000), Cond.methodLink RX4 163 yX4_toldOf, Cond.instanceMethod yX4_toldOf, Cond.selects RX4 yX4_toldOf yX4_toldOf, Cond.code yX4_toldOf cX4_toldOf 5 (some .int), Cond.methodLink RX4 160 yX4_codeNow, Cond.instanceMethod yX4_codeNow, Cond.selects RX4 yX4_codeNow yX4_codeNow, Cond.code yX4_codeNow cX4_codeNow 3 (some .int), Cond.methodLink RL 86 yX3_back, Cond.instanceMethod yX3_back, Cond.selects RX3 yX3_back yX3_back, Cond.code yX3_back cX3_back 4 (some .int), Cond.methodLink RX3 190 yX3_draftOf, Cond.instanceMethod yX3_draftOf, Cond.selects RX3 yX3_draftOf yX3_draftOf, Cond.code yX3_draftOf cX3_draftOf 4 none]
def wsL_law_r18 : List Cond := [Cond.methodLink RL 89 yX4_back, Cond.instanceMethod yX4_back, Cond.selects RX4 yX4_back yX4_back, Cond.code yX4_back cX4_back 5 (some .int), Cond.methodLink RL 90 yX3_part, Cond.instanceMethod yX3_part, Cond.selects RX3 yX3_part yX3_part, Cond.code yX3_part cX3_part 2 (some .int), Cond.methodLink RL 93 yX4_part, Cond.instanceMethod yX4_part, Cond.selects RX4 yX4_part yX4_part, Cond.code yX4_part cX4_part 2 (some .int), Cond.methodLink RL 94 yX3_filter, Cond.instanceMethod yX3_filter, Cond.selects RX3 yX3_filter yX3_filter, Cond.code yX3_filter cX3_filter 10 (some .int), Cond.methodLink RL 97 yX4_filter, Cond.instanceMethod yX4_filter, Cond.selects RX4 yX4_filter yX4_filter, Cond.code yX4_filter cX4_filter 8 (some .int), Cond.fieldLink RX4 168 "RecordLabelsModel" "finds" "I", Cond.methodLink RL 98 yX3_found, Cond.instanceMethod yX3_found, Cond.selects RX3 yX3_found yX3_found]
def wsL_law_r19 : List Cond := [Cond.code yX3_found cX3_found 2 (some .int), Cond.methodLink RL 101 yX4_found, Cond.instanceMethod yX4_found, Cond.selects RX4 yX4_found yX4_found, Cond.code yX4_found cX4_found 2 (some .int), Cond.methodLink RL 102 yX3_sum, Cond.instanceMethod yX3_sum, Cond.selects RX3 yX3_sum yX3_sum, Cond.code yX3_sum cX3_sum 7 (some .long), Cond.constantLong RX3 202 (-1), Cond.methodLink RL 106 yX4_sum, Cond.instanceMethod yX4_sum, Cond.selects RX4 yX4_sum yX4_sum, Cond.code yX4_sum cX4_sum 7 (some .long), Cond.constantLong RX4 171 (-1), Cond.methodLink RL 107 yX3_count, Cond.instanceMethod yX3_count, Cond.selects RX3 yX3_count yX3_count, Cond.code yX3_count cX3_count 2 (some .int), Cond.methodLink RL 110 yX4_count, Cond.instanceMethod yX4_count, Cond.selects RX4 yX4_count yX4_count, Cond.code yX4_count cX4_count 2 (some .int)]
def wsL_law : List Cond := (wsL_law_r1 ++ (wsL_law_r2 ++ (wsL_law_r3 ++ (wsL_law_r4 ++ (wsL_law_r5 ++ (wsL_law_r6 ++ (wsL_law_r7 ++ (wsL_law_r8 ++ (wsL_law_r9 ++ (wsL_law_r10 ++ (wsL_law_r11 ++ (wsL_law_r12 ++ (wsL_law_r13 ++ (wsL_law_r14 ++ (wsL_law_r15 ++ (wsL_law_r16 ++ (wsL_law_r17 ++ (wsL_law_r18 ++ wsL_law_r19)))))))))))))))))) ++ wsX30 ++ wsX40 ++ wsX00 ++ wsX20 ++ wsX10 ++ ([] : List Cond)

abbrev vwCl : List vw_C := [(RX0, TX0, 7), (RX1, TX1, 2), (RX2, TX2, 5), (RX3, TX3, 14), (RX4, TX4, 19)]
end
section
/-! THE WORLD. An object of the system is named by two numbers (group, place); ad gives its address, ow_c what it holds, out of the state st: ints by (row, place), longs, references by number. -/
abbrev ow_St : Type := (Nat → Nat → Int32) × (Nat → Int64) × (Nat → Nat)
abbrev ow_Ad : Type := Nat → Nat → Nat
def mn (k : Nat) : Nat := if k = 0 then 5 else if k = 1 then 7 else 26
def ow_si (st : ow_St) (c i : Nat) (v : Int32) : ow_St := (fun c' i' => if c' = c ∧ i' = i then v else st.1 c' i', st.2.1, st.2.2)
def ow_sl (st : ow_St) (i : Nat) (v : Int64) : ow_St := (st.1, (fun i' => if i' = i then v else st.2.1 i'), st.2.2)
def ow_sr (st : ow_St) (i : Nat) (v : Nat) : ow_St := (st.1, st.2.1, (fun i' => if i' = i then v else st.2.2 i'))
def ow_pt (ad : ow_Ad) (n : Nat) : Option Nat := match n with
  | 0 => none
  | n + 1 => some (ad 6 n)
def ow_nmA : List Int64 := [435459026032, 1684107122, 1853321076, 491328530802, 1819044200]
def ow_nmB : List Int64 := [28532, 1836020326, 1918985582, 1919252079, 491327352437, 121399003081079, 111481940305250]
def ow_nmC : List Int64 := [97, 98, 99, 100, 101, 102, 103, 104, 105, 106, 107, 108, 109, 110, 111, 112, 113, 114, 115, 116, 117, 118, 119, 120, 121, 122]
def ow_nm (k j : Nat) : Int64 := if k = 0 then ow_nmA.getD j 0 else if k = 1 then ow_nmB.getD j 0 else ow_nmC.getD j 0
def ow_nmM (j : Nat) : Int64 := (ow_nmA ++ ow_nmB).getD j 0
def ow_wi (j : Nat) : Int64 := ([5, 7, 9] : List Int64).getD j 0
def ow_mny (j : Nat) : Int32 := ([5, 7, 26] : List Int32).getD j 0
def ow_ids : List (Nat × Nat) := [(0, 0), (1, 0), (1, 1), (1, 2), (2, 0), (2, 1), (2, 2), (3, 0), (3, 1), (3, 2), (4, 0), (5, 0), (5, 1), (5, 2), (5, 3), (5, 4), (5, 5), (5, 6), (5, 7), (5, 8), (5, 9), (6, 0), (6, 1), (7, 0), (7, 1), (8, 0), (8, 1), (8, 2), (8, 3), (8, 4), (8, 5), (8, 6), (8, 7), (9, 0), (9, 1), (9, 2), (10, 0), (11, 0), (11, 1), (11, 2), (11, 3), (11, 4), (11, 5), (11, 6), (11, 7), (11, 8), (11, 9), (11, 10), (11, 11), (11, 12)]

def ow_c (ca : Nat → ClassId) (ad : ow_Ad) (st : ow_St) (g i : Nat) : va_E := match g with
  | 0 => (match i with
    | 0 => .inr (3, [.ref (ad 1 0), .ref (ad 1 1), .ref (ad 1 2), .ref (ad 4 0), .ref (ad 6 0), .ref (ad 6 1), .long (st.2.1 0), .int (st.1 0 0), .int (st.1 0 1), .ref (ad 9 0), .ref (ad 9 1), va_rf (ow_pt ad (st.2.2 0)), .ref (ad 9 2), .int (st.1 0 2)])
    | _ => .inr (0, []))
  | 1 => .inr (0, [.int (nI i), .ref (ad 12 i), .int (nI (mn i)), .ref (ad 2 i), .ref (ad 3 i), .int (st.1 1 i), .int (st.1 2 i)])
  | 2 => .inl (ca 0, mn i, .inl (st.1 (100 + 4 * i)))
  | 3 => .inl (ca 0, mn i, .inl (st.1 (101 + 4 * i)))
  | 4 => .inl (ca 3, 10, .inr (.inr (.inr (.inr (fun j => if j < 10 then some (ad 5 j) else none)))))
  | 5 => .inr (1, [.ref (ad 1 (st.2.2 (i + 1))), .int (st.1 3 i)])
  | 6 => .inr (2, [.ref (ad 1 i), .int (nI (3 + i)), .int (nI (1 + 2 * i)), .ref (ad 7 i), .int (st.1 4 i)])
  | 7 => .inl (ca 4, 4, .inr (.inr (.inr (.inr (fun j => if j < 4 then some (ad 8 (4 * i + j)) else none)))))
  | 8 => .inl (ca 0, 30, .inl (st.1 (102 + 4 * i)))
  | 9 => .inl (ca 0, if i = 2 then 30 else 4, .inl (st.1 (103 + 4 * i)))
  | 10 => (match i with
    | 0 => .inr (4, [.ref (ad 11 0), .ref (ad 11 1), .ref (ad 11 2), .ref (ad 11 3), .ref (ad 11 4), .ref (ad 11 5), .long (st.2.1 1), .int (st.1 61 0), .int (st.1 61 1), .ref (ad 11 6), .ref (ad 11 7), .ref (ad 11 8), .ref (ad 11 9), .int (st.1 61 2), .ref (ad 11 10), .int (st.1 61 3), .ref (ad 11 11), .long (st.2.1 2), .ref (ad 11 12)])
    | _ => .inr (0, []))
  | 11 => (match i with
    | 0 => .inl (ca 0, 3, .inl ow_mny)
    | 1 => .inl (ca 1, 12, .inr (.inl ow_nmM))
    | 2 => .inl (ca 0, 78, .inl (st.1 50))
    | 3 => .inl (ca 0, 78, .inl (st.1 51))
    | 4 => .inl (ca 0, 3, .inl (st.1 52))
    | 5 => .inl (ca 2, 3, .inl (st.1 53))
    | 6 => .inl (ca 0, 10, .inl (st.1 54))
    | 7 => .inl (ca 0, 10, .inl (st.1 55))
    | 8 => .inl (ca 0, 2, .inl (st.1 56))
    | 9 => .inl (ca 0, 240, .inl (st.1 57))
    | 10 => .inl (ca 0, 4, .inl (st.1 58))
    | 11 => .inl (ca 0, 30, .inl (st.1 59))
    | 12 => .inl (ca 0, 4, .inl (st.1 60))
    | _ => .inr (0, []))
  | _ => .inr (0, [])
def ow_ws (ad : ow_Ad) (w : Nat → Nat → va_E) : va_W := ow_ids.map (fun k => (ad k.1 k.2, w k.1 k.2))
def ow_up (w : Nat → Nat → va_E) (g i : Nat) (e : va_E) : Nat → Nat → va_E := fun g' i' => if g' = g ∧ i' = i then e else w g' i'
def ow_z : Nat → Nat → va_E := fun _ _ => .inr (0, [])
def ow_ty (ca : Nat → ClassId) : List (ClassId × FieldType) := [(ca 0, .int), (ca 1, .long), (ca 2, .boolean), (ca 3, .object "RecordLabels$LabelSet"), (ca 4, .array .int)]
theorem ow_nd : ∀ i, i < 50 → ∀ j, j < 50 → ow_ids[i]? = ow_ids[j]? → i = j := by decide +kernel
theorem ow_len : ow_ids.length = 50 := by decide +kernel
theorem ow_get {ad : ow_Ad} {w : Nat → Nat → va_E} {g i : Nat} (h : (g, i) ∈ ow_ids) : ∃ q : Nat, ow_ids[q]? = some (g, i) ∧ (ow_ws ad w)[q]? = some (ad g i, w g i) := by
  obtain ⟨q, hq⟩ := List.getElem?_of_mem h
  refine ⟨q, hq, ?_⟩
  unfold ow_ws
  rw [List.getElem?_map, hq]
  rfl
theorem ow_set {ad : ow_Ad} {w : Nat → Nat → va_E} {g i q : Nat} {e : va_E} (hq : ow_ids[q]? = some (g, i)) : (ow_ws ad w).set q (ad g i, e) = ow_ws ad (ow_up w g i e) := by
  apply List.ext_getElem?
  intro j
  have hql : q < ow_ids.length := (List.getElem?_eq_some_iff.mp hq).1
  unfold ow_ws
  by_cases hj : j < ow_ids.length
  · obtain ⟨x, hx⟩ : ∃ x, ow_ids[j]? = some x := ⟨_, List.getElem?_eq_getElem hj⟩
    by_cases e1 : q = j
    · subst e1
      rw [List.getElem?_set_self (by rw [List.length_map]; exact hql), List.getElem?_map, hq]
      simp [ow_up]
    · rw [List.getElem?_set_ne e1, List.getElem?_map, List.getElem?_map, hx]
      have hne : ¬ (x.1 = g ∧ x.2 = i) := by
        rintro ⟨a, b⟩
        refine e1 (ow_nd q (by rw [ow_len] at hql; exact hql) j (by rw [ow_len] at hj; exact hj) ?_)
        rw [hq, hx]
        cases x
        cases a
        cases b
        rfl
      simp [ow_up, hne]
  · rw [List.getElem?_eq_none (by simp; omega), List.getElem?_eq_none (by simp; omega)]
theorem ow_D {A : Nat → Prop} {ad : ow_Ad} {w w' : Nat → Nat → va_E} (h : va_D A (ow_ws ad w)) : va_D A (ow_ws ad w') := by
  have key : ∀ (k : Nat) (q : Nat × va_E), (ow_ws ad w')[k]? = some q → ∃ q', (ow_ws ad w)[k]? = some q' ∧ q'.1 = q.1 := by
    intro k q hq
    unfold ow_ws at hq ⊢
    rw [List.getElem?_map] at hq ⊢
    cases hk : ow_ids[k]? with
    | none => rw [hk] at hq; cases hq
    | some x => rw [hk] at hq; cases hq; exact ⟨_, rfl, rfl⟩
  refine ⟨fun i j p q hi hj hpq => ?_, fun k q hk => ?_⟩
  · obtain ⟨p', h1, h2⟩ := key i p hi
    obtain ⟨q', h3, h4⟩ := key j q hj
    exact h.1 i j p' q' h1 h3 (by rw [h2, h4]; exact hpq)
  · obtain ⟨q', h1, h2⟩ := key k q hk
    rw [← h2]
    exact h.2 k q' h1
theorem ow_inj {A : Nat → Prop} {ad : ow_Ad} {w : Nat → Nat → va_E} (h : va_D A (ow_ws ad w)) {g i g' i' : Nat} (h1 : (g, i) ∈ ow_ids) (h2 : (g', i') ∈ ow_ids) (e : ad g i = ad g' i') : g = g' ∧ i = i' := by
  obtain ⟨q, a1, a2⟩ := ow_get (ad := ad) (w := w) h1
  obtain ⟨q', b1, b2⟩ := ow_get (ad := ad) (w := w) h2
  have := h.1 q q' _ _ a2 b2 e
  subst this
  have := a1.symm.trans b1
  cases this
  exact ⟨rfl, rfl⟩

def ow_nest : List Cond := [.fieldLinkNest RX3 157 "RecordLabels$Kind" "number" "I" "RecordLabels", .fieldLinkNest RX3 98 "RecordLabels$Kind" "names" "[J" "RecordLabels", .fieldLinkNest RX3 155 "RecordLabels$Kind" "size" "I" "RecordLabels", .fieldLinkNest RX3 101 "RecordLabels$Kind" "constants" "[I" "RecordLabels", .fieldLinkNest RX3 119 "RecordLabels$Kind" "start" "I" "RecordLabels", .fieldLinkNest RX3 122 "RecordLabels$Kind" "toldToFail" "Z" "RecordLabels", .fieldLinkNest RX3 194 "RecordLabels$Table" "kind" "LRecordLabels$Kind;" "RecordLabels", .fieldLinkNest RX3 173 "RecordLabels$Table" "items" "I" "RecordLabels", .fieldLinkNest RX3 204 "RecordLabels$Table" "measure" "I" "RecordLabels", .fieldLinkNest RX3 176 "RecordLabels$Table" "columns" "[[I" "RecordLabels", .fieldLinkNest RX3 164 "RecordLabels$Table" "size" "I" "RecordLabels", .fieldLinkNest RX3 142 "RecordLabels$LabelSet" "kind" "LRecordLabels$Kind;" "RecordLabels", .fieldLinkNest RX3 148 "RecordLabels$LabelSet" "members" "I" "RecordLabels", .methodLinkNest RX3 15 yX0_init "RecordLabels", .methodLinkNest RX3 42 yX2_init "RecordLabels", .methodLinkNest RX3 79 yX1_init "RecordLabels", .methodLinkNest RX3 86 yX0_constantNamed "RecordLabels", .methodLinkNest RX3 90 yX0_codeOf "RecordLabels", .methodLinkNest RX3 94 yX0_has "RecordLabels", .methodLinkNest RX3 104 yX0_exchange "RecordLabels", .methodLinkNest RX3 108 yX0_constantOf "RecordLabels", .methodLinkNest RX3 207 yX0_startForRule "RecordLabels", .methodLinkNest RX3 134 yX1_size "RecordLabels", .methodLinkNest RX3 138 yX1_become "RecordLabels", .methodLinkNest RX3 145 yX1_holds "RecordLabels", .methodLinkNest RX1 23 yX0_has "RecordLabels", .methodLinkNest RX3 180 yX2_hasRecord "RecordLabels", .methodLinkNest RX3 183 yX2_hasItem "RecordLabels"]
theorem ow_nest_go {s U : State} (hW : s.WarmedH U.vm) (h : ∀ w ∈ ow_nest, va_Nw w s) : ∀ w ∈ ow_nest, va_Nw w U := by
  intro w hw
  have h1 := h w hw
  simp only [ow_nest, List.mem_cons, List.not_mem_nil, or_false] at hw
  rcases hw with rfl | rfl | rfl | rfl | rfl | rfl | rfl | rfl | rfl | rfl | rfl | rfl | rfl | rfl | rfl | rfl | rfl | rfl | rfl | rfl | rfl | rfl | rfl | rfl | rfl | rfl | rfl | rfl <;> first | exact va_Nw.warmF hW h1 | exact va_Nw.warmM hW h1
theorem ow_nest_same {s U : State} (e : s.vm = U.vm) (h : ∀ w ∈ ow_nest, va_Nw w s) : ∀ w ∈ ow_nest, va_Nw w U := by
  intro w hw
  have h1 := h w hw
  simp only [ow_nest, List.mem_cons, List.not_mem_nil, or_false] at hw
  rcases hw with rfl | rfl | rfl | rfl | rfl | rfl | rfl | rfl | rfl | rfl | rfl | rfl | rfl | rfl | rfl | rfl | rfl | rfl | rfl | rfl | rfl | rfl | rfl | rfl | rfl | rfl | rfl | rfl <;> exact va_Nw.same rfl e h1

/-- what holds of the tables and the statics all the while -/
def ow_C (D : va_G) (ca : Nat → ClassId) (ad : ow_Ad) (A : Nat → Prop) (U : State) : Prop :=
  va_K D vwCl (ow_ty ca) U ∧ va_D A (ow_ws ad ow_z) ∧ (∀ w ∈ ow_nest, va_Nw w U) ∧ (∀ q, U.heap.size ≤ q → A q) ∧
  (∀ k, k < 3 → va_T .long (ad 12 k) (mn k) (fun j => .long (ow_nm k j)) A U U.heap) ∧ va_Z "RecordLabels" "WITHIN_ITEMS" "[J" (.ref (ad 12 3)) A U U.heap ∧ va_T .long (ad 12 3) 3 (fun j => .long (ow_wi j)) A U U.heap
def ow_W (D : va_G) (ca : Nat → ClassId) (ad : ow_Ad) (A : Nat → Prop) (st : ow_St) (U : State) : Prop := va_P D vwCl (ow_ws ad (ow_c ca ad st)) U.heap ∧ ow_C D ca ad A U
def ow_B (D : va_G) (ca : Nat → ClassId) (ad : ow_Ad) (st : ow_St) (t : State) : Prop := va_P D vwCl (ow_ws ad (ow_c ca ad st)) t.heap
theorem ow_Bi {D : va_G} {ca : Nat → ClassId} {ad : ow_Ad} {st : ow_St} {t : State} {H : Heap} (ht : t.heap = H) (hP : va_P D vwCl (ow_ws ad (ow_c ca ad st)) H) : ow_B D ca ad st t := by
  unfold ow_B
  rw [ht]
  exact hP
theorem ow_C.go {D : va_G} {ca : Nat → ClassId} {ad : ow_Ad} {A : Nat → Prop} {s U : State} {H : Heap} {locs : List Loc} (h : ow_C D ca ad A s) (hS : va_S A s.heap H locs) (hU : U.heap = H) (hW : s.WarmedH U.vm) : ow_C D ca ad A U := by
  obtain ⟨h1, h2, h3, h4, h5, h6, h7⟩ := h
  have hk : ∀ a : Nat, a < s.heap.size → ¬ A a → U.heap[a]? = s.heap[a]? := fun a h8 h9 => by rw [hU]; exact hS.2.1 a h8 h9
  exact ⟨va_K.moved hW.alike h1, h2, ow_nest_go hW h3, fun q hq => h4 q (by rw [hU] at hq; exact Nat.le_trans hS.1 hq), fun k hk3 => va_T.moved hW.alike ((h5 k hk3).kept hk), va_Z.moved hW.alike (h6.kept hk), va_T.moved hW.alike (h7.kept hk)⟩
theorem ow_C.calling {D : va_G} {ca : Nat → ClassId} {ad : ow_Ad} {A : Nat → Prop} {U : State} {a : Array Value} {g : JFrame} {mk : MethodId} (h : ow_C D ca ad A U) : ow_C D ca ad A (U.calling g mk a) := by
  obtain ⟨h1, h2, h3, h4, h5, h6, h7⟩ := h
  exact ⟨va_K.moved (u := U) (U := U.calling g mk a) (Vm.Alike.refl U.vm) h1, h2, ow_nest_same (s := U) (U := U.calling g mk a) rfl h3, h4, fun k hk => va_T.moved (u := U) (U := U.calling g mk a) (Vm.Alike.refl U.vm) (h5 k hk), va_Z.moved (u := U) (U := U.calling g mk a) (Vm.Alike.refl U.vm) h6, va_T.moved (u := U) (U := U.calling g mk a) (Vm.Alike.refl U.vm) h7⟩
theorem ow_blind (D : va_G) (ca : Nat → ClassId) (ad : ow_Ad) (A : Nat → Prop) (st : ow_St) (av : List Value) : FrameBlind (va_Pc av (ow_W D ca ad A st)) := fun _ _ _ _ q => ⟨q.1, q.2.1, q.2.2.calling⟩
section OW
variable {p : Program} {l : Launch} {e : Env} {R : Room} {s : State} {m : MethodId} {args : Array Value} {below : List Frame} {meth : Method} {c : Code} {H : Heap} {locs : List Loc} {cells slots : Nat} {Q : State → Prop}
variable {cc : ByteArray} {pc : Nat} {ls : Array Slot} {rest : List Value} {D : va_G} {A : Nat → Prop} {ca : Nat → ClassId} {ad : ow_Ad} {w w' : Nat → Nat → va_E} {H0 : Heap}
theorem og_get (hx : p.tables.exec = Jvm.exec) (hb : c.code = cc) {own ref C : String} {T : u_T} {N ci index g i : Nat} {Ts : List Cond} (hts : ∀ w ∈ Ts, w.before args s = true) (hin : ∀ w ∈ u_ws C T N, w ∈ Ts) (hown : s.vm.findClass own = some m.cls) (hC : ow_C D ca ad A s) (hP : va_P D vwCl (ow_ws ad w) H) (hid : (g, i) ∈ ow_ids) {fs : List Value} (he : w g i = .inr (ci, fs)) (hc : vwCl[ci]? = some (C, T, N)) (k : Nat) (hk : k < N) (hlink : (Cond.fieldLink own index ref (T k).2.1 (T k).2.2.1).before args s = true) (hsame : (T k).1 = ref) {v : Value} (hv : fs[k]? = some v) (hdg : decode cc pc = .ok (.getfield index, 3))
    (kk : W p l e R s m args below meth c H locs cells slots Q (F0 m (pc + 3) ls (v :: rest))) : W p l e R s m args below meth c H locs cells slots Q (F0 m pc ls (.ref (ad g i) :: rest)) := by
  obtain ⟨q, -, hq⟩ := ow_get (ad := ad) (w := w) hid
  rw [he] at hq
  subst hsame
  exact va_get hx hb hts hin hown hC.1 hP q hq hc k hk hlink (fun _ h => h) hv hdg kk
theorem og_getN (hx : p.tables.exec = Jvm.exec) (hb : c.code = cc) {own ref C host : String} {T : u_T} {N ci index g i : Nat} {Ts : List Cond} (hts : ∀ w ∈ Ts, w.before args s = true) (hin : ∀ w ∈ u_ws C T N, w ∈ Ts) (hown : s.vm.findClass own = some m.cls) (hC : ow_C D ca ad A s) (hP : va_P D vwCl (ow_ws ad w) H) (hid : (g, i) ∈ ow_ids) {fs : List Value} (he : w g i = .inr (ci, fs)) (hc : vwCl[ci]? = some (C, T, N)) (k : Nat) (hk : k < N) (hlink : Cond.fieldLinkNest own index ref (T k).2.1 (T k).2.2.1 host ∈ ow_nest) (hsame : (T k).1 = ref) {v : Value} (hv : fs[k]? = some v) (hdg : decode cc pc = .ok (.getfield index, 3))
    (kk : W p l e R s m args below meth c H locs cells slots Q (F0 m (pc + 3) ls (v :: rest))) : W p l e R s m args below meth c H locs cells slots Q (F0 m pc ls (.ref (ad g i) :: rest)) := by
  obtain ⟨q, -, hq⟩ := ow_get (ad := ad) (w := w) hid
  rw [he] at hq
  subst hsame
  exact va_getN hx hb hts hin hown hC.1 hP q hq hc k hk (va_Nw.use rfl (hC.2.2.1 _ hlink)) (fun _ h => h) hv hdg kk
theorem og_put (hx : p.tables.exec = Jvm.exec) (hb : c.code = cc) {own ref C : String} {T : u_T} {N ci index g i : Nat} {Ts : List Cond} (hts : ∀ w ∈ Ts, w.before args s = true) (hin : ∀ w ∈ u_ws C T N, w ∈ Ts) (ty0 : Nat → FieldType) (hty : ∀ k, k < N → parseFieldDescriptor (T k).2.2.1 = some (ty0 k)) (hnm : ∀ a, a < N → ∀ b, b < N → a ≠ b → (T a).2.1 ≠ (T b).2.1) (hown : s.vm.findClass own = some m.cls) (hC : ow_C D ca ad A s) (hP : va_P D vwCl (ow_ws ad w) H) (hS : va_S A H0 H locs) (hid : (g, i) ∈ ow_ids) {fs : List Value} (he : w g i = .inr (ci, fs)) (hc : vwCl[ci]? = some (C, T, N)) (k : Nat) (hk : k < N) (hlink : (Cond.fieldLink own index ref (T k).2.1 (T k).2.2.1).before args s = true) (hsame : (T k).1 = ref) (hfin : (T k).2.2.2 = false) {ty : FieldType} {v : Value} (hd : parseFieldDescriptor (T k).2.2.1 = some ty) (hn : narrow ty v = v) (hfit : fits ty v = true) (hl : k < fs.length) (hw : ow_up w g i (.inr (ci, fs.set k v)) = w')
    (hdg : decode cc pc = .ok (.putfield index, 3)) (kk : ∀ (H1 : Heap) (locs1 : List Loc), va_P D vwCl (ow_ws ad w') H1 → va_S A H0 H1 locs1 → W p l e R s m args below meth c H1 locs1 cells slots Q (F0 m (pc + 3) ls rest)) : W p l e R s m args below meth c H locs cells slots Q (F0 m pc ls (v :: .ref (ad g i) :: rest)) := by
  obtain ⟨q, hq0, hq⟩ := ow_get (ad := ad) (w := w) hid
  rw [he] at hq
  subst hsame
  refine va_put hx hb hts hin ty0 hty hnm hown hC.1 hP (ow_D hC.2.1) hS q hq hc k hk hlink (fun _ h => h) hfin hd hn hfit hl hdg (fun H1 locs1 hP1 _ hS1 => ?_)
  rw [ow_set hq0, hw] at hP1
  exact kk H1 locs1 hP1 hS1
theorem og_putN (hx : p.tables.exec = Jvm.exec) (hb : c.code = cc) {own ref C host : String} {T : u_T} {N ci index g i : Nat} {Ts : List Cond} (hts : ∀ w ∈ Ts, w.before args s = true) (hin : ∀ w ∈ u_ws C T N, w ∈ Ts) (ty0 : Nat → FieldType) (hty : ∀ k, k < N → parseFieldDescriptor (T k).2.2.1 = some (ty0 k)) (hnm : ∀ a, a < N → ∀ b, b < N → a ≠ b → (T a).2.1 ≠ (T b).2.1) (hown : s.vm.findClass own = some m.cls) (hC : ow_C D ca ad A s) (hP : va_P D vwCl (ow_ws ad w) H) (hS : va_S A H0 H locs) (hid : (g, i) ∈ ow_ids) {fs : List Value} (he : w g i = .inr (ci, fs)) (hc : vwCl[ci]? = some (C, T, N)) (k : Nat) (hk : k < N) (hlink : Cond.fieldLinkNest own index ref (T k).2.1 (T k).2.2.1 host ∈ ow_nest) (hsame : (T k).1 = ref) (hfin : (T k).2.2.2 = false) {ty : FieldType} {v : Value} (hd : parseFieldDescriptor (T k).2.2.1 = some ty) (hn : narrow ty v = v) (hfit : fits ty v = true) (hl : k < fs.length) (hw : ow_up w g i (.inr (ci, fs.set k v)) = w')
    (hdg : decode cc pc = .ok (.putfield index, 3)) (kk : ∀ (H1 : Heap) (locs1 : List Loc), va_P D vwCl (ow_ws ad w') H1 → va_S A H0 H1 locs1 → W p l e R s m args below meth c H1 locs1 cells slots Q (F0 m (pc + 3) ls rest)) : W p l e R s m args below meth c H locs cells slots Q (F0 m pc ls (v :: .ref (ad g i) :: rest)) := by
  obtain ⟨q, hq0, hq⟩ := ow_get (ad := ad) (w := w) hid
  rw [he] at hq
  subst hsame
  refine va_putN hx hb hts hin ty0 hty hnm hown hC.1 hP (ow_D hC.2.1) hS q hq hc k hk (va_Nw.use rfl (hC.2.2.1 _ hlink)) (fun _ h => h) hfin hd hn hfit hl hdg (fun H1 locs1 hP1 _ hS1 => ?_)
  rw [ow_set hq0, hw] at hP1
  exact kk H1 locs1 hP1 hS1
theorem og_iald (hx : p.tables.exec = Jvm.exec) (hb : c.code = cc) (hC : ow_C D ca ad A s) (hP : va_P D vwCl (ow_ws ad w) H) {g i n j : Nat} (hid : (g, i) ∈ ow_ids) {f : Nat → Int32} (he : w g i = .inl (ca 0, n, .inl f)) {x : Int32} (hin : vp_in x n) (hj : x.toNatClampNeg = j) {v : Int32} (hv : f j = v) (hdg : decode cc pc = .ok (.iaload, 1))
    (kk : W p l e R s m args below meth c H locs cells slots Q (F0 m (pc + 1) ls (.int v :: rest))) : W p l e R s m args below meth c H locs cells slots Q (F0 m pc ls (.int x :: .ref (ad g i) :: rest)) := by
  obtain ⟨q, -, hq⟩ := ow_get (ad := ad) (w := w) hid
  rw [he] at hq
  subst hj
  subst hv
  exact va_iald hx hb hC.1 hP q 0 hq rfl hin hdg kk
theorem og_zald (hx : p.tables.exec = Jvm.exec) (hb : c.code = cc) (hC : ow_C D ca ad A s) (hP : va_P D vwCl (ow_ws ad w) H) {g i n j : Nat} (hid : (g, i) ∈ ow_ids) {f : Nat → Int32} (he : w g i = .inl (ca 2, n, .inl f)) {x : Int32} (hin : vp_in x n) (hj : x.toNatClampNeg = j) {v : Int32} (hv : f j = v) (hdg : decode cc pc = .ok (.baload, 1))
    (kk : W p l e R s m args below meth c H locs cells slots Q (F0 m (pc + 1) ls (.int v :: rest))) : W p l e R s m args below meth c H locs cells slots Q (F0 m pc ls (.int x :: .ref (ad g i) :: rest)) := by
  obtain ⟨q, -, hq⟩ := ow_get (ad := ad) (w := w) hid
  rw [he] at hq
  subst hj
  subst hv
  exact va_zald hx hb hC.1 hP q 2 hq rfl hin hdg kk
theorem og_lald (hx : p.tables.exec = Jvm.exec) (hb : c.code = cc) (hC : ow_C D ca ad A s) (hP : va_P D vwCl (ow_ws ad w) H) {g i n j : Nat} (hid : (g, i) ∈ ow_ids) {f : Nat → Int64} (he : w g i = .inl (ca 1, n, .inr (.inl f))) {x : Int32} (hin : vp_in x n) (hj : x.toNatClampNeg = j) {v : Int64} (hv : f j = v) (hdg : decode cc pc = .ok (.laload, 1))
    (kk : W p l e R s m args below meth c H locs cells slots Q (F0 m (pc + 1) ls (.long v :: rest))) : W p l e R s m args below meth c H locs cells slots Q (F0 m pc ls (.int x :: .ref (ad g i) :: rest)) := by
  obtain ⟨q, -, hq⟩ := ow_get (ad := ad) (w := w) hid
  rw [he] at hq
  subst hj
  subst hv
  exact va_lald hx hb hC.1 hP q 1 hq rfl hin hdg kk
theorem og_iast (hx : p.tables.exec = Jvm.exec) (hb : c.code = cc) (hC : ow_C D ca ad A s) (hP : va_P D vwCl (ow_ws ad w) H) (hS : va_S A H0 H locs) {g i n j : Nat} (hid : (g, i) ∈ ow_ids) {f : Nat → Int32} (he : w g i = .inl (ca 0, n, .inl f)) {x v : Int32} (hin : vp_in x n) (hj : x.toNatClampNeg = j) (hw : ow_up w g i (.inl (ca 0, n, .inl (upd f j v))) = w') (hdg : decode cc pc = .ok (.iastore, 1))
    (kk : ∀ (H1 : Heap) (locs1 : List Loc), va_P D vwCl (ow_ws ad w') H1 → va_S A H0 H1 locs1 → W p l e R s m args below meth c H1 locs1 cells slots Q (F0 m (pc + 1) ls rest)) : W p l e R s m args below meth c H locs cells slots Q (F0 m pc ls (.int v :: .int x :: .ref (ad g i) :: rest)) := by
  obtain ⟨q, hq0, hq⟩ := ow_get (ad := ad) (w := w) hid
  rw [he] at hq
  subst hj
  refine va_iast hx hb hC.1 hP (ow_D hC.2.1) hS q 0 hq rfl hin hdg (fun H1 locs1 hP1 _ hS1 => ?_)
  rw [ow_set hq0, hw] at hP1
  exact kk H1 locs1 hP1 hS1
theorem og_zast (hx : p.tables.exec = Jvm.exec) (hb : c.code = cc) (hC : ow_C D ca ad A s) (hP : va_P D vwCl (ow_ws ad w) H) (hS : va_S A H0 H locs) {g i n j : Nat} (hid : (g, i) ∈ ow_ids) {f : Nat → Int32} (he : w g i = .inl (ca 2, n, .inl f)) {x v : Int32} (hin : vp_in x n) (hj : x.toNatClampNeg = j) (hnar : vp_nar .boolean v = v) (hw : ow_up w g i (.inl (ca 2, n, .inl (upd f j v))) = w') (hdg : decode cc pc = .ok (.bastore, 1))
    (kk : ∀ (H1 : Heap) (locs1 : List Loc), va_P D vwCl (ow_ws ad w') H1 → va_S A H0 H1 locs1 → W p l e R s m args below meth c H1 locs1 cells slots Q (F0 m (pc + 1) ls rest)) : W p l e R s m args below meth c H locs cells slots Q (F0 m pc ls (.int v :: .int x :: .ref (ad g i) :: rest)) := by
  obtain ⟨q, hq0, hq⟩ := ow_get (ad := ad) (w := w) hid
  rw [he] at hq
  subst hj
  refine va_zast hx hb hC.1 hP (ow_D hC.2.1) hS q 2 hq rfl hin hdg (fun H1 locs1 hP1 _ hS1 => ?_)
  rw [ow_set hq0, hnar, hw] at hP1
  exact kk H1 locs1 hP1 hS1
theorem og_aald (hx : p.tables.exec = Jvm.exec) (hb : c.code = cc) (hC : ow_C D ca ad A s) (hP : va_P D vwCl (ow_ws ad w) H) {g i n t0 : Nat} {C : String} {cA : ClassId} (hid : (g, i) ∈ ow_ids) {f : Nat → Option Nat} (he : w g i = .inl (cA, n, .inr (.inr (.inr (.inr f))))) (ht : (ow_ty ca)[t0]? = some (cA, .object C)) {x : Int32} (hin : vp_in x n) {v : Nat} (hv : f x.toNatClampNeg = some v) (hdg : decode cc pc = .ok (.aaload, 1))
    (kk : W p l e R s m args below meth c H locs cells slots Q (F0 m (pc + 1) ls (.ref v :: rest))) : W p l e R s m args below meth c H locs cells slots Q (F0 m pc ls (.int x :: .ref (ad g i) :: rest)) := by
  obtain ⟨q, -, hq⟩ := ow_get (ad := ad) (w := w) hid
  rw [he] at hq
  refine va_aldq hx hb hC.1 hP q t0 hq ht hin hdg ?_
  rw [hv]
  exact kk
/-- the calls' runs -/
theorem og_runV {y : MethodName} {bytes : ByteArray} {maxL nL n index g i ci N : Nat} {T : u_T} {ret : Option FieldType} {wy Ts : List Cond} {rm : Room} {Qc : Array Value → State → Outcome → State → Prop} {own C : String} {As : List Value} {st : ow_St} {st0 : List Value} {fs : List Value}
    (S : CallFix p m c cc nL s args Ts own) (hM : Met l y wy rm (va_Pc (.ref (ad g i) :: As) (ow_W D ca ad A st)) Qc 0 0 A) (cw : CallW R s args own C index y bytes maxL ret wy rm 0 0 n) (hC : ow_C D ca ad A s) (hP : va_P D vwCl (ow_ws ad (ow_c ca ad st)) H) (hS : va_S A s.heap H locs) (hid : (g, i) ∈ ow_ids) (he : ow_c ca ad st g i = .inr (ci, fs)) (hc : vwCl[ci]? = some (C, T, N)) (hn : As.length = n) (hsize : ls.size = nL) (hstack : st0 = As.reverse ++ .ref (ad g i) :: rest) (hW : (rest.map fun v => v.category).sum ≤ 8) (hdg : decode cc pc = .ok (.invokevirtual index, 3)) (hf : cells ≤ R.cells ∧ slots ≤ R.slots) :
    va_Run p l e R s m args below meth c H locs cells slots 0 0 (F0 m pc ls st0) rest (Qc (Value.ref (ad g i) :: As).toArray) A := by
  obtain ⟨q, -, hq⟩ := ow_get (ad := ad) (w := ow_c ca ad st) hid
  rw [he] at hq
  subst hstack
  exact va_runV (As := As) (rest := rest) S hM cw ⟨ow_blind D ca ad A st _, va_recv hC.1 hP hc hq, fun U hU hW => ⟨rfl, by rw [hU]; exact hP, hC.go hS hU hW⟩⟩ rfl hn hsize rfl (lv_room (rest := As.reverse ++ .ref (ad g i) :: rest) hW) hdg hf
theorem og_runVN {y : MethodName} {bytes : ByteArray} {maxL nL n index g i ci N : Nat} {T : u_T} {ret : Option FieldType} {wy Ts : List Cond} {rm : Room} {Qc : Array Value → State → Outcome → State → Prop} {own C host : String} {As : List Value} {st : ow_St} {st0 : List Value} {fs : List Value}
    (S : CallFix p m c cc nL s args Ts own) (hM : Met l y wy rm (va_Pc (.ref (ad g i) :: As) (ow_W D ca ad A st)) Qc 0 0 A) (cw : va_CN R s args own index y host bytes maxL ret wy rm 0 0 n ∧ (Cond.instanceMethod y).before args s = true ∧ (Cond.selects C y y).before args s = true) (hC : ow_C D ca ad A s) (hP : va_P D vwCl (ow_ws ad (ow_c ca ad st)) H) (hS : va_S A s.heap H locs) (hid : (g, i) ∈ ow_ids) (he : ow_c ca ad st g i = .inr (ci, fs)) (hc : vwCl[ci]? = some (C, T, N)) (hn : As.length = n) (hsize : ls.size = nL) (hstack : st0 = As.reverse ++ .ref (ad g i) :: rest) (hW : (rest.map fun v => v.category).sum ≤ 8) (hdg : decode cc pc = .ok (.invokevirtual index, 3)) (hf : cells ≤ R.cells ∧ slots ≤ R.slots) :
    va_Run p l e R s m args below meth c H locs cells slots 0 0 (F0 m pc ls st0) rest (Qc (Value.ref (ad g i) :: As).toArray) A := by
  obtain ⟨q, -, hq⟩ := ow_get (ad := ad) (w := ow_c ca ad st) hid
  rw [he] at hq
  subst hstack
  exact va_runVN (As := As) (rest := rest) S hM cw ⟨ow_blind D ca ad A st _, va_recv hC.1 hP hc hq, fun U hU hW => ⟨rfl, by rw [hU]; exact hP, hC.go hS hU hW⟩⟩ rfl hn hsize rfl (lv_room (rest := As.reverse ++ .ref (ad g i) :: rest) hW) hdg hf
theorem og_runS {y : MethodName} {bytes : ByteArray} {maxL nL n index : Nat} {ret : Option FieldType} {wy Ts : List Cond} {rm : Room} {Qc : Array Value → State → Outcome → State → Prop} {own : String} {As : List Value} {st : ow_St} {st0 : List Value}
    (S : CallFix p m c cc nL s args Ts own) (hM : Met l y wy rm (va_Pc As (ow_W D ca ad A st)) Qc 0 0 A) (cw : CallB R s args own index y bytes maxL ret wy rm 0 0 n ∧ (Cond.static y).before args s = true) (hC : ow_C D ca ad A s) (hP : va_P D vwCl (ow_ws ad (ow_c ca ad st)) H) (hS : va_S A s.heap H locs) (hn : As.length = n) (hsize : ls.size = nL) (hstack : st0 = As.reverse ++ rest) (hW : (rest.map fun v => v.category).sum ≤ 8) (hdg : decode cc pc = .ok (.invokestatic index, 3)) (hf : cells ≤ R.cells ∧ slots ≤ R.slots) :
    va_Run p l e R s m args below meth c H locs cells slots 0 0 (F0 m pc ls st0) rest (Qc As.toArray) A := by
  subst hstack
  exact va_runS (As := As) (rest := rest) S hM cw ⟨ow_blind D ca ad A st _, fun U hU hW => ⟨rfl, by rw [hU]; exact hP, hC.go hS hU hW⟩⟩ rfl hn hsize rfl (lv_room (rest := As.reverse ++ rest) hW) hdg hf
theorem og_ci {st0 : List Value} {a : Array Value} {post : Int32 → ow_St → Prop} (hr : va_Run p l e R s m args below meth c H locs cells slots 0 0 (F0 m pc ls st0) rest (va_Qi post (ow_B D ca ad) A a) A) (hS : va_S A s.heap H locs)
    (kk : ∀ (r : Int32) (st' : ow_St) (H1 : Heap) (locs1 : List Loc), post r st' → va_P D vwCl (ow_ws ad (ow_c ca ad st')) H1 → va_S A s.heap H1 locs1 → W p l e R s m args below meth c H1 locs1 cells slots Q (F0 m (pc + 3) ls (.int r :: rest))) : W p l e R s m args below meth c H locs cells slots Q (F0 m pc ls st0) :=
  va_calli hr hS (fun _ _ h => h) (fun _ h => h) (fun r u t H1 locs1 ht _ hp hB _ _ hS1 => kk r u H1 locs1 hp (by rw [← ht]; exact hB) hS1)
theorem og_cl {st0 : List Value} {a : Array Value} {post : Int64 → ow_St → Prop} (hr : va_Run p l e R s m args below meth c H locs cells slots 0 0 (F0 m pc ls st0) rest (va_Ql post (ow_B D ca ad) A a) A) (hS : va_S A s.heap H locs)
    (kk : ∀ (r : Int64) (st' : ow_St) (H1 : Heap) (locs1 : List Loc), post r st' → va_P D vwCl (ow_ws ad (ow_c ca ad st')) H1 → va_S A s.heap H1 locs1 → W p l e R s m args below meth c H1 locs1 cells slots Q (F0 m (pc + 3) ls (.long r :: rest))) : W p l e R s m args below meth c H locs cells slots Q (F0 m pc ls st0) :=
  va_calll hr hS (fun _ _ h => h) (fun _ h => h) (fun r u t H1 locs1 ht _ hp hB _ _ hS1 => kk r u H1 locs1 hp (by rw [← ht]; exact hB) hS1)
theorem og_cv {st0 : List Value} {a : Array Value} {post : ow_St → Prop} (hr : va_Run p l e R s m args below meth c H locs cells slots 0 0 (F0 m pc ls st0) rest (va_Qv post (ow_B D ca ad) A a) A) (hS : va_S A s.heap H locs)
    (kk : ∀ (st' : ow_St) (H1 : Heap) (locs1 : List Loc), post st' → va_P D vwCl (ow_ws ad (ow_c ca ad st')) H1 → va_S A s.heap H1 locs1 → W p l e R s m args below meth c H1 locs1 cells slots Q (F0 m (pc + 3) ls rest)) : W p l e R s m args below meth c H locs cells slots Q (F0 m pc ls st0) :=
  va_callv hr hS (fun _ _ h => h) (fun _ h => h) (fun u t H1 locs1 ht _ hp hB _ _ hS1 => kk u H1 locs1 hp (by rw [← ht]; exact hB) hS1)
theorem og_cq {st0 : List Value} {a : Array Value} {post : Option Nat → ow_St → Prop} (hr : va_Run p l e R s m args below meth c H locs cells slots 0 0 (F0 m pc ls st0) rest (va_Qq post (ow_B D ca ad) A a) A) (hS : va_S A s.heap H locs)
    (kk : ∀ (r : Option Nat) (st' : ow_St) (H1 : Heap) (locs1 : List Loc), post r st' → va_P D vwCl (ow_ws ad (ow_c ca ad st')) H1 → va_S A s.heap H1 locs1 → W p l e R s m args below meth c H1 locs1 cells slots Q (F0 m (pc + 3) ls (va_rf r :: rest))) : W p l e R s m args below meth c H locs cells slots Q (F0 m pc ls st0) :=
  va_callq hr hS (fun _ _ h => h) (fun _ h => h) (fun r u t H1 locs1 ht _ hp hB _ _ hS1 => kk r u H1 locs1 hp (by rw [← ht]; exact hB) hS1)
end OW
theorem ow_m1 {k : Nat} (h : k < 3) : (1, k) ∈ ow_ids := by rcases (show k = 0 ∨ k = 1 ∨ k = 2 by omega) with rfl | rfl | rfl <;> decide
theorem ow_m2 {k : Nat} (h : k < 3) : (2, k) ∈ ow_ids := by rcases (show k = 0 ∨ k = 1 ∨ k = 2 by omega) with rfl | rfl | rfl <;> decide
theorem ow_m3 {k : Nat} (h : k < 3) : (3, k) ∈ ow_ids := by rcases (show k = 0 ∨ k = 1 ∨ k = 2 by omega) with rfl | rfl | rfl <;> decide
theorem ow_m5 {k : Nat} (h : k < 10) : (5, k) ∈ ow_ids := by rcases (show k = 0 ∨ k = 1 ∨ k = 2 ∨ k = 3 ∨ k = 4 ∨ k = 5 ∨ k = 6 ∨ k = 7 ∨ k = 8 ∨ k = 9 by omega) with rfl | rfl | rfl | rfl | rfl | rfl | rfl | rfl | rfl | rfl <;> decide
theorem ow_m8 {k : Nat} (h : k < 8) : (8, k) ∈ ow_ids := by rcases (show k = 0 ∨ k = 1 ∨ k = 2 ∨ k = 3 ∨ k = 4 ∨ k = 5 ∨ k = 6 ∨ k = 7 by omega) with rfl | rfl | rfl | rfl | rfl | rfl | rfl | rfl <;> decide

section OW2
variable {p : Program} {l : Launch} {e : Env} {R : Room} {s : State} {m : MethodId} {args : Array Value} {below : List Frame} {meth : Method} {c : Code} {H : Heap} {locs : List Loc} {cells slots : Nat} {Q : State → Prop}
variable {cc : ByteArray} {pc : Nat} {ls : Array Slot} {rest st0 : List Value} {D : va_G} {A : Nat → Prop} {ca : Nat → ClassId} {ad : ow_Ad} {w w' : Nat → Nat → va_E} {H0 : Heap} {a : Array Value} {st : ow_St}
theorem og_aaldI (hx : p.tables.exec = Jvm.exec) (hb : c.code = cc) (hC : ow_C D ca ad A s) (hP : va_P D vwCl (ow_ws ad w) H) {g i n : Nat} (hid : (g, i) ∈ ow_ids) {f : Nat → Option Nat} (he : w g i = .inl (ca 4, n, .inr (.inr (.inr (.inr f))))) {x : Int32} (hin : vp_in x n) {v : Nat} (hv : f x.toNatClampNeg = some v) (hdg : decode cc pc = .ok (.aaload, 1))
    (kk : W p l e R s m args below meth c H locs cells slots Q (F0 m (pc + 1) ls (.ref v :: rest))) : W p l e R s m args below meth c H locs cells slots Q (F0 m pc ls (.int x :: .ref (ad g i) :: rest)) := by
  obtain ⟨q, -, hq⟩ := ow_get (ad := ad) (w := w) hid
  rw [he] at hq
  have hlt : x.toNatClampNeg < n := Nat.not_le.mp fun q => hin (Or.inr q)
  refine W.aald (v := va_rf (f x.toNatClampNeg)) (ty := .array .int) hx hb (hP q _ hq) ((hC.1.2 4 _ rfl).1 n (fun j => va_rf (f j))) rfl (fun q => by cases q) (by show ¬ (x < 0 ∨ (arrV _ _ _).slots.size ≤ _); rw [arrV_size]; exact hin) (by show (arrV _ _ _).slots[_]? = _; rw [arrV_read _ _ hlt]) rfl rfl hdg ?_
  rw [hv]
  exact kk
theorem og_ciP {F : Int32} (hr : va_Run p l e R s m args below meth c H locs cells slots 0 0 (F0 m pc ls st0) rest (va_Qi (fun r st' => r = F ∧ st' = st) (ow_B D ca ad) A a) A) (hS : va_S A s.heap H locs)
    (kk : ∀ (H1 : Heap) (locs1 : List Loc), va_P D vwCl (ow_ws ad (ow_c ca ad st)) H1 → va_S A s.heap H1 locs1 → W p l e R s m args below meth c H1 locs1 cells slots Q (F0 m (pc + 3) ls (.int F :: rest))) : W p l e R s m args below meth c H locs cells slots Q (F0 m pc ls st0) :=
  og_ci hr hS (fun r st' H1 l1 hp hP1 hS1 => by rw [hp.1]; rw [hp.2] at hP1; exact kk H1 l1 hP1 hS1)
theorem og_clP {F : Int64} (hr : va_Run p l e R s m args below meth c H locs cells slots 0 0 (F0 m pc ls st0) rest (va_Ql (fun r st' => r = F ∧ st' = st) (ow_B D ca ad) A a) A) (hS : va_S A s.heap H locs)
    (kk : ∀ (H1 : Heap) (locs1 : List Loc), va_P D vwCl (ow_ws ad (ow_c ca ad st)) H1 → va_S A s.heap H1 locs1 → W p l e R s m args below meth c H1 locs1 cells slots Q (F0 m (pc + 3) ls (.long F :: rest))) : W p l e R s m args below meth c H locs cells slots Q (F0 m pc ls st0) :=
  og_cl hr hS (fun r st' H1 l1 hp hP1 hS1 => by rw [hp.1]; rw [hp.2] at hP1; exact kk H1 l1 hP1 hS1)
theorem og_cqS {F : Option Nat} {q : Nat} (hr : va_Run p l e R s m args below meth c H locs cells slots 0 0 (F0 m pc ls st0) rest (va_Qq (fun r st' => r = F ∧ st' = st) (ow_B D ca ad) A a) A) (hS : va_S A s.heap H locs) (hF : F = some q)
    (kk : ∀ (H1 : Heap) (locs1 : List Loc), va_P D vwCl (ow_ws ad (ow_c ca ad st)) H1 → va_S A s.heap H1 locs1 → W p l e R s m args below meth c H1 locs1 cells slots Q (F0 m (pc + 3) ls (.ref q :: rest))) : W p l e R s m args below meth c H locs cells slots Q (F0 m pc ls st0) :=
  og_cq hr hS (fun r st' H1 l1 hp hP1 hS1 => by rw [hp.1, hF]; rw [hp.2] at hP1; exact kk H1 l1 hP1 hS1)
theorem og_cqN {F : Option Nat} (hr : va_Run p l e R s m args below meth c H locs cells slots 0 0 (F0 m pc ls st0) rest (va_Qq (fun r st' => r = F ∧ st' = st) (ow_B D ca ad) A a) A) (hS : va_S A s.heap H locs) (hF : F = none)
    (kk : ∀ (H1 : Heap) (locs1 : List Loc), va_P D vwCl (ow_ws ad (ow_c ca ad st)) H1 → va_S A s.heap H1 locs1 → W p l e R s m args below meth c H1 locs1 cells slots Q (F0 m (pc + 3) ls (.null :: rest))) : W p l e R s m args below meth c H locs cells slots Q (F0 m pc ls st0) :=
  og_cq hr hS (fun r st' H1 l1 hp hP1 hS1 => by rw [hp.1, hF]; rw [hp.2] at hP1; exact kk H1 l1 hP1 hS1)
theorem og_ciW {F : Int32 × ow_St} (hr : va_Run p l e R s m args below meth c H locs cells slots 0 0 (F0 m pc ls st0) rest (va_Qi (fun r st' => (r, st') = F) (ow_B D ca ad) A a) A) (hS : va_S A s.heap H locs)
    (kk : ∀ (H1 : Heap) (locs1 : List Loc), va_P D vwCl (ow_ws ad (ow_c ca ad F.2)) H1 → va_S A s.heap H1 locs1 → W p l e R s m args below meth c H1 locs1 cells slots Q (F0 m (pc + 3) ls (.int F.1 :: rest))) : W p l e R s m args below meth c H locs cells slots Q (F0 m pc ls st0) :=
  og_ci hr hS (fun r st' H1 l1 hp hP1 hS1 => by subst hp; exact kk H1 l1 hP1 hS1)
theorem og_clW {F : Int64 × ow_St} (hr : va_Run p l e R s m args below meth c H locs cells slots 0 0 (F0 m pc ls st0) rest (va_Ql (fun r st' => (r, st') = F) (ow_B D ca ad) A a) A) (hS : va_S A s.heap H locs)
    (kk : ∀ (H1 : Heap) (locs1 : List Loc), va_P D vwCl (ow_ws ad (ow_c ca ad F.2)) H1 → va_S A s.heap H1 locs1 → W p l e R s m args below meth c H1 locs1 cells slots Q (F0 m (pc + 3) ls (.long F.1 :: rest))) : W p l e R s m args below meth c H locs cells slots Q (F0 m pc ls st0) :=
  og_cl hr hS (fun r st' H1 l1 hp hP1 hS1 => by subst hp; exact kk H1 l1 hP1 hS1)
theorem og_cvW {F : ow_St} (hr : va_Run p l e R s m args below meth c H locs cells slots 0 0 (F0 m pc ls st0) rest (va_Qv (fun st' => st' = F) (ow_B D ca ad) A a) A) (hS : va_S A s.heap H locs)
    (kk : ∀ (H1 : Heap) (locs1 : List Loc), va_P D vwCl (ow_ws ad (ow_c ca ad F)) H1 → va_S A s.heap H1 locs1 → W p l e R s m args below meth c H1 locs1 cells slots Q (F0 m (pc + 3) ls rest)) : W p l e R s m args below meth c H locs cells slots Q (F0 m pc ls st0) :=
  og_cv hr hS (fun st' H1 l1 hp hP1 hS1 => by subst hp; exact kk H1 l1 hP1 hS1)
end OW2
theorem ow_si_e (st : ow_St) (c i : Nat) (v : Int32) : (ow_si st c i v).1 c i = v := if_pos ⟨rfl, rfl⟩
theorem ow_si_ne {st : ow_St} {c i : Nat} {v : Int32} {c' : Nat} (h : c' ≠ c) : (ow_si st c i v).1 c' = st.1 c' := by
  funext j
  exact if_neg (fun q => h q.1)
theorem ow_si_n2 {st : ow_St} {c i : Nat} {v : Int32} {c' i' : Nat} (h : ¬ (c' = c ∧ i' = i)) : (ow_si st c i v).1 c' i' = st.1 c' i' := if_neg h
theorem ow_si_u (st : ow_St) (c i : Nat) (v : Int32) : (ow_si st c i v).1 c = upd (st.1 c) i v := by
  funext j
  by_cases h : j = i
  · subst h
    simp [ow_si, upd]
  · simp [ow_si, upd, h]
theorem ow_si_l (st : ow_St) (c i : Nat) (v : Int32) : (ow_si st c i v).2.1 = st.2.1 := rfl
theorem ow_si_r (st : ow_St) (c i : Nat) (v : Int32) : (ow_si st c i v).2.2 = st.2.2 := rfl
theorem ow_sl_i (st : ow_St) (i : Nat) (v : Int64) : (ow_sl st i v).1 = st.1 := rfl
theorem ow_sl_r (st : ow_St) (i : Nat) (v : Int64) : (ow_sl st i v).2.2 = st.2.2 := rfl
theorem ow_sl_e (st : ow_St) (i : Nat) (v : Int64) : (ow_sl st i v).2.1 i = v := if_pos rfl
theorem ow_sl_n {st : ow_St} {i : Nat} {v : Int64} {j : Nat} (h : j ≠ i) : (ow_sl st i v).2.1 j = st.2.1 j := if_neg h
theorem ow_sr_i (st : ow_St) (i v : Nat) : (ow_sr st i v).1 = st.1 := rfl
theorem ow_sr_l (st : ow_St) (i v : Nat) : (ow_sr st i v).2.1 = st.2.1 := rfl
theorem ow_sr_e (st : ow_St) (i v : Nat) : (ow_sr st i v).2.2 i = v := if_pos rfl
theorem ow_sr_n {st : ow_St} {i v : Nat} {j : Nat} (h : j ≠ i) : (ow_sr st i v).2.2 j = st.2.2 j := if_neg h
theorem ow_up_at {w : Nat → Nat → va_E} {g i : Nat} {e : va_E} : ow_up w g i e g i = e := if_pos ⟨rfl, rfl⟩
theorem ow_up_no {w : Nat → Nat → va_E} {g i g' i' : Nat} {e : va_E} (h : ¬ (g' = g ∧ i' = i)) : ow_up w g i e g' i' = w g' i' := if_neg h
theorem ow_eqs {w w' : Nat → Nat → va_E} {g i : Nat} {e : va_E} (h1 : e = w' g i) (h2 : ∀ g' i', ¬ (g' = g ∧ i' = i) → w g' i' = w' g' i') : ow_up w g i e = w' := by
  funext g' i'
  by_cases h : g' = g ∧ i' = i
  · obtain ⟨rfl, rfl⟩ := h
    rw [ow_up_at, h1]
  · rw [ow_up_no h, h2 g' i' h]
theorem ow_ne {x : Int32} {n : Int} (c : Int32) (hc : c.toInt = n) (h : ¬ x = c) : x.toInt ≠ n := fun e => h (Int32.toInt_inj.mp (e.trans hc.symm))
theorem ow_b10 {x : Int32} (h1 : ¬ x < 0) (h2 : ¬ 10 ≤ x) : x.toNatClampNeg < 10 := by
  obtain ⟨j, hj, rfl⟩ := nI_of h1
  rw [nI_clamp hj]
  rcases Nat.lt_or_ge j 10 with h | h
  · exact h
  · exact absurd (nI_le (a := 10) h hj) h2
theorem ow_i10 {x : Int32} (h1 : ¬ x < 0) (h2 : ¬ 10 ≤ x) : vp_in x 10 := fun h => by
  have := ow_b10 h1 h2
  rcases h with h | h
  · exact h1 h
  · omega
theorem ow_mn (k : Nat) : mn k < 2 ^ 31 := by
  unfold mn
  split
  · decide
  · split <;> decide
theorem ow_lt {a b : Nat} (h : ¬ nI b ≤ nI a) (hab : a ≤ b) (hb : b < 2 ^ 31) : a < b := by
  rcases Nat.lt_or_ge a b with h1 | h1
  · exact h1
  · exact absurd (nI_le h1 (by omega)) h
theorem ow_in {x : Int32} {n : Nat} (hn : n < 2 ^ 31) (h1 : ¬ x < 0) (h2 : ¬ nI n ≤ x) : vp_in x n := by
  obtain ⟨j, hj, rfl⟩ := nI_of h1
  exact vp_in_nI (by
    rcases Nat.lt_or_ge j n with h | h
    · exact h
    · exact absurd (nI_le h hj) h2) hn

theorem ow_q0_0 : (0, 0) ∈ ow_ids := by decide
theorem ow_q1_0 : (1, 0) ∈ ow_ids := by decide
theorem ow_q1_1 : (1, 1) ∈ ow_ids := by decide
theorem ow_q1_2 : (1, 2) ∈ ow_ids := by decide
theorem ow_q2_0 : (2, 0) ∈ ow_ids := by decide
theorem ow_q2_1 : (2, 1) ∈ ow_ids := by decide
theorem ow_q2_2 : (2, 2) ∈ ow_ids := by decide
theorem ow_q3_0 : (3, 0) ∈ ow_ids := by decide
theorem ow_q3_1 : (3, 1) ∈ ow_ids := by decide
theorem ow_q3_2 : (3, 2) ∈ ow_ids := by decide
theorem ow_q4_0 : (4, 0) ∈ ow_ids := by decide
theorem ow_q5_0 : (5, 0) ∈ ow_ids := by decide
theorem ow_q5_1 : (5, 1) ∈ ow_ids := by decide
theorem ow_q5_2 : (5, 2) ∈ ow_ids := by decide
theorem ow_q5_3 : (5, 3) ∈ ow_ids := by decide
theorem ow_q5_4 : (5, 4) ∈ ow_ids := by decide
theorem ow_q5_5 : (5, 5) ∈ ow_ids := by decide
theorem ow_q5_6 : (5, 6) ∈ ow_ids := by decide
theorem ow_q5_7 : (5, 7) ∈ ow_ids := by decide
theorem ow_q5_8 : (5, 8) ∈ ow_ids := by decide
theorem ow_q5_9 : (5, 9) ∈ ow_ids := by decide
theorem ow_q6_0 : (6, 0) ∈ ow_ids := by decide
theorem ow_q6_1 : (6, 1) ∈ ow_ids := by decide
theorem ow_q7_0 : (7, 0) ∈ ow_ids := by decide
theorem ow_q7_1 : (7, 1) ∈ ow_ids := by decide
theorem ow_q8_0 : (8, 0) ∈ ow_ids := by decide
theorem ow_q8_1 : (8, 1) ∈ ow_ids := by decide
theorem ow_q8_2 : (8, 2) ∈ ow_ids := by decide
theorem ow_q8_3 : (8, 3) ∈ ow_ids := by decide
theorem ow_q8_4 : (8, 4) ∈ ow_ids := by decide
theorem ow_q8_5 : (8, 5) ∈ ow_ids := by decide
theorem ow_q8_6 : (8, 6) ∈ ow_ids := by decide
theorem ow_q8_7 : (8, 7) ∈ ow_ids := by decide
theorem ow_q9_0 : (9, 0) ∈ ow_ids := by decide
theorem ow_q9_1 : (9, 1) ∈ ow_ids := by decide
theorem ow_q9_2 : (9, 2) ∈ ow_ids := by decide
theorem ow_q10_0 : (10, 0) ∈ ow_ids := by decide
theorem ow_q11_0 : (11, 0) ∈ ow_ids := by decide
theorem ow_q11_1 : (11, 1) ∈ ow_ids := by decide
theorem ow_q11_2 : (11, 2) ∈ ow_ids := by decide
theorem ow_q11_3 : (11, 3) ∈ ow_ids := by decide
theorem ow_q11_4 : (11, 4) ∈ ow_ids := by decide
theorem ow_q11_5 : (11, 5) ∈ ow_ids := by decide
theorem ow_q11_6 : (11, 6) ∈ ow_ids := by decide
theorem ow_q11_7 : (11, 7) ∈ ow_ids := by decide
theorem ow_q11_8 : (11, 8) ∈ ow_ids := by decide
theorem ow_q11_9 : (11, 9) ∈ ow_ids := by decide
theorem ow_q11_10 : (11, 10) ∈ ow_ids := by decide
theorem ow_q11_11 : (11, 11) ∈ ow_ids := by decide
theorem ow_q11_12 : (11, 12) ∈ ow_ids := by decide
theorem we_0_0 {ca : Nat → ClassId} {ad : ow_Ad} (st : ow_St) (v : Int32) : ow_up (ow_c ca ad st) 0 0 (.inr (3, [.ref (ad 1 0), .ref (ad 1 1), .ref (ad 1 2), .ref (ad 4 0), .ref (ad 6 0), .ref (ad 6 1), .long (st.2.1 0), .int v, .int (st.1 0 1), .ref (ad 9 0), .ref (ad 9 1), va_rf (ow_pt ad (st.2.2 0)), .ref (ad 9 2), .int (st.1 0 2)])) = ow_c ca ad (ow_si st 0 0 v) := by
  refine ow_eqs ?_ (fun g' i' h => ?_)
  · simp (disch := omega) only [ow_c, ow_si_u, ow_si_ne, ow_si_n2, ow_si_e, ow_si_l, ow_si_r, ow_sl_i, ow_sl_r, ow_sl_e, ow_sl_n, ow_sr_i, ow_sr_l, ow_sr_e, ow_sr_n] <;> rfl
  · unfold ow_c
    split
    all_goals (try split)
    all_goals first | rfl | (simp (disch := omega) only [ow_si_ne, ow_si_n2, ow_si_e, ow_si_l, ow_si_r, ow_sl_i, ow_sl_r, ow_sl_e, ow_sl_n, ow_sr_i, ow_sr_l, ow_sr_e, ow_sr_n]; done) | (exfalso; omega)
theorem we_0_1 {ca : Nat → ClassId} {ad : ow_Ad} (st : ow_St) (v : Int32) : ow_up (ow_c ca ad st) 0 0 (.inr (3, [.ref (ad 1 0), .ref (ad 1 1), .ref (ad 1 2), .ref (ad 4 0), .ref (ad 6 0), .ref (ad 6 1), .long (st.2.1 0), .int (st.1 0 0), .int v, .ref (ad 9 0), .ref (ad 9 1), va_rf (ow_pt ad (st.2.2 0)), .ref (ad 9 2), .int (st.1 0 2)])) = ow_c ca ad (ow_si st 0 1 v) := by
  refine ow_eqs ?_ (fun g' i' h => ?_)
  · simp (disch := omega) only [ow_c, ow_si_u, ow_si_ne, ow_si_n2, ow_si_e, ow_si_l, ow_si_r, ow_sl_i, ow_sl_r, ow_sl_e, ow_sl_n, ow_sr_i, ow_sr_l, ow_sr_e, ow_sr_n] <;> rfl
  · unfold ow_c
    split
    all_goals (try split)
    all_goals first | rfl | (simp (disch := omega) only [ow_si_ne, ow_si_n2, ow_si_e, ow_si_l, ow_si_r, ow_sl_i, ow_sl_r, ow_sl_e, ow_sl_n, ow_sr_i, ow_sr_l, ow_sr_e, ow_sr_n]; done) | (exfalso; omega)
theorem we_0_2 {ca : Nat → ClassId} {ad : ow_Ad} (st : ow_St) (v : Int32) : ow_up (ow_c ca ad st) 0 0 (.inr (3, [.ref (ad 1 0), .ref (ad 1 1), .ref (ad 1 2), .ref (ad 4 0), .ref (ad 6 0), .ref (ad 6 1), .long (st.2.1 0), .int (st.1 0 0), .int (st.1 0 1), .ref (ad 9 0), .ref (ad 9 1), va_rf (ow_pt ad (st.2.2 0)), .ref (ad 9 2), .int v])) = ow_c ca ad (ow_si st 0 2 v) := by
  refine ow_eqs ?_ (fun g' i' h => ?_)
  · simp (disch := omega) only [ow_c, ow_si_u, ow_si_ne, ow_si_n2, ow_si_e, ow_si_l, ow_si_r, ow_sl_i, ow_sl_r, ow_sl_e, ow_sl_n, ow_sr_i, ow_sr_l, ow_sr_e, ow_sr_n] <;> rfl
  · unfold ow_c
    split
    all_goals (try split)
    all_goals first | rfl | (simp (disch := omega) only [ow_si_ne, ow_si_n2, ow_si_e, ow_si_l, ow_si_r, ow_sl_i, ow_sl_r, ow_sl_e, ow_sl_n, ow_sr_i, ow_sr_l, ow_sr_e, ow_sr_n]; done) | (exfalso; omega)
theorem we_0_l {ca : Nat → ClassId} {ad : ow_Ad} (st : ow_St) (v : Int64) : ow_up (ow_c ca ad st) 0 0 (.inr (3, [.ref (ad 1 0), .ref (ad 1 1), .ref (ad 1 2), .ref (ad 4 0), .ref (ad 6 0), .ref (ad 6 1), .long v, .int (st.1 0 0), .int (st.1 0 1), .ref (ad 9 0), .ref (ad 9 1), va_rf (ow_pt ad (st.2.2 0)), .ref (ad 9 2), .int (st.1 0 2)])) = ow_c ca ad (ow_sl st 0 v) := by
  refine ow_eqs ?_ (fun g' i' h => ?_)
  · simp (disch := omega) only [ow_c, ow_si_u, ow_si_ne, ow_si_n2, ow_si_e, ow_si_l, ow_si_r, ow_sl_i, ow_sl_r, ow_sl_e, ow_sl_n, ow_sr_i, ow_sr_l, ow_sr_e, ow_sr_n] <;> rfl
  · unfold ow_c
    split
    all_goals (try split)
    all_goals first | rfl | (simp (disch := omega) only [ow_si_ne, ow_si_n2, ow_si_e, ow_si_l, ow_si_r, ow_sl_i, ow_sl_r, ow_sl_e, ow_sl_n, ow_sr_i, ow_sr_l, ow_sr_e, ow_sr_n]; done) | (exfalso; omega)
theorem we_0_p {ca : Nat → ClassId} {ad : ow_Ad} (st : ow_St) (t : Nat) : ow_up (ow_c ca ad st) 0 0 (.inr (3, [.ref (ad 1 0), .ref (ad 1 1), .ref (ad 1 2), .ref (ad 4 0), .ref (ad 6 0), .ref (ad 6 1), .long (st.2.1 0), .int (st.1 0 0), .int (st.1 0 1), .ref (ad 9 0), .ref (ad 9 1), .ref (ad 6 t), .ref (ad 9 2), .int (st.1 0 2)])) = ow_c ca ad (ow_sr st 0 (t + 1)) := by
  refine ow_eqs ?_ (fun g' i' h => ?_)
  · simp (disch := omega) only [ow_c, ow_si_u, ow_si_ne, ow_si_n2, ow_si_e, ow_si_l, ow_si_r, ow_sl_i, ow_sl_r, ow_sl_e, ow_sl_n, ow_sr_i, ow_sr_l, ow_sr_e, ow_sr_n] <;> rfl
  · unfold ow_c
    split
    all_goals (try split)
    all_goals first | rfl | (simp (disch := omega) only [ow_si_ne, ow_si_n2, ow_si_e, ow_si_l, ow_si_r, ow_sl_i, ow_sl_r, ow_sl_e, ow_sl_n, ow_sr_i, ow_sr_l, ow_sr_e, ow_sr_n]; done) | (exfalso; omega)
theorem we_1_1 {ca : Nat → ClassId} {ad : ow_Ad} (st : ow_St) (k : Nat) (v : Int32) : ow_up (ow_c ca ad st) 1 k (.inr (0, [.int (nI k), .ref (ad 12 k), .int (nI (mn k)), .ref (ad 2 k), .ref (ad 3 k), .int v, .int (st.1 2 k)])) = ow_c ca ad (ow_si st 1 k v) := by
  refine ow_eqs ?_ (fun g' i' h => ?_)
  · simp (disch := omega) only [ow_c, ow_si_u, ow_si_ne, ow_si_n2, ow_si_e, ow_si_l, ow_si_r, ow_sl_i, ow_sl_r, ow_sl_e, ow_sl_n, ow_sr_i, ow_sr_l, ow_sr_e, ow_sr_n] <;> rfl
  · unfold ow_c
    split
    all_goals (try split)
    all_goals first | rfl | (simp (disch := omega) only [ow_si_ne, ow_si_n2, ow_si_e, ow_si_l, ow_si_r, ow_sl_i, ow_sl_r, ow_sl_e, ow_sl_n, ow_sr_i, ow_sr_l, ow_sr_e, ow_sr_n]; done) | (exfalso; omega)
theorem we_1_2 {ca : Nat → ClassId} {ad : ow_Ad} (st : ow_St) (k : Nat) (v : Int32) : ow_up (ow_c ca ad st) 1 k (.inr (0, [.int (nI k), .ref (ad 12 k), .int (nI (mn k)), .ref (ad 2 k), .ref (ad 3 k), .int (st.1 1 k), .int v])) = ow_c ca ad (ow_si st 2 k v) := by
  refine ow_eqs ?_ (fun g' i' h => ?_)
  · simp (disch := omega) only [ow_c, ow_si_u, ow_si_ne, ow_si_n2, ow_si_e, ow_si_l, ow_si_r, ow_sl_i, ow_sl_r, ow_sl_e, ow_sl_n, ow_sr_i, ow_sr_l, ow_sr_e, ow_sr_n] <;> rfl
  · unfold ow_c
    split
    all_goals (try split)
    all_goals first | rfl | (simp (disch := omega) only [ow_si_ne, ow_si_n2, ow_si_e, ow_si_l, ow_si_r, ow_sl_i, ow_sl_r, ow_sl_e, ow_sl_n, ow_sr_i, ow_sr_l, ow_sr_e, ow_sr_n]; done) | (exfalso; omega)
theorem we_5_k {ca : Nat → ClassId} {ad : ow_Ad} (st : ow_St) (k q : Nat) : ow_up (ow_c ca ad st) 5 k (.inr (1, [.ref (ad 1 q), .int (st.1 3 k)])) = ow_c ca ad (ow_sr st (k + 1) q) := by
  refine ow_eqs ?_ (fun g' i' h => ?_)
  · simp (disch := omega) only [ow_c, ow_si_u, ow_si_ne, ow_si_n2, ow_si_e, ow_si_l, ow_si_r, ow_sl_i, ow_sl_r, ow_sl_e, ow_sl_n, ow_sr_i, ow_sr_l, ow_sr_e, ow_sr_n] <;> rfl
  · unfold ow_c
    split
    all_goals (try split)
    all_goals first | rfl | (simp (disch := omega) only [ow_si_ne, ow_si_n2, ow_si_e, ow_si_l, ow_si_r, ow_sl_i, ow_sl_r, ow_sl_e, ow_sl_n, ow_sr_i, ow_sr_l, ow_sr_e, ow_sr_n]; done) | (exfalso; omega)
theorem we_5_m {ca : Nat → ClassId} {ad : ow_Ad} (st : ow_St) (k : Nat) (v : Int32) : ow_up (ow_c ca ad st) 5 k (.inr (1, [.ref (ad 1 (st.2.2 (k + 1))), .int v])) = ow_c ca ad (ow_si st 3 k v) := by
  refine ow_eqs ?_ (fun g' i' h => ?_)
  · simp (disch := omega) only [ow_c, ow_si_u, ow_si_ne, ow_si_n2, ow_si_e, ow_si_l, ow_si_r, ow_sl_i, ow_sl_r, ow_sl_e, ow_sl_n, ow_sr_i, ow_sr_l, ow_sr_e, ow_sr_n] <;> rfl
  · unfold ow_c
    split
    all_goals (try split)
    all_goals first | rfl | (simp (disch := omega) only [ow_si_ne, ow_si_n2, ow_si_e, ow_si_l, ow_si_r, ow_sl_i, ow_sl_r, ow_sl_e, ow_sl_n, ow_sr_i, ow_sr_l, ow_sr_e, ow_sr_n]; done) | (exfalso; omega)
theorem we_6 {ca : Nat → ClassId} {ad : ow_Ad} (st : ow_St) (k : Nat) (v : Int32) : ow_up (ow_c ca ad st) 6 k (.inr (2, [.ref (ad 1 k), .int (nI (3 + k)), .int (nI (1 + 2 * k)), .ref (ad 7 k), .int v])) = ow_c ca ad (ow_si st 4 k v) := by
  refine ow_eqs ?_ (fun g' i' h => ?_)
  · simp (disch := omega) only [ow_c, ow_si_u, ow_si_ne, ow_si_n2, ow_si_e, ow_si_l, ow_si_r, ow_sl_i, ow_sl_r, ow_sl_e, ow_sl_n, ow_sr_i, ow_sr_l, ow_sr_e, ow_sr_n] <;> rfl
  · unfold ow_c
    split
    all_goals (try split)
    all_goals first | rfl | (simp (disch := omega) only [ow_si_ne, ow_si_n2, ow_si_e, ow_si_l, ow_si_r, ow_sl_i, ow_sl_r, ow_sl_e, ow_sl_n, ow_sr_i, ow_sr_l, ow_sr_e, ow_sr_n]; done) | (exfalso; omega)
theorem we_2 {ca : Nat → ClassId} {ad : ow_Ad} (st : ow_St) (k j : Nat) (v : Int32) : ow_up (ow_c ca ad st) 2 k (.inl (ca 0, mn k, .inl (upd (st.1 (100 + 4 * k)) j v))) = ow_c ca ad (ow_si st (100 + 4 * k) j v) := by
  refine ow_eqs ?_ (fun g' i' h => ?_)
  · simp (disch := omega) only [ow_c, ow_si_u, ow_si_ne, ow_si_n2, ow_si_e, ow_si_l, ow_si_r, ow_sl_i, ow_sl_r, ow_sl_e, ow_sl_n, ow_sr_i, ow_sr_l, ow_sr_e, ow_sr_n] <;> rfl
  · unfold ow_c
    split
    all_goals (try split)
    all_goals first | rfl | (simp (disch := omega) only [ow_si_ne, ow_si_n2, ow_si_e, ow_si_l, ow_si_r, ow_sl_i, ow_sl_r, ow_sl_e, ow_sl_n, ow_sr_i, ow_sr_l, ow_sr_e, ow_sr_n]; done) | (exfalso; omega)
theorem we_3 {ca : Nat → ClassId} {ad : ow_Ad} (st : ow_St) (k j : Nat) (v : Int32) : ow_up (ow_c ca ad st) 3 k (.inl (ca 0, mn k, .inl (upd (st.1 (101 + 4 * k)) j v))) = ow_c ca ad (ow_si st (101 + 4 * k) j v) := by
  refine ow_eqs ?_ (fun g' i' h => ?_)
  · simp (disch := omega) only [ow_c, ow_si_u, ow_si_ne, ow_si_n2, ow_si_e, ow_si_l, ow_si_r, ow_sl_i, ow_sl_r, ow_sl_e, ow_sl_n, ow_sr_i, ow_sr_l, ow_sr_e, ow_sr_n] <;> rfl
  · unfold ow_c
    split
    all_goals (try split)
    all_goals first | rfl | (simp (disch := omega) only [ow_si_ne, ow_si_n2, ow_si_e, ow_si_l, ow_si_r, ow_sl_i, ow_sl_r, ow_sl_e, ow_sl_n, ow_sr_i, ow_sr_l, ow_sr_e, ow_sr_n]; done) | (exfalso; omega)
theorem we_8 {ca : Nat → ClassId} {ad : ow_Ad} (st : ow_St) (k j : Nat) (v : Int32) : ow_up (ow_c ca ad st) 8 k (.inl (ca 0, 30, .inl (upd (st.1 (102 + 4 * k)) j v))) = ow_c ca ad (ow_si st (102 + 4 * k) j v) := by
  refine ow_eqs ?_ (fun g' i' h => ?_)
  · simp (disch := omega) only [ow_c, ow_si_u, ow_si_ne, ow_si_n2, ow_si_e, ow_si_l, ow_si_r, ow_sl_i, ow_sl_r, ow_sl_e, ow_sl_n, ow_sr_i, ow_sr_l, ow_sr_e, ow_sr_n] <;> rfl
  · unfold ow_c
    split
    all_goals (try split)
    all_goals first | rfl | (simp (disch := omega) only [ow_si_ne, ow_si_n2, ow_si_e, ow_si_l, ow_si_r, ow_sl_i, ow_sl_r, ow_sl_e, ow_sl_n, ow_sr_i, ow_sr_l, ow_sr_e, ow_sr_n]; done) | (exfalso; omega)
theorem we_9_0 {ca : Nat → ClassId} {ad : ow_Ad} (st : ow_St) (j : Nat) (v : Int32) : ow_up (ow_c ca ad st) 9 0 (.inl (ca 0, 4, .inl (upd (st.1 103) j v))) = ow_c ca ad (ow_si st 103 j v) := by
  refine ow_eqs ?_ (fun g' i' h => ?_)
  · simp (disch := omega) only [ow_c, ow_si_u, ow_si_ne, ow_si_n2, ow_si_e, ow_si_l, ow_si_r, ow_sl_i, ow_sl_r, ow_sl_e, ow_sl_n, ow_sr_i, ow_sr_l, ow_sr_e, ow_sr_n] <;> rfl
  · unfold ow_c
    split
    all_goals (try split)
    all_goals first | rfl | (simp (disch := omega) only [ow_si_ne, ow_si_n2, ow_si_e, ow_si_l, ow_si_r, ow_sl_i, ow_sl_r, ow_sl_e, ow_sl_n, ow_sr_i, ow_sr_l, ow_sr_e, ow_sr_n]; done) | (exfalso; omega)
theorem we_9_1 {ca : Nat → ClassId} {ad : ow_Ad} (st : ow_St) (j : Nat) (v : Int32) : ow_up (ow_c ca ad st) 9 1 (.inl (ca 0, 4, .inl (upd (st.1 107) j v))) = ow_c ca ad (ow_si st 107 j v) := by
  refine ow_eqs ?_ (fun g' i' h => ?_)
  · simp (disch := omega) only [ow_c, ow_si_u, ow_si_ne, ow_si_n2, ow_si_e, ow_si_l, ow_si_r, ow_sl_i, ow_sl_r, ow_sl_e, ow_sl_n, ow_sr_i, ow_sr_l, ow_sr_e, ow_sr_n] <;> rfl
  · unfold ow_c
    split
    all_goals (try split)
    all_goals first | rfl | (simp (disch := omega) only [ow_si_ne, ow_si_n2, ow_si_e, ow_si_l, ow_si_r, ow_sl_i, ow_sl_r, ow_sl_e, ow_sl_n, ow_sr_i, ow_sr_l, ow_sr_e, ow_sr_n]; done) | (exfalso; omega)
theorem we_9_2 {ca : Nat → ClassId} {ad : ow_Ad} (st : ow_St) (j : Nat) (v : Int32) : ow_up (ow_c ca ad st) 9 2 (.inl (ca 0, 30, .inl (upd (st.1 111) j v))) = ow_c ca ad (ow_si st 111 j v) := by
  refine ow_eqs ?_ (fun g' i' h => ?_)
  · simp (disch := omega) only [ow_c, ow_si_u, ow_si_ne, ow_si_n2, ow_si_e, ow_si_l, ow_si_r, ow_sl_i, ow_sl_r, ow_sl_e, ow_sl_n, ow_sr_i, ow_sr_l, ow_sr_e, ow_sr_n] <;> rfl
  · unfold ow_c
    split
    all_goals (try split)
    all_goals first | rfl | (simp (disch := omega) only [ow_si_ne, ow_si_n2, ow_si_e, ow_si_l, ow_si_r, ow_sl_i, ow_sl_r, ow_sl_e, ow_sl_n, ow_sr_i, ow_sr_l, ow_sr_e, ow_sr_n]; done) | (exfalso; omega)
theorem we_10_0 {ca : Nat → ClassId} {ad : ow_Ad} (st : ow_St) (v : Int32) : ow_up (ow_c ca ad st) 10 0 (.inr (4, [.ref (ad 11 0), .ref (ad 11 1), .ref (ad 11 2), .ref (ad 11 3), .ref (ad 11 4), .ref (ad 11 5), .long (st.2.1 1), .int v, .int (st.1 61 1), .ref (ad 11 6), .ref (ad 11 7), .ref (ad 11 8), .ref (ad 11 9), .int (st.1 61 2), .ref (ad 11 10), .int (st.1 61 3), .ref (ad 11 11), .long (st.2.1 2), .ref (ad 11 12)])) = ow_c ca ad (ow_si st 61 0 v) := by
  refine ow_eqs ?_ (fun g' i' h => ?_)
  · simp (disch := omega) only [ow_c, ow_si_u, ow_si_ne, ow_si_n2, ow_si_e, ow_si_l, ow_si_r, ow_sl_i, ow_sl_r, ow_sl_e, ow_sl_n, ow_sr_i, ow_sr_l, ow_sr_e, ow_sr_n] <;> rfl
  · unfold ow_c
    split
    all_goals (try split)
    all_goals first | rfl | (simp (disch := omega) only [ow_si_ne, ow_si_n2, ow_si_e, ow_si_l, ow_si_r, ow_sl_i, ow_sl_r, ow_sl_e, ow_sl_n, ow_sr_i, ow_sr_l, ow_sr_e, ow_sr_n]; done) | (exfalso; omega)
theorem we_10_1 {ca : Nat → ClassId} {ad : ow_Ad} (st : ow_St) (v : Int32) : ow_up (ow_c ca ad st) 10 0 (.inr (4, [.ref (ad 11 0), .ref (ad 11 1), .ref (ad 11 2), .ref (ad 11 3), .ref (ad 11 4), .ref (ad 11 5), .long (st.2.1 1), .int (st.1 61 0), .int v, .ref (ad 11 6), .ref (ad 11 7), .ref (ad 11 8), .ref (ad 11 9), .int (st.1 61 2), .ref (ad 11 10), .int (st.1 61 3), .ref (ad 11 11), .long (st.2.1 2), .ref (ad 11 12)])) = ow_c ca ad (ow_si st 61 1 v) := by
  refine ow_eqs ?_ (fun g' i' h => ?_)
  · simp (disch := omega) only [ow_c, ow_si_u, ow_si_ne, ow_si_n2, ow_si_e, ow_si_l, ow_si_r, ow_sl_i, ow_sl_r, ow_sl_e, ow_sl_n, ow_sr_i, ow_sr_l, ow_sr_e, ow_sr_n] <;> rfl
  · unfold ow_c
    split
    all_goals (try split)
    all_goals first | rfl | (simp (disch := omega) only [ow_si_ne, ow_si_n2, ow_si_e, ow_si_l, ow_si_r, ow_sl_i, ow_sl_r, ow_sl_e, ow_sl_n, ow_sr_i, ow_sr_l, ow_sr_e, ow_sr_n]; done) | (exfalso; omega)
theorem we_10_2 {ca : Nat → ClassId} {ad : ow_Ad} (st : ow_St) (v : Int32) : ow_up (ow_c ca ad st) 10 0 (.inr (4, [.ref (ad 11 0), .ref (ad 11 1), .ref (ad 11 2), .ref (ad 11 3), .ref (ad 11 4), .ref (ad 11 5), .long (st.2.1 1), .int (st.1 61 0), .int (st.1 61 1), .ref (ad 11 6), .ref (ad 11 7), .ref (ad 11 8), .ref (ad 11 9), .int v, .ref (ad 11 10), .int (st.1 61 3), .ref (ad 11 11), .long (st.2.1 2), .ref (ad 11 12)])) = ow_c ca ad (ow_si st 61 2 v) := by
  refine ow_eqs ?_ (fun g' i' h => ?_)
  · simp (disch := omega) only [ow_c, ow_si_u, ow_si_ne, ow_si_n2, ow_si_e, ow_si_l, ow_si_r, ow_sl_i, ow_sl_r, ow_sl_e, ow_sl_n, ow_sr_i, ow_sr_l, ow_sr_e, ow_sr_n] <;> rfl
  · unfold ow_c
    split
    all_goals (try split)
    all_goals first | rfl | (simp (disch := omega) only [ow_si_ne, ow_si_n2, ow_si_e, ow_si_l, ow_si_r, ow_sl_i, ow_sl_r, ow_sl_e, ow_sl_n, ow_sr_i, ow_sr_l, ow_sr_e, ow_sr_n]; done) | (exfalso; omega)
theorem we_10_3 {ca : Nat → ClassId} {ad : ow_Ad} (st : ow_St) (v : Int32) : ow_up (ow_c ca ad st) 10 0 (.inr (4, [.ref (ad 11 0), .ref (ad 11 1), .ref (ad 11 2), .ref (ad 11 3), .ref (ad 11 4), .ref (ad 11 5), .long (st.2.1 1), .int (st.1 61 0), .int (st.1 61 1), .ref (ad 11 6), .ref (ad 11 7), .ref (ad 11 8), .ref (ad 11 9), .int (st.1 61 2), .ref (ad 11 10), .int v, .ref (ad 11 11), .long (st.2.1 2), .ref (ad 11 12)])) = ow_c ca ad (ow_si st 61 3 v) := by
  refine ow_eqs ?_ (fun g' i' h => ?_)
  · simp (disch := omega) only [ow_c, ow_si_u, ow_si_ne, ow_si_n2, ow_si_e, ow_si_l, ow_si_r, ow_sl_i, ow_sl_r, ow_sl_e, ow_sl_n, ow_sr_i, ow_sr_l, ow_sr_e, ow_sr_n] <;> rfl
  · unfold ow_c
    split
    all_goals (try split)
    all_goals first | rfl | (simp (disch := omega) only [ow_si_ne, ow_si_n2, ow_si_e, ow_si_l, ow_si_r, ow_sl_i, ow_sl_r, ow_sl_e, ow_sl_n, ow_sr_i, ow_sr_l, ow_sr_e, ow_sr_n]; done) | (exfalso; omega)
theorem we_10_l1 {ca : Nat → ClassId} {ad : ow_Ad} (st : ow_St) (v : Int64) : ow_up (ow_c ca ad st) 10 0 (.inr (4, [.ref (ad 11 0), .ref (ad 11 1), .ref (ad 11 2), .ref (ad 11 3), .ref (ad 11 4), .ref (ad 11 5), .long v, .int (st.1 61 0), .int (st.1 61 1), .ref (ad 11 6), .ref (ad 11 7), .ref (ad 11 8), .ref (ad 11 9), .int (st.1 61 2), .ref (ad 11 10), .int (st.1 61 3), .ref (ad 11 11), .long (st.2.1 2), .ref (ad 11 12)])) = ow_c ca ad (ow_sl st 1 v) := by
  refine ow_eqs ?_ (fun g' i' h => ?_)
  · simp (disch := omega) only [ow_c, ow_si_u, ow_si_ne, ow_si_n2, ow_si_e, ow_si_l, ow_si_r, ow_sl_i, ow_sl_r, ow_sl_e, ow_sl_n, ow_sr_i, ow_sr_l, ow_sr_e, ow_sr_n] <;> rfl
  · unfold ow_c
    split
    all_goals (try split)
    all_goals first | rfl | (simp (disch := omega) only [ow_si_ne, ow_si_n2, ow_si_e, ow_si_l, ow_si_r, ow_sl_i, ow_sl_r, ow_sl_e, ow_sl_n, ow_sr_i, ow_sr_l, ow_sr_e, ow_sr_n]; done) | (exfalso; omega)
theorem we_10_l2 {ca : Nat → ClassId} {ad : ow_Ad} (st : ow_St) (v : Int64) : ow_up (ow_c ca ad st) 10 0 (.inr (4, [.ref (ad 11 0), .ref (ad 11 1), .ref (ad 11 2), .ref (ad 11 3), .ref (ad 11 4), .ref (ad 11 5), .long (st.2.1 1), .int (st.1 61 0), .int (st.1 61 1), .ref (ad 11 6), .ref (ad 11 7), .ref (ad 11 8), .ref (ad 11 9), .int (st.1 61 2), .ref (ad 11 10), .int (st.1 61 3), .ref (ad 11 11), .long v, .ref (ad 11 12)])) = ow_c ca ad (ow_sl st 2 v) := by
  refine ow_eqs ?_ (fun g' i' h => ?_)
  · simp (disch := omega) only [ow_c, ow_si_u, ow_si_ne, ow_si_n2, ow_si_e, ow_si_l, ow_si_r, ow_sl_i, ow_sl_r, ow_sl_e, ow_sl_n, ow_sr_i, ow_sr_l, ow_sr_e, ow_sr_n] <;> rfl
  · unfold ow_c
    split
    all_goals (try split)
    all_goals first | rfl | (simp (disch := omega) only [ow_si_ne, ow_si_n2, ow_si_e, ow_si_l, ow_si_r, ow_sl_i, ow_sl_r, ow_sl_e, ow_sl_n, ow_sr_i, ow_sr_l, ow_sr_e, ow_sr_n]; done) | (exfalso; omega)
theorem we_11_2 {ca : Nat → ClassId} {ad : ow_Ad} (st : ow_St) (j : Nat) (v : Int32) : ow_up (ow_c ca ad st) 11 2 (.inl (ca 0, 78, .inl (upd (st.1 50) j v))) = ow_c ca ad (ow_si st 50 j v) := by
  refine ow_eqs ?_ (fun g' i' h => ?_)
  · simp (disch := omega) only [ow_c, ow_si_u, ow_si_ne, ow_si_n2, ow_si_e, ow_si_l, ow_si_r, ow_sl_i, ow_sl_r, ow_sl_e, ow_sl_n, ow_sr_i, ow_sr_l, ow_sr_e, ow_sr_n] <;> rfl
  · unfold ow_c
    split
    all_goals (try split)
    all_goals first | rfl | (simp (disch := omega) only [ow_si_ne, ow_si_n2, ow_si_e, ow_si_l, ow_si_r, ow_sl_i, ow_sl_r, ow_sl_e, ow_sl_n, ow_sr_i, ow_sr_l, ow_sr_e, ow_sr_n]; done) | (exfalso; omega)
theorem we_11_3 {ca : Nat → ClassId} {ad : ow_Ad} (st : ow_St) (j : Nat) (v : Int32) : ow_up (ow_c ca ad st) 11 3 (.inl (ca 0, 78, .inl (upd (st.1 51) j v))) = ow_c ca ad (ow_si st 51 j v) := by
  refine ow_eqs ?_ (fun g' i' h => ?_)
  · simp (disch := omega) only [ow_c, ow_si_u, ow_si_ne, ow_si_n2, ow_si_e, ow_si_l, ow_si_r, ow_sl_i, ow_sl_r, ow_sl_e, ow_sl_n, ow_sr_i, ow_sr_l, ow_sr_e, ow_sr_n] <;> rfl
  · unfold ow_c
    split
    all_goals (try split)
    all_goals first | rfl | (simp (disch := omega) only [ow_si_ne, ow_si_n2, ow_si_e, ow_si_l, ow_si_r, ow_sl_i, ow_sl_r, ow_sl_e, ow_sl_n, ow_sr_i, ow_sr_l, ow_sr_e, ow_sr_n]; done) | (exfalso; omega)
theorem we_11_4 {ca : Nat → ClassId} {ad : ow_Ad} (st : ow_St) (j : Nat) (v : Int32) : ow_up (ow_c ca ad st) 11 4 (.inl (ca 0, 3, .inl (upd (st.1 52) j v))) = ow_c ca ad (ow_si st 52 j v) := by
  refine ow_eqs ?_ (fun g' i' h => ?_)
  · simp (disch := omega) only [ow_c, ow_si_u, ow_si_ne, ow_si_n2, ow_si_e, ow_si_l, ow_si_r, ow_sl_i, ow_sl_r, ow_sl_e, ow_sl_n, ow_sr_i, ow_sr_l, ow_sr_e, ow_sr_n] <;> rfl
  · unfold ow_c
    split
    all_goals (try split)
    all_goals first | rfl | (simp (disch := omega) only [ow_si_ne, ow_si_n2, ow_si_e, ow_si_l, ow_si_r, ow_sl_i, ow_sl_r, ow_sl_e, ow_sl_n, ow_sr_i, ow_sr_l, ow_sr_e, ow_sr_n]; done) | (exfalso; omega)
theorem we_11_5 {ca : Nat → ClassId} {ad : ow_Ad} (st : ow_St) (j : Nat) (v : Int32) : ow_up (ow_c ca ad st) 11 5 (.inl (ca 2, 3, .inl (upd (st.1 53) j v))) = ow_c ca ad (ow_si st 53 j v) := by
  refine ow_eqs ?_ (fun g' i' h => ?_)
  · simp (disch := omega) only [ow_c, ow_si_u, ow_si_ne, ow_si_n2, ow_si_e, ow_si_l, ow_si_r, ow_sl_i, ow_sl_r, ow_sl_e, ow_sl_n, ow_sr_i, ow_sr_l, ow_sr_e, ow_sr_n] <;> rfl
  · unfold ow_c
    split
    all_goals (try split)
    all_goals first | rfl | (simp (disch := omega) only [ow_si_ne, ow_si_n2, ow_si_e, ow_si_l, ow_si_r, ow_sl_i, ow_sl_r, ow_sl_e, ow_sl_n, ow_sr_i, ow_sr_l, ow_sr_e, ow_sr_n]; done) | (exfalso; omega)
theorem we_11_6 {ca : Nat → ClassId} {ad : ow_Ad} (st : ow_St) (j : Nat) (v : Int32) : ow_up (ow_c ca ad st) 11 6 (.inl (ca 0, 10, .inl (upd (st.1 54) j v))) = ow_c ca ad (ow_si st 54 j v) := by
  refine ow_eqs ?_ (fun g' i' h => ?_)
  · simp (disch := omega) only [ow_c, ow_si_u, ow_si_ne, ow_si_n2, ow_si_e, ow_si_l, ow_si_r, ow_sl_i, ow_sl_r, ow_sl_e, ow_sl_n, ow_sr_i, ow_sr_l, ow_sr_e, ow_sr_n] <;> rfl
  · unfold ow_c
    split
    all_goals (try split)
    all_goals first | rfl | (simp (disch := omega) only [ow_si_ne, ow_si_n2, ow_si_e, ow_si_l, ow_si_r, ow_sl_i, ow_sl_r, ow_sl_e, ow_sl_n, ow_sr_i, ow_sr_l, ow_sr_e, ow_sr_n]; done) | (exfalso; omega)
theorem we_11_7 {ca : Nat → ClassId} {ad : ow_Ad} (st : ow_St) (j : Nat) (v : Int32) : ow_up (ow_c ca ad st) 11 7 (.inl (ca 0, 10, .inl (upd (st.1 55) j v))) = ow_c ca ad (ow_si st 55 j v) := by
  refine ow_eqs ?_ (fun g' i' h => ?_)
  · simp (disch := omega) only [ow_c, ow_si_u, ow_si_ne, ow_si_n2, ow_si_e, ow_si_l, ow_si_r, ow_sl_i, ow_sl_r, ow_sl_e, ow_sl_n, ow_sr_i, ow_sr_l, ow_sr_e, ow_sr_n] <;> rfl
  · unfold ow_c
    split
    all_goals (try split)
    all_goals first | rfl | (simp (disch := omega) only [ow_si_ne, ow_si_n2, ow_si_e, ow_si_l, ow_si_r, ow_sl_i, ow_sl_r, ow_sl_e, ow_sl_n, ow_sr_i, ow_sr_l, ow_sr_e, ow_sr_n]; done) | (exfalso; omega)
theorem we_11_8 {ca : Nat → ClassId} {ad : ow_Ad} (st : ow_St) (j : Nat) (v : Int32) : ow_up (ow_c ca ad st) 11 8 (.inl (ca 0, 2, .inl (upd (st.1 56) j v))) = ow_c ca ad (ow_si st 56 j v) := by
  refine ow_eqs ?_ (fun g' i' h => ?_)
  · simp (disch := omega) only [ow_c, ow_si_u, ow_si_ne, ow_si_n2, ow_si_e, ow_si_l, ow_si_r, ow_sl_i, ow_sl_r, ow_sl_e, ow_sl_n, ow_sr_i, ow_sr_l, ow_sr_e, ow_sr_n] <;> rfl
  · unfold ow_c
    split
    all_goals (try split)
    all_goals first | rfl | (simp (disch := omega) only [ow_si_ne, ow_si_n2, ow_si_e, ow_si_l, ow_si_r, ow_sl_i, ow_sl_r, ow_sl_e, ow_sl_n, ow_sr_i, ow_sr_l, ow_sr_e, ow_sr_n]; done) | (exfalso; omega)
theorem we_11_9 {ca : Nat → ClassId} {ad : ow_Ad} (st : ow_St) (j : Nat) (v : Int32) : ow_up (ow_c ca ad st) 11 9 (.inl (ca 0, 240, .inl (upd (st.1 57) j v))) = ow_c ca ad (ow_si st 57 j v) := by
  refine ow_eqs ?_ (fun g' i' h => ?_)
  · simp (disch := omega) only [ow_c, ow_si_u, ow_si_ne, ow_si_n2, ow_si_e, ow_si_l, ow_si_r, ow_sl_i, ow_sl_r, ow_sl_e, ow_sl_n, ow_sr_i, ow_sr_l, ow_sr_e, ow_sr_n] <;> rfl
  · unfold ow_c
    split
    all_goals (try split)
    all_goals first | rfl | (simp (disch := omega) only [ow_si_ne, ow_si_n2, ow_si_e, ow_si_l, ow_si_r, ow_sl_i, ow_sl_r, ow_sl_e, ow_sl_n, ow_sr_i, ow_sr_l, ow_sr_e, ow_sr_n]; done) | (exfalso; omega)
theorem we_11_10 {ca : Nat → ClassId} {ad : ow_Ad} (st : ow_St) (j : Nat) (v : Int32) : ow_up (ow_c ca ad st) 11 10 (.inl (ca 0, 4, .inl (upd (st.1 58) j v))) = ow_c ca ad (ow_si st 58 j v) := by
  refine ow_eqs ?_ (fun g' i' h => ?_)
  · simp (disch := omega) only [ow_c, ow_si_u, ow_si_ne, ow_si_n2, ow_si_e, ow_si_l, ow_si_r, ow_sl_i, ow_sl_r, ow_sl_e, ow_sl_n, ow_sr_i, ow_sr_l, ow_sr_e, ow_sr_n] <;> rfl
  · unfold ow_c
    split
    all_goals (try split)
    all_goals first | rfl | (simp (disch := omega) only [ow_si_ne, ow_si_n2, ow_si_e, ow_si_l, ow_si_r, ow_sl_i, ow_sl_r, ow_sl_e, ow_sl_n, ow_sr_i, ow_sr_l, ow_sr_e, ow_sr_n]; done) | (exfalso; omega)
theorem we_11_11 {ca : Nat → ClassId} {ad : ow_Ad} (st : ow_St) (j : Nat) (v : Int32) : ow_up (ow_c ca ad st) 11 11 (.inl (ca 0, 30, .inl (upd (st.1 59) j v))) = ow_c ca ad (ow_si st 59 j v) := by
  refine ow_eqs ?_ (fun g' i' h => ?_)
  · simp (disch := omega) only [ow_c, ow_si_u, ow_si_ne, ow_si_n2, ow_si_e, ow_si_l, ow_si_r, ow_sl_i, ow_sl_r, ow_sl_e, ow_sl_n, ow_sr_i, ow_sr_l, ow_sr_e, ow_sr_n] <;> rfl
  · unfold ow_c
    split
    all_goals (try split)
    all_goals first | rfl | (simp (disch := omega) only [ow_si_ne, ow_si_n2, ow_si_e, ow_si_l, ow_si_r, ow_sl_i, ow_sl_r, ow_sl_e, ow_sl_n, ow_sr_i, ow_sr_l, ow_sr_e, ow_sr_n]; done) | (exfalso; omega)
theorem we_11_12 {ca : Nat → ClassId} {ad : ow_Ad} (st : ow_St) (j : Nat) (v : Int32) : ow_up (ow_c ca ad st) 11 12 (.inl (ca 0, 4, .inl (upd (st.1 60) j v))) = ow_c ca ad (ow_si st 60 j v) := by
  refine ow_eqs ?_ (fun g' i' h => ?_)
  · simp (disch := omega) only [ow_c, ow_si_u, ow_si_ne, ow_si_n2, ow_si_e, ow_si_l, ow_si_r, ow_sl_i, ow_sl_r, ow_sl_e, ow_sl_n, ow_sr_i, ow_sr_l, ow_sr_e, ow_sr_n] <;> rfl
  · unfold ow_c
    split
    all_goals (try split)
    all_goals first | rfl | (simp (disch := omega) only [ow_si_ne, ow_si_n2, ow_si_e, ow_si_l, ow_si_r, ow_sl_i, ow_sl_r, ow_sl_e, ow_sl_n, ow_sr_i, ow_sr_l, ow_sr_e, ow_sr_n]; done) | (exfalso; omega)
end
section
theorem dJ6_bitCount_0f7a4_0 : decode cJ6_bitCount_0f7a4 0 = .ok (.iload_n 0, 1) := by decide +kernel
theorem dJ6_bitCount_0f7a4_1 : decode cJ6_bitCount_0f7a4 1 = .ok (.iload_n 0, 1) := by decide +kernel
theorem dJ6_bitCount_0f7a4_2 : decode cJ6_bitCount_0f7a4 2 = .ok (.iconst 1, 1) := by decide +kernel
theorem dJ6_bitCount_0f7a4_3 : decode cJ6_bitCount_0f7a4 3 = .ok (.iushr, 1) := by decide +kernel
theorem dJ6_bitCount_0f7a4_4 : decode cJ6_bitCount_0f7a4 4 = .ok (.ldc_w 265, 3) := by decide +kernel
theorem dJ6_bitCount_0f7a4_7 : decode cJ6_bitCount_0f7a4 7 = .ok (.iand, 1) := by decide +kernel
theorem dJ6_bitCount_0f7a4_8 : decode cJ6_bitCount_0f7a4 8 = .ok (.isub, 1) := by decide +kernel
theorem dJ6_bitCount_0f7a4_9 : decode cJ6_bitCount_0f7a4 9 = .ok (.istore_n 0, 1) := by decide +kernel
theorem dJ6_bitCount_0f7a4_10 : decode cJ6_bitCount_0f7a4 10 = .ok (.iload_n 0, 1) := by decide +kernel
theorem dJ6_bitCount_0f7a4_11 : decode cJ6_bitCount_0f7a4 11 = .ok (.ldc_w 266, 3) := by decide +kernel
theorem dJ6_bitCount_0f7a4_14 : decode cJ6_bitCount_0f7a4 14 = .ok (.iand, 1) := by decide +kernel
theorem dJ6_bitCount_0f7a4_15 : decode cJ6_bitCount_0f7a4 15 = .ok (.iload_n 0, 1) := by decide +kernel
theorem dJ6_bitCount_0f7a4_16 : decode cJ6_bitCount_0f7a4 16 = .ok (.iconst 2, 1) := by decide +kernel
theorem dJ6_bitCount_0f7a4_17 : decode cJ6_bitCount_0f7a4 17 = .ok (.iushr, 1) := by decide +kernel
theorem dJ6_bitCount_0f7a4_18 : decode cJ6_bitCount_0f7a4 18 = .ok (.ldc_w 266, 3) := by decide +kernel
theorem dJ6_bitCount_0f7a4_21 : decode cJ6_bitCount_0f7a4 21 = .ok (.iand, 1) := by decide +kernel
theorem dJ6_bitCount_0f7a4_22 : decode cJ6_bitCount_0f7a4 22 = .ok (.iadd, 1) := by decide +kernel
theorem dJ6_bitCount_0f7a4_23 : decode cJ6_bitCount_0f7a4 23 = .ok (.istore_n 0, 1) := by decide +kernel
theorem dJ6_bitCount_0f7a4_24 : decode cJ6_bitCount_0f7a4 24 = .ok (.iload_n 0, 1) := by decide +kernel
theorem dJ6_bitCount_0f7a4_25 : decode cJ6_bitCount_0f7a4 25 = .ok (.iload_n 0, 1) := by decide +kernel
theorem dJ6_bitCount_0f7a4_26 : decode cJ6_bitCount_0f7a4 26 = .ok (.iconst 4, 1) := by decide +kernel
theorem dJ6_bitCount_0f7a4_27 : decode cJ6_bitCount_0f7a4 27 = .ok (.iushr, 1) := by decide +kernel
theorem dJ6_bitCount_0f7a4_28 : decode cJ6_bitCount_0f7a4 28 = .ok (.iadd, 1) := by decide +kernel
theorem dJ6_bitCount_0f7a4_29 : decode cJ6_bitCount_0f7a4 29 = .ok (.ldc_w 267, 3) := by decide +kernel
theorem dJ6_bitCount_0f7a4_32 : decode cJ6_bitCount_0f7a4 32 = .ok (.iand, 1) := by decide +kernel
theorem dJ6_bitCount_0f7a4_33 : decode cJ6_bitCount_0f7a4 33 = .ok (.istore_n 0, 1) := by decide +kernel
theorem dJ6_bitCount_0f7a4_34 : decode cJ6_bitCount_0f7a4 34 = .ok (.iload_n 0, 1) := by decide +kernel
theorem dJ6_bitCount_0f7a4_35 : decode cJ6_bitCount_0f7a4 35 = .ok (.iload_n 0, 1) := by decide +kernel
theorem dJ6_bitCount_0f7a4_36 : decode cJ6_bitCount_0f7a4 36 = .ok (.bipush 8, 2) := by decide +kernel
theorem dJ6_bitCount_0f7a4_38 : decode cJ6_bitCount_0f7a4 38 = .ok (.iushr, 1) := by decide +kernel
theorem dJ6_bitCount_0f7a4_39 : decode cJ6_bitCount_0f7a4 39 = .ok (.iadd, 1) := by decide +kernel
theorem dJ6_bitCount_0f7a4_40 : decode cJ6_bitCount_0f7a4 40 = .ok (.istore_n 0, 1) := by decide +kernel
theorem dJ6_bitCount_0f7a4_41 : decode cJ6_bitCount_0f7a4 41 = .ok (.iload_n 0, 1) := by decide +kernel
theorem dJ6_bitCount_0f7a4_42 : decode cJ6_bitCount_0f7a4 42 = .ok (.iload_n 0, 1) := by decide +kernel
theorem dJ6_bitCount_0f7a4_43 : decode cJ6_bitCount_0f7a4 43 = .ok (.bipush 16, 2) := by decide +kernel
theorem dJ6_bitCount_0f7a4_45 : decode cJ6_bitCount_0f7a4 45 = .ok (.iushr, 1) := by decide +kernel
theorem dJ6_bitCount_0f7a4_46 : decode cJ6_bitCount_0f7a4 46 = .ok (.iadd, 1) := by decide +kernel
theorem dJ6_bitCount_0f7a4_47 : decode cJ6_bitCount_0f7a4 47 = .ok (.istore_n 0, 1) := by decide +kernel
theorem dJ6_bitCount_0f7a4_48 : decode cJ6_bitCount_0f7a4 48 = .ok (.iload_n 0, 1) := by decide +kernel
theorem dJ6_bitCount_0f7a4_49 : decode cJ6_bitCount_0f7a4 49 = .ok (.bipush 63, 2) := by decide +kernel
theorem dJ6_bitCount_0f7a4_51 : decode cJ6_bitCount_0f7a4 51 = .ok (.iand, 1) := by decide +kernel
theorem dJ6_bitCount_0f7a4_52 : decode cJ6_bitCount_0f7a4 52 = .ok (.ireturn, 1) := by decide +kernel
theorem dX0_has_0 : decode cX0_has 0 = .ok (.iload_n 1, 1) := by decide +kernel
theorem dX0_has_1 : decode cX0_has 1 = .ok (.ifCond .lt 15, 3) := by decide +kernel
theorem dX0_has_4 : decode cX0_has 4 = .ok (.iload_n 1, 1) := by decide +kernel
theorem dX0_has_5 : decode cX0_has 5 = .ok (.aload_n 0, 1) := by decide +kernel
theorem dX0_has_6 : decode cX0_has 6 = .ok (.getfield 26, 3) := by decide +kernel
theorem dX0_has_9 : decode cX0_has 9 = .ok (.if_icmp .ge 7, 3) := by decide +kernel
theorem dX0_has_12 : decode cX0_has 12 = .ok (.iconst 1, 1) := by decide +kernel
theorem dX0_has_13 : decode cX0_has 13 = .ok (.goto 4, 3) := by decide +kernel
theorem dX0_has_16 : decode cX0_has 16 = .ok (.iconst 0, 1) := by decide +kernel
theorem dX0_has_17 : decode cX0_has 17 = .ok (.ireturn, 1) := by decide +kernel
set_option maxRecDepth 20000 in
theorem ggX0_constantOf_X0_has : GoodIn wsX0_constantOf wsX0_has := goodIn_r _ [6, 7, 8, 9, 10, 11, 12, 13, 14] (by decide +kernel) (by decide +kernel)
set_option maxRecDepth 20000 in
theorem gX0_constantOf_X0_has : GoodIn wsX0_constantOf (wsV RX0 36 RX0 yX0_has wsX0_has) := goodIn_app (goodIn_of _ (by decide +kernel)) ggX0_constantOf_X0_has
theorem dX0_constantOf_0 : decode cX0_constantOf 0 = .ok (.aload_n 0, 1) := by decide +kernel
theorem dX0_constantOf_1 : decode cX0_constantOf 1 = .ok (.iload_n 1, 1) := by decide +kernel
theorem dX0_constantOf_2 : decode cX0_constantOf 2 = .ok (.invokevirtual 36, 3) := by decide +kernel
theorem dX0_constantOf_5 : decode cX0_constantOf 5 = .ok (.ifCond .eq 12, 3) := by decide +kernel
theorem dX0_constantOf_8 : decode cX0_constantOf 8 = .ok (.aload_n 0, 1) := by decide +kernel
theorem dX0_constantOf_9 : decode cX0_constantOf 9 = .ok (.getfield 29, 3) := by decide +kernel
theorem dX0_constantOf_12 : decode cX0_constantOf 12 = .ok (.iload_n 1, 1) := by decide +kernel
theorem dX0_constantOf_13 : decode cX0_constantOf 13 = .ok (.iaload, 1) := by decide +kernel
theorem dX0_constantOf_14 : decode cX0_constantOf 14 = .ok (.goto 4, 3) := by decide +kernel
theorem dX0_constantOf_17 : decode cX0_constantOf 17 = .ok (.iconst (-1), 1) := by decide +kernel
theorem dX0_constantOf_18 : decode cX0_constantOf 18 = .ok (.ireturn, 1) := by decide +kernel
set_option maxRecDepth 20000 in
theorem ggX0_codeOf_X0_has : GoodIn wsX0_codeOf wsX0_has := goodIn_r _ [6, 7, 8, 9, 10, 11, 12, 13, 14] (by decide +kernel) (by decide +kernel)
set_option maxRecDepth 20000 in
theorem gX0_codeOf_X0_has : GoodIn wsX0_codeOf (wsV RX0 36 RX0 yX0_has wsX0_has) := goodIn_app (goodIn_of _ (by decide +kernel)) ggX0_codeOf_X0_has
theorem dX0_codeOf_0 : decode cX0_codeOf 0 = .ok (.aload_n 0, 1) := by decide +kernel
theorem dX0_codeOf_1 : decode cX0_codeOf 1 = .ok (.iload_n 1, 1) := by decide +kernel
theorem dX0_codeOf_2 : decode cX0_codeOf 2 = .ok (.invokevirtual 36, 3) := by decide +kernel
theorem dX0_codeOf_5 : decode cX0_codeOf 5 = .ok (.ifCond .eq 12, 3) := by decide +kernel
theorem dX0_codeOf_8 : decode cX0_codeOf 8 = .ok (.aload_n 0, 1) := by decide +kernel
theorem dX0_codeOf_9 : decode cX0_codeOf 9 = .ok (.getfield 33, 3) := by decide +kernel
theorem dX0_codeOf_12 : decode cX0_codeOf 12 = .ok (.iload_n 1, 1) := by decide +kernel
theorem dX0_codeOf_13 : decode cX0_codeOf 13 = .ok (.iaload, 1) := by decide +kernel
theorem dX0_codeOf_14 : decode cX0_codeOf 14 = .ok (.goto 4, 3) := by decide +kernel
theorem dX0_codeOf_17 : decode cX0_codeOf 17 = .ok (.iconst (-1), 1) := by decide +kernel
theorem dX0_codeOf_18 : decode cX0_codeOf 18 = .ok (.ireturn, 1) := by decide +kernel
theorem dX0_constantNamed_0 : decode cX0_constantNamed 0 = .ok (.iconst 0, 1) := by decide +kernel
theorem dX0_constantNamed_1 : decode cX0_constantNamed 1 = .ok (.istore_n 3, 1) := by decide +kernel
theorem dX0_constantNamed_2 : decode cX0_constantNamed 2 = .ok (.iload_n 3, 1) := by decide +kernel
theorem dX0_constantNamed_3 : decode cX0_constantNamed 3 = .ok (.aload_n 0, 1) := by decide +kernel
theorem dX0_constantNamed_4 : decode cX0_constantNamed 4 = .ok (.getfield 26, 3) := by decide +kernel
theorem dX0_constantNamed_7 : decode cX0_constantNamed 7 = .ok (.if_icmp .ge 22, 3) := by decide +kernel
theorem dX0_constantNamed_10 : decode cX0_constantNamed 10 = .ok (.aload_n 0, 1) := by decide +kernel
theorem dX0_constantNamed_11 : decode cX0_constantNamed 11 = .ok (.getfield 22, 3) := by decide +kernel
theorem dX0_constantNamed_14 : decode cX0_constantNamed 14 = .ok (.iload_n 3, 1) := by decide +kernel
theorem dX0_constantNamed_15 : decode cX0_constantNamed 15 = .ok (.laload, 1) := by decide +kernel
theorem dX0_constantNamed_16 : decode cX0_constantNamed 16 = .ok (.lload_n 1, 1) := by decide +kernel
theorem dX0_constantNamed_17 : decode cX0_constantNamed 17 = .ok (.lcmp, 1) := by decide +kernel
theorem dX0_constantNamed_18 : decode cX0_constantNamed 18 = .ok (.ifCond .ne 5, 3) := by decide +kernel
theorem dX0_constantNamed_21 : decode cX0_constantNamed 21 = .ok (.iload_n 3, 1) := by decide +kernel
theorem dX0_constantNamed_22 : decode cX0_constantNamed 22 = .ok (.ireturn, 1) := by decide +kernel
theorem dX0_constantNamed_23 : decode cX0_constantNamed 23 = .ok (.iinc 3 1, 3) := by decide +kernel
theorem dX0_constantNamed_26 : decode cX0_constantNamed 26 = .ok (.goto (-24), 3) := by decide +kernel
theorem dX0_constantNamed_29 : decode cX0_constantNamed 29 = .ok (.iconst (-1), 1) := by decide +kernel
theorem dX0_constantNamed_30 : decode cX0_constantNamed 30 = .ok (.ireturn, 1) := by decide +kernel
set_option maxRecDepth 20000 in
theorem ggX0_exchange_X0_has : GoodIn wsX0_exchange wsX0_has := goodIn_r _ [7, 8, 9, 10, 11, 12, 13, 14, 15] (by decide +kernel) (by decide +kernel)
set_option maxRecDepth 20000 in
theorem gX0_exchange_X0_has : GoodIn wsX0_exchange (wsV RX0 36 RX0 yX0_has wsX0_has) := goodIn_app (goodIn_of _ (by decide +kernel)) ggX0_exchange_X0_has
theorem dX0_exchange_0 : decode cX0_exchange 0 = .ok (.aload_n 0, 1) := by decide +kernel
theorem dX0_exchange_1 : decode cX0_exchange 1 = .ok (.iload_n 1, 1) := by decide +kernel
theorem dX0_exchange_2 : decode cX0_exchange 2 = .ok (.invokevirtual 36, 3) := by decide +kernel
theorem dX0_exchange_5 : decode cX0_exchange 5 = .ok (.ifCond .eq 11, 3) := by decide +kernel
theorem dX0_exchange_8 : decode cX0_exchange 8 = .ok (.aload_n 0, 1) := by decide +kernel
theorem dX0_exchange_9 : decode cX0_exchange 9 = .ok (.iload_n 2, 1) := by decide +kernel
theorem dX0_exchange_10 : decode cX0_exchange 10 = .ok (.invokevirtual 36, 3) := by decide +kernel
theorem dX0_exchange_13 : decode cX0_exchange 13 = .ok (.ifCond .ne 4, 3) := by decide +kernel
theorem dX0_exchange_16 : decode cX0_exchange 16 = .ok (.return_, 1) := by decide +kernel
theorem dX0_exchange_17 : decode cX0_exchange 17 = .ok (.aload_n 0, 1) := by decide +kernel
theorem dX0_exchange_18 : decode cX0_exchange 18 = .ok (.getfield 29, 3) := by decide +kernel
theorem dX0_exchange_21 : decode cX0_exchange 21 = .ok (.iload_n 1, 1) := by decide +kernel
theorem dX0_exchange_22 : decode cX0_exchange 22 = .ok (.iaload, 1) := by decide +kernel
theorem dX0_exchange_23 : decode cX0_exchange 23 = .ok (.istore_n 3, 1) := by decide +kernel
theorem dX0_exchange_24 : decode cX0_exchange 24 = .ok (.aload_n 0, 1) := by decide +kernel
theorem dX0_exchange_25 : decode cX0_exchange 25 = .ok (.getfield 29, 3) := by decide +kernel
theorem dX0_exchange_28 : decode cX0_exchange 28 = .ok (.iload_n 1, 1) := by decide +kernel
theorem dX0_exchange_29 : decode cX0_exchange 29 = .ok (.aload_n 0, 1) := by decide +kernel
theorem dX0_exchange_30 : decode cX0_exchange 30 = .ok (.getfield 29, 3) := by decide +kernel
theorem dX0_exchange_33 : decode cX0_exchange 33 = .ok (.iload_n 2, 1) := by decide +kernel
theorem dX0_exchange_34 : decode cX0_exchange 34 = .ok (.iaload, 1) := by decide +kernel
theorem dX0_exchange_35 : decode cX0_exchange 35 = .ok (.iastore, 1) := by decide +kernel
theorem dX0_exchange_36 : decode cX0_exchange 36 = .ok (.aload_n 0, 1) := by decide +kernel
theorem dX0_exchange_37 : decode cX0_exchange 37 = .ok (.getfield 29, 3) := by decide +kernel
theorem dX0_exchange_40 : decode cX0_exchange 40 = .ok (.iload_n 2, 1) := by decide +kernel
theorem dX0_exchange_41 : decode cX0_exchange 41 = .ok (.iload_n 3, 1) := by decide +kernel
theorem dX0_exchange_42 : decode cX0_exchange 42 = .ok (.iastore, 1) := by decide +kernel
theorem dX0_exchange_43 : decode cX0_exchange 43 = .ok (.aload_n 0, 1) := by decide +kernel
theorem dX0_exchange_44 : decode cX0_exchange 44 = .ok (.getfield 33, 3) := by decide +kernel
theorem dX0_exchange_47 : decode cX0_exchange 47 = .ok (.aload_n 0, 1) := by decide +kernel
theorem dX0_exchange_48 : decode cX0_exchange 48 = .ok (.getfield 29, 3) := by decide +kernel
theorem dX0_exchange_51 : decode cX0_exchange 51 = .ok (.iload_n 1, 1) := by decide +kernel
theorem dX0_exchange_52 : decode cX0_exchange 52 = .ok (.iaload, 1) := by decide +kernel
theorem dX0_exchange_53 : decode cX0_exchange 53 = .ok (.iload_n 1, 1) := by decide +kernel
theorem dX0_exchange_54 : decode cX0_exchange 54 = .ok (.iastore, 1) := by decide +kernel
theorem dX0_exchange_55 : decode cX0_exchange 55 = .ok (.aload_n 0, 1) := by decide +kernel
theorem dX0_exchange_56 : decode cX0_exchange 56 = .ok (.getfield 33, 3) := by decide +kernel
theorem dX0_exchange_59 : decode cX0_exchange 59 = .ok (.aload_n 0, 1) := by decide +kernel
theorem dX0_exchange_60 : decode cX0_exchange 60 = .ok (.getfield 29, 3) := by decide +kernel
theorem dX0_exchange_63 : decode cX0_exchange 63 = .ok (.iload_n 2, 1) := by decide +kernel
theorem dX0_exchange_64 : decode cX0_exchange 64 = .ok (.iaload, 1) := by decide +kernel
theorem dX0_exchange_65 : decode cX0_exchange 65 = .ok (.iload_n 2, 1) := by decide +kernel
theorem dX0_exchange_66 : decode cX0_exchange 66 = .ok (.iastore, 1) := by decide +kernel
theorem dX0_exchange_67 : decode cX0_exchange 67 = .ok (.return_, 1) := by decide +kernel
theorem dX0_startForRule_0 : decode cX0_startForRule 0 = .ok (.aload_n 0, 1) := by decide +kernel
theorem dX0_startForRule_1 : decode cX0_startForRule 1 = .ok (.getfield 9, 3) := by decide +kernel
theorem dX0_startForRule_4 : decode cX0_startForRule 4 = .ok (.iconst 2, 1) := by decide +kernel
theorem dX0_startForRule_5 : decode cX0_startForRule 5 = .ok (.if_icmp .ne 6, 3) := by decide +kernel
theorem dX0_startForRule_8 : decode cX0_startForRule 8 = .ok (.bipush (-9), 2) := by decide +kernel
theorem dX0_startForRule_10 : decode cX0_startForRule 10 = .ok (.ireturn, 1) := by decide +kernel
theorem dX0_startForRule_11 : decode cX0_startForRule 11 = .ok (.aload_n 0, 1) := by decide +kernel
theorem dX0_startForRule_12 : decode cX0_startForRule 12 = .ok (.getfield 9, 3) := by decide +kernel
theorem dX0_startForRule_15 : decode cX0_startForRule 15 = .ok (.ifCond .ne 18, 3) := by decide +kernel
theorem dX0_startForRule_18 : decode cX0_startForRule 18 = .ok (.aload_n 0, 1) := by decide +kernel
theorem dX0_startForRule_19 : decode cX0_startForRule 19 = .ok (.getfield 15, 3) := by decide +kernel
theorem dX0_startForRule_22 : decode cX0_startForRule 22 = .ok (.ifCond .eq 11, 3) := by decide +kernel
theorem dX0_startForRule_25 : decode cX0_startForRule 25 = .ok (.aload_n 0, 1) := by decide +kernel
theorem dX0_startForRule_26 : decode cX0_startForRule 26 = .ok (.iconst 2, 1) := by decide +kernel
theorem dX0_startForRule_27 : decode cX0_startForRule 27 = .ok (.putfield 9, 3) := by decide +kernel
theorem dX0_startForRule_30 : decode cX0_startForRule 30 = .ok (.bipush (-8), 2) := by decide +kernel
theorem dX0_startForRule_32 : decode cX0_startForRule 32 = .ok (.ireturn, 1) := by decide +kernel
theorem dX0_startForRule_33 : decode cX0_startForRule 33 = .ok (.aload_n 0, 1) := by decide +kernel
theorem dX0_startForRule_34 : decode cX0_startForRule 34 = .ok (.iconst 1, 1) := by decide +kernel
theorem dX0_startForRule_35 : decode cX0_startForRule 35 = .ok (.putfield 9, 3) := by decide +kernel
theorem dX0_startForRule_38 : decode cX0_startForRule 38 = .ok (.iconst 1, 1) := by decide +kernel
theorem dX0_startForRule_39 : decode cX0_startForRule 39 = .ok (.ireturn, 1) := by decide +kernel
set_option maxRecDepth 20000 in
theorem ggX1_size_J6_bitCount_0f7a4 : GoodIn wsX1_size wsJ6_bitCount_0f7a4 := goodIn_r _ [5, 6, 7, 8] (by decide +kernel) (by decide +kernel)
set_option maxRecDepth 20000 in
theorem gX1_size_J6_bitCount_0f7a4 : GoodIn wsX1_size (va_wsS RX1 17 yJ6_bitCount_0f7a4 wsJ6_bitCount_0f7a4) := goodIn_app (goodIn_of _ (by decide +kernel)) ggX1_size_J6_bitCount_0f7a4
theorem dX1_size_0 : decode cX1_size 0 = .ok (.aload_n 0, 1) := by decide +kernel
theorem dX1_size_1 : decode cX1_size 1 = .ok (.getfield 7, 3) := by decide +kernel
theorem dX1_size_4 : decode cX1_size 4 = .ok (.invokestatic 17, 3) := by decide +kernel
theorem dX1_size_7 : decode cX1_size 7 = .ok (.ireturn, 1) := by decide +kernel
set_option maxRecDepth 20000 in
theorem ggX1_holds_X0_has : GoodIn wsX1_holds wsX0_has := goodIn_r _ [6, 7, 10, 11, 12, 13, 14, 15, 16] (by decide +kernel) (by decide +kernel)
set_option maxRecDepth 20000 in
theorem gX1_holds_X0_has_n23 : GoodIn wsX1_holds (wsX0_has) := ggX1_holds_X0_has
theorem dX1_holds_0 : decode cX1_holds 0 = .ok (.aload_n 0, 1) := by decide +kernel
theorem dX1_holds_1 : decode cX1_holds 1 = .ok (.getfield 13, 3) := by decide +kernel
theorem dX1_holds_4 : decode cX1_holds 4 = .ok (.iload_n 1, 1) := by decide +kernel
theorem dX1_holds_5 : decode cX1_holds 5 = .ok (.invokevirtual 23, 3) := by decide +kernel
theorem dX1_holds_8 : decode cX1_holds 8 = .ok (.ifCond .eq 19, 3) := by decide +kernel
theorem dX1_holds_11 : decode cX1_holds 11 = .ok (.aload_n 0, 1) := by decide +kernel
theorem dX1_holds_12 : decode cX1_holds 12 = .ok (.getfield 7, 3) := by decide +kernel
theorem dX1_holds_15 : decode cX1_holds 15 = .ok (.iload_n 1, 1) := by decide +kernel
theorem dX1_holds_16 : decode cX1_holds 16 = .ok (.ishr, 1) := by decide +kernel
theorem dX1_holds_17 : decode cX1_holds 17 = .ok (.iconst 1, 1) := by decide +kernel
theorem dX1_holds_18 : decode cX1_holds 18 = .ok (.iand, 1) := by decide +kernel
theorem dX1_holds_19 : decode cX1_holds 19 = .ok (.iconst 1, 1) := by decide +kernel
theorem dX1_holds_20 : decode cX1_holds 20 = .ok (.if_icmp .ne 7, 3) := by decide +kernel
theorem dX1_holds_23 : decode cX1_holds 23 = .ok (.iconst 1, 1) := by decide +kernel
theorem dX1_holds_24 : decode cX1_holds 24 = .ok (.goto 4, 3) := by decide +kernel
theorem dX1_holds_27 : decode cX1_holds 27 = .ok (.iconst 0, 1) := by decide +kernel
theorem dX1_holds_28 : decode cX1_holds 28 = .ok (.ireturn, 1) := by decide +kernel
theorem dX1_become_0 : decode cX1_become 0 = .ok (.aload_n 0, 1) := by decide +kernel
theorem dX1_become_1 : decode cX1_become 1 = .ok (.aload_n 1, 1) := by decide +kernel
theorem dX1_become_2 : decode cX1_become 2 = .ok (.putfield 13, 3) := by decide +kernel
theorem dX1_become_5 : decode cX1_become 5 = .ok (.aload_n 0, 1) := by decide +kernel
theorem dX1_become_6 : decode cX1_become 6 = .ok (.iload_n 2, 1) := by decide +kernel
theorem dX1_become_7 : decode cX1_become 7 = .ok (.putfield 7, 3) := by decide +kernel
theorem dX1_become_10 : decode cX1_become 10 = .ok (.return_, 1) := by decide +kernel
theorem dX2_hasRecord_0 : decode cX2_hasRecord 0 = .ok (.iload_n 1, 1) := by decide +kernel
theorem dX2_hasRecord_1 : decode cX2_hasRecord 1 = .ok (.ifCond .lt 15, 3) := by decide +kernel
theorem dX2_hasRecord_4 : decode cX2_hasRecord 4 = .ok (.iload_n 1, 1) := by decide +kernel
theorem dX2_hasRecord_5 : decode cX2_hasRecord 5 = .ok (.aload_n 0, 1) := by decide +kernel
theorem dX2_hasRecord_6 : decode cX2_hasRecord 6 = .ok (.getfield 9, 3) := by decide +kernel
theorem dX2_hasRecord_9 : decode cX2_hasRecord 9 = .ok (.if_icmp .ge 7, 3) := by decide +kernel
theorem dX2_hasRecord_12 : decode cX2_hasRecord 12 = .ok (.iconst 1, 1) := by decide +kernel
theorem dX2_hasRecord_13 : decode cX2_hasRecord 13 = .ok (.goto 4, 3) := by decide +kernel
theorem dX2_hasRecord_16 : decode cX2_hasRecord 16 = .ok (.iconst 0, 1) := by decide +kernel
theorem dX2_hasRecord_17 : decode cX2_hasRecord 17 = .ok (.ireturn, 1) := by decide +kernel
theorem dX2_hasItem_0 : decode cX2_hasItem 0 = .ok (.iload_n 1, 1) := by decide +kernel
theorem dX2_hasItem_1 : decode cX2_hasItem 1 = .ok (.ifCond .lt 15, 3) := by decide +kernel
theorem dX2_hasItem_4 : decode cX2_hasItem 4 = .ok (.iload_n 1, 1) := by decide +kernel
theorem dX2_hasItem_5 : decode cX2_hasItem 5 = .ok (.aload_n 0, 1) := by decide +kernel
theorem dX2_hasItem_6 : decode cX2_hasItem 6 = .ok (.getfield 19, 3) := by decide +kernel
theorem dX2_hasItem_9 : decode cX2_hasItem 9 = .ok (.if_icmp .ge 7, 3) := by decide +kernel
theorem dX2_hasItem_12 : decode cX2_hasItem 12 = .ok (.iconst 1, 1) := by decide +kernel
theorem dX2_hasItem_13 : decode cX2_hasItem 13 = .ok (.goto 4, 3) := by decide +kernel
theorem dX2_hasItem_16 : decode cX2_hasItem 16 = .ok (.iconst 0, 1) := by decide +kernel
theorem dX2_hasItem_17 : decode cX2_hasItem 17 = .ok (.ireturn, 1) := by decide +kernel
end
section
theorem lk_J6_bitCount_0f7a4_0 : (.constant RJ6 265 (1431655765) : Cond) ∈ wsJ6_bitCount_0f7a4 := by decide +kernel
theorem lk_J6_bitCount_0f7a4_1 : (.constant RJ6 266 (858993459) : Cond) ∈ wsJ6_bitCount_0f7a4 := by decide +kernel
theorem lk_J6_bitCount_0f7a4_2 : (.constant RJ6 267 (252645135) : Cond) ∈ wsJ6_bitCount_0f7a4 := by decide +kernel
def fJ6_bitCount_0f7a4 (st : ow_St) (x0 : Int32) : Int32 := ((((((((x0 - ((((x0).toUInt32 >>> ((1 : Int32).toUInt32 &&& Int32.toUInt32 31)).toInt32) &&& 1431655765)) &&& 858993459) + (((((x0 - ((((x0).toUInt32 >>> ((1 : Int32).toUInt32 &&& Int32.toUInt32 31)).toInt32) &&& 1431655765))).toUInt32 >>> ((2 : Int32).toUInt32 &&& Int32.toUInt32 31)).toInt32) &&& 858993459)) + ((((((x0 - ((((x0).toUInt32 >>> ((1 : Int32).toUInt32 &&& Int32.toUInt32 31)).toInt32) &&& 1431655765)) &&& 858993459) + (((((x0 - ((((x0).toUInt32 >>> ((1 : Int32).toUInt32 &&& Int32.toUInt32 31)).toInt32) &&& 1431655765))).toUInt32 >>> ((2 : Int32).toUInt32 &&& Int32.toUInt32 31)).toInt32) &&& 858993459))).toUInt32 >>> ((4 : Int32).toUInt32 &&& Int32.toUInt32 31)).toInt32)) &&& 252645135) + ((((((((x0 - ((((x0).toUInt32 >>> ((1 : Int32).toUInt32 &&& Int32.toUInt32 31)).toInt32) &&& 1431655765)) &&& 858993459) + (((((x0 - ((((x0).toUInt32 >>> ((1 : Int32).toUInt32 &&& Int32.toUInt32 31)).toInt32) &&& 1431655765))).toUInt32 >>> ((2 : Int32).toUInt32 &&& Int32.toUInt32 31)).toInt32) &&& 858993459)) + ((((((x0 - ((((x0).toUInt32 >>> ((1 : Int32).toUInt32 &&& Int32.toUInt32 31)).toInt32) &&& 1431655765)) &&& 858993459) + (((((x0 - ((((x0).toUInt32 >>> ((1 : Int32).toUInt32 &&& Int32.toUInt32 31)).toInt32) &&& 1431655765))).toUInt32 >>> ((2 : Int32).toUInt32 &&& Int32.toUInt32 31)).toInt32) &&& 858993459))).toUInt32 >>> ((4 : Int32).toUInt32 &&& Int32.toUInt32 31)).toInt32)) &&& 252645135)).toUInt32 >>> ((8 : Int32).toUInt32 &&& Int32.toUInt32 31)).toInt32)) + (((((((((x0 - ((((x0).toUInt32 >>> ((1 : Int32).toUInt32 &&& Int32.toUInt32 31)).toInt32) &&& 1431655765)) &&& 858993459) + (((((x0 - ((((x0).toUInt32 >>> ((1 : Int32).toUInt32 &&& Int32.toUInt32 31)).toInt32) &&& 1431655765))).toUInt32 >>> ((2 : Int32).toUInt32 &&& Int32.toUInt32 31)).toInt32) &&& 858993459)) + ((((((x0 - ((((x0).toUInt32 >>> ((1 : Int32).toUInt32 &&& Int32.toUInt32 31)).toInt32) &&& 1431655765)) &&& 858993459) + (((((x0 - ((((x0).toUInt32 >>> ((1 : Int32).toUInt32 &&& Int32.toUInt32 31)).toInt32) &&& 1431655765))).toUInt32 >>> ((2 : Int32).toUInt32 &&& Int32.toUInt32 31)).toInt32) &&& 858993459))).toUInt32 >>> ((4 : Int32).toUInt32 &&& Int32.toUInt32 31)).toInt32)) &&& 252645135) + ((((((((x0 - ((((x0).toUInt32 >>> ((1 : Int32).toUInt32 &&& Int32.toUInt32 31)).toInt32) &&& 1431655765)) &&& 858993459) + (((((x0 - ((((x0).toUInt32 >>> ((1 : Int32).toUInt32 &&& Int32.toUInt32 31)).toInt32) &&& 1431655765))).toUInt32 >>> ((2 : Int32).toUInt32 &&& Int32.toUInt32 31)).toInt32) &&& 858993459)) + ((((((x0 - ((((x0).toUInt32 >>> ((1 : Int32).toUInt32 &&& Int32.toUInt32 31)).toInt32) &&& 1431655765)) &&& 858993459) + (((((x0 - ((((x0).toUInt32 >>> ((1 : Int32).toUInt32 &&& Int32.toUInt32 31)).toInt32) &&& 1431655765))).toUInt32 >>> ((2 : Int32).toUInt32 &&& Int32.toUInt32 31)).toInt32) &&& 858993459))).toUInt32 >>> ((4 : Int32).toUInt32 &&& Int32.toUInt32 31)).toInt32)) &&& 252645135)).toUInt32 >>> ((8 : Int32).toUInt32 &&& Int32.toUInt32 31)).toInt32))).toUInt32 >>> ((16 : Int32).toUInt32 &&& Int32.toUInt32 31)).toInt32)) &&& 63)
set_option maxHeartbeats 4000000 in
set_option maxRecDepth 100000 in
theorem kJ6_bitCount_0f7a4 (l : Launch) (D : va_G) (ca : Nat → ClassId) (ad : ow_Ad) (A : Nat → Prop) (st : ow_St) (x0 : Int32) : Met l yJ6_bitCount_0f7a4 wsJ6_bitCount_0f7a4 ({ frames := 0, cells := 0, slots := 0, locals := 0 }) (va_Pc [.int x0] (ow_W D ca ad A st)) (va_Qi (fun r st' => r = (fJ6_bitCount_0f7a4 st x0) ∧ st' = st) (ow_B D ca ad) A) 0 0 A := by
  refine Met.ofW (cc := cJ6_bitCount_0f7a4) (maxL := 1) (ret := (some .int)) (by decide) rfl ?_
  intro p e s m args below meth c s₁ B hml hv
  obtain ⟨rfl, hP, hC⟩ := hv
  have hx := B.exec
  have hb := B.bytes
  have hr := B.returns
  have hts := atoms_spec (ws := wsJ6_bitCount_0f7a4) B.pre
  have hown : s.vm.findClass RJ6 = some m.cls := findClass_of_methodNamed B.named
  have hlocks := B.notSynchronized
  have hS : va_S A s.heap s.heap [] := va_S.rf
  have hl := lv_entry ([.int x0]) (n := 1) (Nat.le_of_ble_eq_true rfl)
  rw [lg_entry_eq]
  generalize (lg_sl ([.int x0]) ++ List.replicate (1 - (lg_sl ([.int x0])).length) Slot.unset).toArray = ls at hl ⊢
  have hl : lv_has ls 1 [(0, .int x0)] := hl
  refine lv_iload_n hx hb dJ6_bitCount_0f7a4_0 rfl (lv_at hl 0 rfl) ?_
  refine lv_iload_n hx hb dJ6_bitCount_0f7a4_1 rfl (lv_at hl 0 rfl) ?_
  refine lv_iconst (v := 1) hx hb dJ6_bitCount_0f7a4_2 (by decide) ?_
  refine lv_iushr (v := ((x0).toUInt32 >>> ((1 : Int32).toUInt32 &&& Int32.toUInt32 31)).toInt32) hx hb dJ6_bitCount_0f7a4_3 rfl ?_
  refine lv_ldcw (v := 1431655765) hx hb hown (hts _ lk_J6_bitCount_0f7a4_0) dJ6_bitCount_0f7a4_4 ?_
  refine lv_iand hx hb dJ6_bitCount_0f7a4_7 ?_
  refine lv_isub hx hb dJ6_bitCount_0f7a4_8 ?_
  refine lv_istore_n (lv' := [(0, .int (x0 - ((((x0).toUInt32 >>> ((1 : Int32).toUInt32 &&& Int32.toUInt32 31)).toInt32) &&& 1431655765)))]) hx hb dJ6_bitCount_0f7a4_9 rfl hl (by decide) rfl (fun ls hl => ?_)
  refine lv_iload_n hx hb dJ6_bitCount_0f7a4_10 rfl (lv_at hl 0 rfl) ?_
  refine lv_ldcw (v := 858993459) hx hb hown (hts _ lk_J6_bitCount_0f7a4_1) dJ6_bitCount_0f7a4_11 ?_
  refine lv_iand hx hb dJ6_bitCount_0f7a4_14 ?_
  refine lv_iload_n hx hb dJ6_bitCount_0f7a4_15 rfl (lv_at hl 0 rfl) ?_
  refine lv_iconst (v := 2) hx hb dJ6_bitCount_0f7a4_16 (by decide) ?_
  refine lv_iushr (v := (((x0 - ((((x0).toUInt32 >>> ((1 : Int32).toUInt32 &&& Int32.toUInt32 31)).toInt32) &&& 1431655765))).toUInt32 >>> ((2 : Int32).toUInt32 &&& Int32.toUInt32 31)).toInt32) hx hb dJ6_bitCount_0f7a4_17 rfl ?_
  refine lv_ldcw (v := 858993459) hx hb hown (hts _ lk_J6_bitCount_0f7a4_1) dJ6_bitCount_0f7a4_18 ?_
  refine lv_iand hx hb dJ6_bitCount_0f7a4_21 ?_
  refine lv_iadd hx hb dJ6_bitCount_0f7a4_22 ?_
  refine lv_istore_n (lv' := [(0, .int (((x0 - ((((x0).toUInt32 >>> ((1 : Int32).toUInt32 &&& Int32.toUInt32 31)).toInt32) &&& 1431655765)) &&& 858993459) + (((((x0 - ((((x0).toUInt32 >>> ((1 : Int32).toUInt32 &&& Int32.toUInt32 31)).toInt32) &&& 1431655765))).toUInt32 >>> ((2 : Int32).toUInt32 &&& Int32.toUInt32 31)).toInt32) &&& 858993459)))]) hx hb dJ6_bitCount_0f7a4_23 rfl hl (by decide) rfl (fun ls hl => ?_)
  refine lv_iload_n hx hb dJ6_bitCount_0f7a4_24 rfl (lv_at hl 0 rfl) ?_
  refine lv_iload_n hx hb dJ6_bitCount_0f7a4_25 rfl (lv_at hl 0 rfl) ?_
  refine lv_iconst (v := 4) hx hb dJ6_bitCount_0f7a4_26 (by decide) ?_
  refine lv_iushr (v := (((((x0 - ((((x0).toUInt32 >>> ((1 : Int32).toUInt32 &&& Int32.toUInt32 31)).toInt32) &&& 1431655765)) &&& 858993459) + (((((x0 - ((((x0).toUInt32 >>> ((1 : Int32).toUInt32 &&& Int32.toUInt32 31)).toInt32) &&& 1431655765))).toUInt32 >>> ((2 : Int32).toUInt32 &&& Int32.toUInt32 31)).toInt32) &&& 858993459))).toUInt32 >>> ((4 : Int32).toUInt32 &&& Int32.toUInt32 31)).toInt32) hx hb dJ6_bitCount_0f7a4_27 rfl ?_
  refine lv_iadd hx hb dJ6_bitCount_0f7a4_28 ?_
  refine lv_ldcw (v := 252645135) hx hb hown (hts _ lk_J6_bitCount_0f7a4_2) dJ6_bitCount_0f7a4_29 ?_
  refine lv_iand hx hb dJ6_bitCount_0f7a4_32 ?_
  refine lv_istore_n (lv' := [(0, .int (((((x0 - ((((x0).toUInt32 >>> ((1 : Int32).toUInt32 &&& Int32.toUInt32 31)).toInt32) &&& 1431655765)) &&& 858993459) + (((((x0 - ((((x0).toUInt32 >>> ((1 : Int32).toUInt32 &&& Int32.toUInt32 31)).toInt32) &&& 1431655765))).toUInt32 >>> ((2 : Int32).toUInt32 &&& Int32.toUInt32 31)).toInt32) &&& 858993459)) + ((((((x0 - ((((x0).toUInt32 >>> ((1 : Int32).toUInt32 &&& Int32.toUInt32 31)).toInt32) &&& 1431655765)) &&& 858993459) + (((((x0 - ((((x0).toUInt32 >>> ((1 : Int32).toUInt32 &&& Int32.toUInt32 31)).toInt32) &&& 1431655765))).toUInt32 >>> ((2 : Int32).toUInt32 &&& Int32.toUInt32 31)).toInt32) &&& 858993459))).toUInt32 >>> ((4 : Int32).toUInt32 &&& Int32.toUInt32 31)).toInt32)) &&& 252645135))]) hx hb dJ6_bitCount_0f7a4_33 rfl hl (by decide) rfl (fun ls hl => ?_)
  refine lv_iload_n hx hb dJ6_bitCount_0f7a4_34 rfl (lv_at hl 0 rfl) ?_
  refine lv_iload_n hx hb dJ6_bitCount_0f7a4_35 rfl (lv_at hl 0 rfl) ?_
  refine lv_bipush (v := 8) hx hb dJ6_bitCount_0f7a4_36 (by decide) ?_
  refine lv_iushr (v := (((((((x0 - ((((x0).toUInt32 >>> ((1 : Int32).toUInt32 &&& Int32.toUInt32 31)).toInt32) &&& 1431655765)) &&& 858993459) + (((((x0 - ((((x0).toUInt32 >>> ((1 : Int32).toUInt32 &&& Int32.toUInt32 31)).toInt32) &&& 1431655765))).toUInt32 >>> ((2 : Int32).toUInt32 &&& Int32.toUInt32 31)).toInt32) &&& 858993459)) + ((((((x0 - ((((x0).toUInt32 >>> ((1 : Int32).toUInt32 &&& Int32.toUInt32 31)).toInt32) &&& 1431655765)) &&& 858993459) + (((((x0 - ((((x0).toUInt32 >>> ((1 : Int32).toUInt32 &&& Int32.toUInt32 31)).toInt32) &&& 1431655765))).toUInt32 >>> ((2 : Int32).toUInt32 &&& Int32.toUInt32 31)).toInt32) &&& 858993459))).toUInt32 >>> ((4 : Int32).toUInt32 &&& Int32.toUInt32 31)).toInt32)) &&& 252645135)).toUInt32 >>> ((8 : Int32).toUInt32 &&& Int32.toUInt32 31)).toInt32) hx hb dJ6_bitCount_0f7a4_38 rfl ?_
  refine lv_iadd hx hb dJ6_bitCount_0f7a4_39 ?_
  refine lv_istore_n (lv' := [(0, .int ((((((x0 - ((((x0).toUInt32 >>> ((1 : Int32).toUInt32 &&& Int32.toUInt32 31)).toInt32) &&& 1431655765)) &&& 858993459) + (((((x0 - ((((x0).toUInt32 >>> ((1 : Int32).toUInt32 &&& Int32.toUInt32 31)).toInt32) &&& 1431655765))).toUInt32 >>> ((2 : Int32).toUInt32 &&& Int32.toUInt32 31)).toInt32) &&& 858993459)) + ((((((x0 - ((((x0).toUInt32 >>> ((1 : Int32).toUInt32 &&& Int32.toUInt32 31)).toInt32) &&& 1431655765)) &&& 858993459) + (((((x0 - ((((x0).toUInt32 >>> ((1 : Int32).toUInt32 &&& Int32.toUInt32 31)).toInt32) &&& 1431655765))).toUInt32 >>> ((2 : Int32).toUInt32 &&& Int32.toUInt32 31)).toInt32) &&& 858993459))).toUInt32 >>> ((4 : Int32).toUInt32 &&& Int32.toUInt32 31)).toInt32)) &&& 252645135) + ((((((((x0 - ((((x0).toUInt32 >>> ((1 : Int32).toUInt32 &&& Int32.toUInt32 31)).toInt32) &&& 1431655765)) &&& 858993459) + (((((x0 - ((((x0).toUInt32 >>> ((1 : Int32).toUInt32 &&& Int32.toUInt32 31)).toInt32) &&& 1431655765))).toUInt32 >>> ((2 : Int32).toUInt32 &&& Int32.toUInt32 31)).toInt32) &&& 858993459)) + ((((((x0 - ((((x0).toUInt32 >>> ((1 : Int32).toUInt32 &&& Int32.toUInt32 31)).toInt32) &&& 1431655765)) &&& 858993459) + (((((x0 - ((((x0).toUInt32 >>> ((1 : Int32).toUInt32 &&& Int32.toUInt32 31)).toInt32) &&& 1431655765))).toUInt32 >>> ((2 : Int32).toUInt32 &&& Int32.toUInt32 31)).toInt32) &&& 858993459))).toUInt32 >>> ((4 : Int32).toUInt32 &&& Int32.toUInt32 31)).toInt32)) &&& 252645135)).toUInt32 >>> ((8 : Int32).toUInt32 &&& Int32.toUInt32 31)).toInt32)))]) hx hb dJ6_bitCount_0f7a4_40 rfl hl (by decide) rfl (fun ls hl => ?_)
  refine lv_iload_n hx hb dJ6_bitCount_0f7a4_41 rfl (lv_at hl 0 rfl) ?_
  refine lv_iload_n hx hb dJ6_bitCount_0f7a4_42 rfl (lv_at hl 0 rfl) ?_
  refine lv_bipush (v := 16) hx hb dJ6_bitCount_0f7a4_43 (by decide) ?_
  refine lv_iushr (v := ((((((((x0 - ((((x0).toUInt32 >>> ((1 : Int32).toUInt32 &&& Int32.toUInt32 31)).toInt32) &&& 1431655765)) &&& 858993459) + (((((x0 - ((((x0).toUInt32 >>> ((1 : Int32).toUInt32 &&& Int32.toUInt32 31)).toInt32) &&& 1431655765))).toUInt32 >>> ((2 : Int32).toUInt32 &&& Int32.toUInt32 31)).toInt32) &&& 858993459)) + ((((((x0 - ((((x0).toUInt32 >>> ((1 : Int32).toUInt32 &&& Int32.toUInt32 31)).toInt32) &&& 1431655765)) &&& 858993459) + (((((x0 - ((((x0).toUInt32 >>> ((1 : Int32).toUInt32 &&& Int32.toUInt32 31)).toInt32) &&& 1431655765))).toUInt32 >>> ((2 : Int32).toUInt32 &&& Int32.toUInt32 31)).toInt32) &&& 858993459))).toUInt32 >>> ((4 : Int32).toUInt32 &&& Int32.toUInt32 31)).toInt32)) &&& 252645135) + ((((((((x0 - ((((x0).toUInt32 >>> ((1 : Int32).toUInt32 &&& Int32.toUInt32 31)).toInt32) &&& 1431655765)) &&& 858993459) + (((((x0 - ((((x0).toUInt32 >>> ((1 : Int32).toUInt32 &&& Int32.toUInt32 31)).toInt32) &&& 1431655765))).toUInt32 >>> ((2 : Int32).toUInt32 &&& Int32.toUInt32 31)).toInt32) &&& 858993459)) + ((((((x0 - ((((x0).toUInt32 >>> ((1 : Int32).toUInt32 &&& Int32.toUInt32 31)).toInt32) &&& 1431655765)) &&& 858993459) + (((((x0 - ((((x0).toUInt32 >>> ((1 : Int32).toUInt32 &&& Int32.toUInt32 31)).toInt32) &&& 1431655765))).toUInt32 >>> ((2 : Int32).toUInt32 &&& Int32.toUInt32 31)).toInt32) &&& 858993459))).toUInt32 >>> ((4 : Int32).toUInt32 &&& Int32.toUInt32 31)).toInt32)) &&& 252645135)).toUInt32 >>> ((8 : Int32).toUInt32 &&& Int32.toUInt32 31)).toInt32))).toUInt32 >>> ((16 : Int32).toUInt32 &&& Int32.toUInt32 31)).toInt32) hx hb dJ6_bitCount_0f7a4_45 rfl ?_
  refine lv_iadd hx hb dJ6_bitCount_0f7a4_46 ?_
  refine lv_istore_n (lv' := [(0, .int (((((((x0 - ((((x0).toUInt32 >>> ((1 : Int32).toUInt32 &&& Int32.toUInt32 31)).toInt32) &&& 1431655765)) &&& 858993459) + (((((x0 - ((((x0).toUInt32 >>> ((1 : Int32).toUInt32 &&& Int32.toUInt32 31)).toInt32) &&& 1431655765))).toUInt32 >>> ((2 : Int32).toUInt32 &&& Int32.toUInt32 31)).toInt32) &&& 858993459)) + ((((((x0 - ((((x0).toUInt32 >>> ((1 : Int32).toUInt32 &&& Int32.toUInt32 31)).toInt32) &&& 1431655765)) &&& 858993459) + (((((x0 - ((((x0).toUInt32 >>> ((1 : Int32).toUInt32 &&& Int32.toUInt32 31)).toInt32) &&& 1431655765))).toUInt32 >>> ((2 : Int32).toUInt32 &&& Int32.toUInt32 31)).toInt32) &&& 858993459))).toUInt32 >>> ((4 : Int32).toUInt32 &&& Int32.toUInt32 31)).toInt32)) &&& 252645135) + ((((((((x0 - ((((x0).toUInt32 >>> ((1 : Int32).toUInt32 &&& Int32.toUInt32 31)).toInt32) &&& 1431655765)) &&& 858993459) + (((((x0 - ((((x0).toUInt32 >>> ((1 : Int32).toUInt32 &&& Int32.toUInt32 31)).toInt32) &&& 1431655765))).toUInt32 >>> ((2 : Int32).toUInt32 &&& Int32.toUInt32 31)).toInt32) &&& 858993459)) + ((((((x0 - ((((x0).toUInt32 >>> ((1 : Int32).toUInt32 &&& Int32.toUInt32 31)).toInt32) &&& 1431655765)) &&& 858993459) + (((((x0 - ((((x0).toUInt32 >>> ((1 : Int32).toUInt32 &&& Int32.toUInt32 31)).toInt32) &&& 1431655765))).toUInt32 >>> ((2 : Int32).toUInt32 &&& Int32.toUInt32 31)).toInt32) &&& 858993459))).toUInt32 >>> ((4 : Int32).toUInt32 &&& Int32.toUInt32 31)).toInt32)) &&& 252645135)).toUInt32 >>> ((8 : Int32).toUInt32 &&& Int32.toUInt32 31)).toInt32)) + (((((((((x0 - ((((x0).toUInt32 >>> ((1 : Int32).toUInt32 &&& Int32.toUInt32 31)).toInt32) &&& 1431655765)) &&& 858993459) + (((((x0 - ((((x0).toUInt32 >>> ((1 : Int32).toUInt32 &&& Int32.toUInt32 31)).toInt32) &&& 1431655765))).toUInt32 >>> ((2 : Int32).toUInt32 &&& Int32.toUInt32 31)).toInt32) &&& 858993459)) + ((((((x0 - ((((x0).toUInt32 >>> ((1 : Int32).toUInt32 &&& Int32.toUInt32 31)).toInt32) &&& 1431655765)) &&& 858993459) + (((((x0 - ((((x0).toUInt32 >>> ((1 : Int32).toUInt32 &&& Int32.toUInt32 31)).toInt32) &&& 1431655765))).toUInt32 >>> ((2 : Int32).toUInt32 &&& Int32.toUInt32 31)).toInt32) &&& 858993459))).toUInt32 >>> ((4 : Int32).toUInt32 &&& Int32.toUInt32 31)).toInt32)) &&& 252645135) + ((((((((x0 - ((((x0).toUInt32 >>> ((1 : Int32).toUInt32 &&& Int32.toUInt32 31)).toInt32) &&& 1431655765)) &&& 858993459) + (((((x0 - ((((x0).toUInt32 >>> ((1 : Int32).toUInt32 &&& Int32.toUInt32 31)).toInt32) &&& 1431655765))).toUInt32 >>> ((2 : Int32).toUInt32 &&& Int32.toUInt32 31)).toInt32) &&& 858993459)) + ((((((x0 - ((((x0).toUInt32 >>> ((1 : Int32).toUInt32 &&& Int32.toUInt32 31)).toInt32) &&& 1431655765)) &&& 858993459) + (((((x0 - ((((x0).toUInt32 >>> ((1 : Int32).toUInt32 &&& Int32.toUInt32 31)).toInt32) &&& 1431655765))).toUInt32 >>> ((2 : Int32).toUInt32 &&& Int32.toUInt32 31)).toInt32) &&& 858993459))).toUInt32 >>> ((4 : Int32).toUInt32 &&& Int32.toUInt32 31)).toInt32)) &&& 252645135)).toUInt32 >>> ((8 : Int32).toUInt32 &&& Int32.toUInt32 31)).toInt32))).toUInt32 >>> ((16 : Int32).toUInt32 &&& Int32.toUInt32 31)).toInt32)))]) hx hb dJ6_bitCount_0f7a4_47 rfl hl (by decide) rfl (fun ls hl => ?_)
  refine lv_iload_n hx hb dJ6_bitCount_0f7a4_48 rfl (lv_at hl 0 rfl) ?_
  refine lv_bipush (v := 63) hx hb dJ6_bitCount_0f7a4_49 (by decide) ?_
  refine lv_iand hx hb dJ6_bitCount_0f7a4_51 ?_
  exact W.iret (v := ((((((((x0 - ((((x0).toUInt32 >>> ((1 : Int32).toUInt32 &&& Int32.toUInt32 31)).toInt32) &&& 1431655765)) &&& 858993459) + (((((x0 - ((((x0).toUInt32 >>> ((1 : Int32).toUInt32 &&& Int32.toUInt32 31)).toInt32) &&& 1431655765))).toUInt32 >>> ((2 : Int32).toUInt32 &&& Int32.toUInt32 31)).toInt32) &&& 858993459)) + ((((((x0 - ((((x0).toUInt32 >>> ((1 : Int32).toUInt32 &&& Int32.toUInt32 31)).toInt32) &&& 1431655765)) &&& 858993459) + (((((x0 - ((((x0).toUInt32 >>> ((1 : Int32).toUInt32 &&& Int32.toUInt32 31)).toInt32) &&& 1431655765))).toUInt32 >>> ((2 : Int32).toUInt32 &&& Int32.toUInt32 31)).toInt32) &&& 858993459))).toUInt32 >>> ((4 : Int32).toUInt32 &&& Int32.toUInt32 31)).toInt32)) &&& 252645135) + ((((((((x0 - ((((x0).toUInt32 >>> ((1 : Int32).toUInt32 &&& Int32.toUInt32 31)).toInt32) &&& 1431655765)) &&& 858993459) + (((((x0 - ((((x0).toUInt32 >>> ((1 : Int32).toUInt32 &&& Int32.toUInt32 31)).toInt32) &&& 1431655765))).toUInt32 >>> ((2 : Int32).toUInt32 &&& Int32.toUInt32 31)).toInt32) &&& 858993459)) + ((((((x0 - ((((x0).toUInt32 >>> ((1 : Int32).toUInt32 &&& Int32.toUInt32 31)).toInt32) &&& 1431655765)) &&& 858993459) + (((((x0 - ((((x0).toUInt32 >>> ((1 : Int32).toUInt32 &&& Int32.toUInt32 31)).toInt32) &&& 1431655765))).toUInt32 >>> ((2 : Int32).toUInt32 &&& Int32.toUInt32 31)).toInt32) &&& 858993459))).toUInt32 >>> ((4 : Int32).toUInt32 &&& Int32.toUInt32 31)).toInt32)) &&& 252645135)).toUInt32 >>> ((8 : Int32).toUInt32 &&& Int32.toUInt32 31)).toInt32)) + (((((((((x0 - ((((x0).toUInt32 >>> ((1 : Int32).toUInt32 &&& Int32.toUInt32 31)).toInt32) &&& 1431655765)) &&& 858993459) + (((((x0 - ((((x0).toUInt32 >>> ((1 : Int32).toUInt32 &&& Int32.toUInt32 31)).toInt32) &&& 1431655765))).toUInt32 >>> ((2 : Int32).toUInt32 &&& Int32.toUInt32 31)).toInt32) &&& 858993459)) + ((((((x0 - ((((x0).toUInt32 >>> ((1 : Int32).toUInt32 &&& Int32.toUInt32 31)).toInt32) &&& 1431655765)) &&& 858993459) + (((((x0 - ((((x0).toUInt32 >>> ((1 : Int32).toUInt32 &&& Int32.toUInt32 31)).toInt32) &&& 1431655765))).toUInt32 >>> ((2 : Int32).toUInt32 &&& Int32.toUInt32 31)).toInt32) &&& 858993459))).toUInt32 >>> ((4 : Int32).toUInt32 &&& Int32.toUInt32 31)).toInt32)) &&& 252645135) + ((((((((x0 - ((((x0).toUInt32 >>> ((1 : Int32).toUInt32 &&& Int32.toUInt32 31)).toInt32) &&& 1431655765)) &&& 858993459) + (((((x0 - ((((x0).toUInt32 >>> ((1 : Int32).toUInt32 &&& Int32.toUInt32 31)).toInt32) &&& 1431655765))).toUInt32 >>> ((2 : Int32).toUInt32 &&& Int32.toUInt32 31)).toInt32) &&& 858993459)) + ((((((x0 - ((((x0).toUInt32 >>> ((1 : Int32).toUInt32 &&& Int32.toUInt32 31)).toInt32) &&& 1431655765)) &&& 858993459) + (((((x0 - ((((x0).toUInt32 >>> ((1 : Int32).toUInt32 &&& Int32.toUInt32 31)).toInt32) &&& 1431655765))).toUInt32 >>> ((2 : Int32).toUInt32 &&& Int32.toUInt32 31)).toInt32) &&& 858993459))).toUInt32 >>> ((4 : Int32).toUInt32 &&& Int32.toUInt32 31)).toInt32)) &&& 252645135)).toUInt32 >>> ((8 : Int32).toUInt32 &&& Int32.toUInt32 31)).toInt32))).toUInt32 >>> ((16 : Int32).toUInt32 &&& Int32.toUInt32 31)).toInt32)) &&& 63)) hx hb hr (fun t ht hW => ⟨⟨((((((((x0 - ((((x0).toUInt32 >>> ((1 : Int32).toUInt32 &&& Int32.toUInt32 31)).toInt32) &&& 1431655765)) &&& 858993459) + (((((x0 - ((((x0).toUInt32 >>> ((1 : Int32).toUInt32 &&& Int32.toUInt32 31)).toInt32) &&& 1431655765))).toUInt32 >>> ((2 : Int32).toUInt32 &&& Int32.toUInt32 31)).toInt32) &&& 858993459)) + ((((((x0 - ((((x0).toUInt32 >>> ((1 : Int32).toUInt32 &&& Int32.toUInt32 31)).toInt32) &&& 1431655765)) &&& 858993459) + (((((x0 - ((((x0).toUInt32 >>> ((1 : Int32).toUInt32 &&& Int32.toUInt32 31)).toInt32) &&& 1431655765))).toUInt32 >>> ((2 : Int32).toUInt32 &&& Int32.toUInt32 31)).toInt32) &&& 858993459))).toUInt32 >>> ((4 : Int32).toUInt32 &&& Int32.toUInt32 31)).toInt32)) &&& 252645135) + ((((((((x0 - ((((x0).toUInt32 >>> ((1 : Int32).toUInt32 &&& Int32.toUInt32 31)).toInt32) &&& 1431655765)) &&& 858993459) + (((((x0 - ((((x0).toUInt32 >>> ((1 : Int32).toUInt32 &&& Int32.toUInt32 31)).toInt32) &&& 1431655765))).toUInt32 >>> ((2 : Int32).toUInt32 &&& Int32.toUInt32 31)).toInt32) &&& 858993459)) + ((((((x0 - ((((x0).toUInt32 >>> ((1 : Int32).toUInt32 &&& Int32.toUInt32 31)).toInt32) &&& 1431655765)) &&& 858993459) + (((((x0 - ((((x0).toUInt32 >>> ((1 : Int32).toUInt32 &&& Int32.toUInt32 31)).toInt32) &&& 1431655765))).toUInt32 >>> ((2 : Int32).toUInt32 &&& Int32.toUInt32 31)).toInt32) &&& 858993459))).toUInt32 >>> ((4 : Int32).toUInt32 &&& Int32.toUInt32 31)).toInt32)) &&& 252645135)).toUInt32 >>> ((8 : Int32).toUInt32 &&& Int32.toUInt32 31)).toInt32)) + (((((((((x0 - ((((x0).toUInt32 >>> ((1 : Int32).toUInt32 &&& Int32.toUInt32 31)).toInt32) &&& 1431655765)) &&& 858993459) + (((((x0 - ((((x0).toUInt32 >>> ((1 : Int32).toUInt32 &&& Int32.toUInt32 31)).toInt32) &&& 1431655765))).toUInt32 >>> ((2 : Int32).toUInt32 &&& Int32.toUInt32 31)).toInt32) &&& 858993459)) + ((((((x0 - ((((x0).toUInt32 >>> ((1 : Int32).toUInt32 &&& Int32.toUInt32 31)).toInt32) &&& 1431655765)) &&& 858993459) + (((((x0 - ((((x0).toUInt32 >>> ((1 : Int32).toUInt32 &&& Int32.toUInt32 31)).toInt32) &&& 1431655765))).toUInt32 >>> ((2 : Int32).toUInt32 &&& Int32.toUInt32 31)).toInt32) &&& 858993459))).toUInt32 >>> ((4 : Int32).toUInt32 &&& Int32.toUInt32 31)).toInt32)) &&& 252645135) + ((((((((x0 - ((((x0).toUInt32 >>> ((1 : Int32).toUInt32 &&& Int32.toUInt32 31)).toInt32) &&& 1431655765)) &&& 858993459) + (((((x0 - ((((x0).toUInt32 >>> ((1 : Int32).toUInt32 &&& Int32.toUInt32 31)).toInt32) &&& 1431655765))).toUInt32 >>> ((2 : Int32).toUInt32 &&& Int32.toUInt32 31)).toInt32) &&& 858993459)) + ((((((x0 - ((((x0).toUInt32 >>> ((1 : Int32).toUInt32 &&& Int32.toUInt32 31)).toInt32) &&& 1431655765)) &&& 858993459) + (((((x0 - ((((x0).toUInt32 >>> ((1 : Int32).toUInt32 &&& Int32.toUInt32 31)).toInt32) &&& 1431655765))).toUInt32 >>> ((2 : Int32).toUInt32 &&& Int32.toUInt32 31)).toInt32) &&& 858993459))).toUInt32 >>> ((4 : Int32).toUInt32 &&& Int32.toUInt32 31)).toInt32)) &&& 252645135)).toUInt32 >>> ((8 : Int32).toUInt32 &&& Int32.toUInt32 31)).toInt32))).toUInt32 >>> ((16 : Int32).toUInt32 &&& Int32.toUInt32 31)).toInt32)) &&& 63), st, rfl, ⟨(by simp only [fJ6_bitCount_0f7a4]), rfl⟩, ow_Bi ht hP⟩, hS.F ht⟩) hS.2.2 dJ6_bitCount_0f7a4_52

theorem li_X0_has_X0 : ∀ w ∈ u_ws RX0 TX0 7, w ∈ wsX0_has := by decide +kernel
theorem lk_X0_has_1 : (.fieldLink RX0 26 "RecordLabels$Kind" "size" "I" : Cond) ∈ wsX0_has := by decide +kernel
def fX0_has (st : ow_St) (k : Nat) (x1 : Int32) : Int32 := (if x1 < 0 then 0 else (if (nI (mn k)) ≤ x1 then 0 else 1))
set_option maxHeartbeats 4000000 in
set_option maxRecDepth 100000 in
theorem kX0_has (l : Launch) (D : va_G) (ca : Nat → ClassId) (ad : ow_Ad) (A : Nat → Prop) (st : ow_St) (k : Nat) (hk : k < 3) (x1 : Int32) : Met l yX0_has wsX0_has ({ frames := 0, cells := 0, slots := 0, locals := 0 }) (va_Pc [.ref (ad 1 k), .int x1] (ow_W D ca ad A st)) (va_Qi (fun r st' => r = (fX0_has st k x1) ∧ st' = st) (ow_B D ca ad) A) 0 0 A := by
  refine Met.ofW (cc := cX0_has) (maxL := 2) (ret := (some .boolean)) (by decide) rfl ?_
  intro p e s m args below meth c s₁ B hml hv
  obtain ⟨rfl, hP, hC⟩ := hv
  have hx := B.exec
  have hb := B.bytes
  have hr := B.returns
  have hts := atoms_spec (ws := wsX0_has) B.pre
  have hown : s.vm.findClass RX0 = some m.cls := findClass_of_methodNamed B.named
  have hlocks := B.notSynchronized
  have hS : va_S A s.heap s.heap [] := va_S.rf
  have hl := lv_entry ([.ref (ad 1 k), .int x1]) (n := 2) (Nat.le_of_ble_eq_true rfl)
  rw [lg_entry_eq]
  generalize (lg_sl ([.ref (ad 1 k), .int x1]) ++ List.replicate (2 - (lg_sl ([.ref (ad 1 k), .int x1])).length) Slot.unset).toArray = ls at hl ⊢
  have hl : lv_has ls 2 [(0, .ref (ad 1 k)), (1, .int x1)] := hl
  refine lv_iload_n hx hb dX0_has_0 rfl (lv_at hl 1 rfl) ?_
  refine lv_if_lt (tgt := 16) hx hb dX0_has_1 (by decide) (fun c_1 => ?_) (fun c_1 => ?_)
  · refine lv_iconst (v := 0) hx hb dX0_has_16 (by decide) ?_
    exact W.zret (v := 0) hx hb hr rfl (fun t ht hW => ⟨⟨0, st, rfl, ⟨(by simp only [fX0_has, if_pos c_1]), rfl⟩, ow_Bi ht hP⟩, hS.F ht⟩) hS.2.2 dX0_has_17
  · refine lv_iload_n hx hb dX0_has_4 rfl (lv_at hl 1 rfl) ?_
    refine lv_aload_n hx hb dX0_has_5 rfl (lv_at hl 0 rfl) ?_
    refine og_get (C := RX0) (T := TX0) (N := 7) (g := 1) (i := k) (v := .int (nI (mn k))) hx hb hts li_X0_has_X0 hown hC hP (ow_m1 hk) rfl rfl 2 (by decide) (hts _ lk_X0_has_1) rfl rfl dX0_has_6 ?_
    refine lv_icmp_ge (tgt := 16) hx hb dX0_has_9 (by decide) (fun c_2 => ?_) (fun c_2 => ?_)
    · refine lv_iconst (v := 0) hx hb dX0_has_16 (by decide) ?_
      exact W.zret (v := 0) hx hb hr rfl (fun t ht hW => ⟨⟨0, st, rfl, ⟨(by simp only [fX0_has, if_neg c_1, if_pos c_2]), rfl⟩, ow_Bi ht hP⟩, hS.F ht⟩) hS.2.2 dX0_has_17
    · refine lv_iconst (v := 1) hx hb dX0_has_12 (by decide) ?_
      refine lv_goto (tgt := 17) hx hb dX0_has_13 (by decide) ?_
      exact W.zret (v := 1) hx hb hr rfl (fun t ht hW => ⟨⟨1, st, rfl, ⟨(by simp only [fX0_has, if_neg c_1, if_neg c_2]), rfl⟩, ow_Bi ht hP⟩, hS.F ht⟩) hS.2.2 dX0_has_17

theorem has_in {st : ow_St} {k : Nat} {x : Int32} (h : ¬ fX0_has st k x = 0) : vp_in x (mn k) := by
  unfold fX0_has at h
  by_cases c1 : x < 0
  · rw [if_pos c1] at h
    exact absurd rfl h
  · rw [if_neg c1] at h
    by_cases c2 : nI (mn k) ≤ x
    · rw [if_pos c2] at h
      exact absurd rfl h
    · exact ow_in (ow_mn k) c1 c2
theorem vp_lt {x : Int32} {n : Nat} (h : vp_in x n) : x.toNatClampNeg < n := Nat.not_le.mp fun q => h (Or.inr q)

theorem li_X0_constantOf_X0 : ∀ w ∈ u_ws RX0 TX0 7, w ∈ wsX0_constantOf := by decide +kernel
theorem lk_X0_constantOf_1 : (.fieldLink RX0 29 "RecordLabels$Kind" "constants" "[I" : Cond) ∈ wsX0_constantOf := by decide +kernel
def fX0_constantOf (st : ow_St) (k : Nat) (x1 : Int32) : Int32 := (if (fX0_has st k x1) = 0 then (-1) else (st.1 (100 + 4 * k) x1.toNatClampNeg))
set_option maxHeartbeats 4000000 in
set_option maxRecDepth 100000 in
theorem kX0_constantOf (l : Launch) (D : va_G) (ca : Nat → ClassId) (ad : ow_Ad) (A : Nat → Prop) (st : ow_St) (k : Nat) (hk : k < 3) (x1 : Int32) : Met l yX0_constantOf wsX0_constantOf ({ frames := 1, cells := 0, slots := 0, locals := 21 }) (va_Pc [.ref (ad 1 k), .int x1] (ow_W D ca ad A st)) (va_Qi (fun r st' => r = (fX0_constantOf st k x1) ∧ st' = st) (ow_B D ca ad) A) 0 0 A := by
  refine Met.ofW (cc := cX0_constantOf) (maxL := 2) (ret := (some .int)) (by decide) rfl ?_
  intro p e s m args below meth c s₁ B hml hv
  obtain ⟨rfl, hP, hC⟩ := hv
  have hx := B.exec
  have hb := B.bytes
  have hr := B.returns
  have hts := atoms_spec (ws := wsX0_constantOf) B.pre
  have hown : s.vm.findClass RX0 = some m.cls := findClass_of_methodNamed B.named
  have hlocks := B.notSynchronized
  have hS : va_S A s.heap s.heap [] := va_S.rf
  have hl := lv_entry ([.ref (ad 1 k), .int x1]) (n := 2) (Nat.le_of_ble_eq_true rfl)
  rw [lg_entry_eq]
  generalize (lg_sl ([.ref (ad 1 k), .int x1]) ++ List.replicate (2 - (lg_sl ([.ref (ad 1 k), .int x1])).length) Slot.unset).toArray = ls at hl ⊢
  have hl : lv_has ls 2 [(0, .ref (ad 1 k)), (1, .int x1)] := hl
  refine lv_aload_n hx hb dX0_constantOf_0 rfl (lv_at hl 0 rfl) ?_
  refine lv_iload_n hx hb dX0_constantOf_1 rfl (lv_at hl 1 rfl) ?_
  refine og_ciP (og_runV (C := RX0) (T := TX0) (N := 7) (g := 1) (i := k) (As := [.int x1]) (rest := []) ⟨hx, hb, hml, hown, hts⟩ (kX0_has l D ca ad A st k hk x1) (cwV 1 hts gX0_constantOf_X0_has rfl rfl rfl (by decide +kernel) ⟨Nat.le_of_ble_eq_true rfl, Nat.le_of_ble_eq_true rfl⟩) hC hP hS (ow_m1 hk) rfl rfl rfl hl.1 rfl (Nat.le_of_ble_eq_true rfl) dX0_constantOf_2 ⟨Nat.zero_le _, Nat.zero_le _⟩) hS (fun H locs hP hS => ?_)
  refine lv_if_eq (tgt := 17) hx hb dX0_constantOf_5 (by decide) (fun c_1 => ?_) (fun c_1 => ?_)
  · refine lv_iconst (v := (-1)) hx hb dX0_constantOf_17 (by decide) ?_
    exact W.iret (v := (-1)) hx hb hr (fun t ht hW => ⟨⟨(-1), st, rfl, ⟨(by simp only [fX0_constantOf, if_pos c_1]), rfl⟩, ow_Bi ht hP⟩, hS.F ht⟩) hS.2.2 dX0_constantOf_18
  · refine lv_aload_n hx hb dX0_constantOf_8 rfl (lv_at hl 0 rfl) ?_
    refine og_get (C := RX0) (T := TX0) (N := 7) (g := 1) (i := k) (v := .ref (ad 2 k)) hx hb hts li_X0_constantOf_X0 hown hC hP (ow_m1 hk) rfl rfl 3 (by decide) (hts _ lk_X0_constantOf_1) rfl rfl dX0_constantOf_9 ?_
    refine lv_iload_n hx hb dX0_constantOf_12 rfl (lv_at hl 1 rfl) ?_
    refine og_iald (g := 2) (i := k) (j := x1.toNatClampNeg) (v := (st.1 (100 + 4 * k) x1.toNatClampNeg)) hx hb hC hP (ow_m2 hk) rfl (has_in c_1) rfl rfl dX0_constantOf_13 ?_
    refine lv_goto (tgt := 18) hx hb dX0_constantOf_14 (by decide) ?_
    exact W.iret (v := (st.1 (100 + 4 * k) x1.toNatClampNeg)) hx hb hr (fun t ht hW => ⟨⟨(st.1 (100 + 4 * k) x1.toNatClampNeg), st, rfl, ⟨(by simp only [fX0_constantOf, if_neg c_1]), rfl⟩, ow_Bi ht hP⟩, hS.F ht⟩) hS.2.2 dX0_constantOf_18

theorem li_X0_codeOf_X0 : ∀ w ∈ u_ws RX0 TX0 7, w ∈ wsX0_codeOf := by decide +kernel
theorem lk_X0_codeOf_1 : (.fieldLink RX0 33 "RecordLabels$Kind" "codes" "[I" : Cond) ∈ wsX0_codeOf := by decide +kernel
def fX0_codeOf (st : ow_St) (k : Nat) (x1 : Int32) : Int32 := (if (fX0_has st k x1) = 0 then (-1) else (st.1 (101 + 4 * k) x1.toNatClampNeg))
set_option maxHeartbeats 4000000 in
set_option maxRecDepth 100000 in
theorem kX0_codeOf (l : Launch) (D : va_G) (ca : Nat → ClassId) (ad : ow_Ad) (A : Nat → Prop) (st : ow_St) (k : Nat) (hk : k < 3) (x1 : Int32) : Met l yX0_codeOf wsX0_codeOf ({ frames := 1, cells := 0, slots := 0, locals := 21 }) (va_Pc [.ref (ad 1 k), .int x1] (ow_W D ca ad A st)) (va_Qi (fun r st' => r = (fX0_codeOf st k x1) ∧ st' = st) (ow_B D ca ad) A) 0 0 A := by
  refine Met.ofW (cc := cX0_codeOf) (maxL := 2) (ret := (some .int)) (by decide) rfl ?_
  intro p e s m args below meth c s₁ B hml hv
  obtain ⟨rfl, hP, hC⟩ := hv
  have hx := B.exec
  have hb := B.bytes
  have hr := B.returns
  have hts := atoms_spec (ws := wsX0_codeOf) B.pre
  have hown : s.vm.findClass RX0 = some m.cls := findClass_of_methodNamed B.named
  have hlocks := B.notSynchronized
  have hS : va_S A s.heap s.heap [] := va_S.rf
  have hl := lv_entry ([.ref (ad 1 k), .int x1]) (n := 2) (Nat.le_of_ble_eq_true rfl)
  rw [lg_entry_eq]
  generalize (lg_sl ([.ref (ad 1 k), .int x1]) ++ List.replicate (2 - (lg_sl ([.ref (ad 1 k), .int x1])).length) Slot.unset).toArray = ls at hl ⊢
  have hl : lv_has ls 2 [(0, .ref (ad 1 k)), (1, .int x1)] := hl
  refine lv_aload_n hx hb dX0_codeOf_0 rfl (lv_at hl 0 rfl) ?_
  refine lv_iload_n hx hb dX0_codeOf_1 rfl (lv_at hl 1 rfl) ?_
  refine og_ciP (og_runV (C := RX0) (T := TX0) (N := 7) (g := 1) (i := k) (As := [.int x1]) (rest := []) ⟨hx, hb, hml, hown, hts⟩ (kX0_has l D ca ad A st k hk x1) (cwV 1 hts gX0_codeOf_X0_has rfl rfl rfl (by decide +kernel) ⟨Nat.le_of_ble_eq_true rfl, Nat.le_of_ble_eq_true rfl⟩) hC hP hS (ow_m1 hk) rfl rfl rfl hl.1 rfl (Nat.le_of_ble_eq_true rfl) dX0_codeOf_2 ⟨Nat.zero_le _, Nat.zero_le _⟩) hS (fun H locs hP hS => ?_)
  refine lv_if_eq (tgt := 17) hx hb dX0_codeOf_5 (by decide) (fun c_1 => ?_) (fun c_1 => ?_)
  · refine lv_iconst (v := (-1)) hx hb dX0_codeOf_17 (by decide) ?_
    exact W.iret (v := (-1)) hx hb hr (fun t ht hW => ⟨⟨(-1), st, rfl, ⟨(by simp only [fX0_codeOf, if_pos c_1]), rfl⟩, ow_Bi ht hP⟩, hS.F ht⟩) hS.2.2 dX0_codeOf_18
  · refine lv_aload_n hx hb dX0_codeOf_8 rfl (lv_at hl 0 rfl) ?_
    refine og_get (C := RX0) (T := TX0) (N := 7) (g := 1) (i := k) (v := .ref (ad 3 k)) hx hb hts li_X0_codeOf_X0 hown hC hP (ow_m1 hk) rfl rfl 4 (by decide) (hts _ lk_X0_codeOf_1) rfl rfl dX0_codeOf_9 ?_
    refine lv_iload_n hx hb dX0_codeOf_12 rfl (lv_at hl 1 rfl) ?_
    refine og_iald (g := 3) (i := k) (j := x1.toNatClampNeg) (v := (st.1 (101 + 4 * k) x1.toNatClampNeg)) hx hb hC hP (ow_m3 hk) rfl (has_in c_1) rfl rfl dX0_codeOf_13 ?_
    refine lv_goto (tgt := 18) hx hb dX0_codeOf_14 (by decide) ?_
    exact W.iret (v := (st.1 (101 + 4 * k) x1.toNatClampNeg)) hx hb hr (fun t ht hW => ⟨⟨(st.1 (101 + 4 * k) x1.toNatClampNeg), st, rfl, ⟨(by simp only [fX0_codeOf, if_neg c_1]), rfl⟩, ow_Bi ht hP⟩, hS.F ht⟩) hS.2.2 dX0_codeOf_18

theorem li_X0_constantNamed_X0 : ∀ w ∈ u_ws RX0 TX0 7, w ∈ wsX0_constantNamed := by decide +kernel
theorem lk_X0_constantNamed_1 : (.fieldLink RX0 26 "RecordLabels$Kind" "size" "I" : Cond) ∈ wsX0_constantNamed := by decide +kernel
theorem lk_X0_constantNamed_2 : (.fieldLink RX0 22 "RecordLabels$Kind" "names" "[J" : Cond) ∈ wsX0_constantNamed := by decide +kernel
def flX0_constantNamed (st : ow_St) (k : Nat) (x1 : Int64) : Nat → Nat → Int32
  | 0, _ => 0
  | n + 1, i => (if (nI (mn k)) ≤ (nI i) then (-1) else (if (lg_cmp (ow_nm k i) x1) = 0 then (nI i) else (flX0_constantNamed st k x1 n (i + 1)  )))
def fX0_constantNamed (st : ow_St) (k : Nat) (x1 : Int64) : Int32 := (flX0_constantNamed st k x1 ((mn k) + 1) 0  )
set_option maxHeartbeats 4000000 in
set_option maxRecDepth 100000 in
theorem kX0_constantNamed (l : Launch) (D : va_G) (ca : Nat → ClassId) (ad : ow_Ad) (A : Nat → Prop) (st : ow_St) (k : Nat) (hk : k < 3) (x1 : Int64) : Met l yX0_constantNamed wsX0_constantNamed ({ frames := 0, cells := 0, slots := 0, locals := 0 }) (va_Pc [.ref (ad 1 k), .long x1] (ow_W D ca ad A st)) (va_Qi (fun r st' => r = (fX0_constantNamed st k x1) ∧ st' = st) (ow_B D ca ad) A) 0 0 A := by
  refine Met.ofW (cc := cX0_constantNamed) (maxL := 4) (ret := (some .int)) (by decide) rfl ?_
  intro p e s m args below meth c s₁ B hml hv
  obtain ⟨rfl, hP, hC⟩ := hv
  have hx := B.exec
  have hb := B.bytes
  have hr := B.returns
  have hts := atoms_spec (ws := wsX0_constantNamed) B.pre
  have hown : s.vm.findClass RX0 = some m.cls := findClass_of_methodNamed B.named
  have hlocks := B.notSynchronized
  have hS : va_S A s.heap s.heap [] := va_S.rf
  have hl := lv_entry ([.ref (ad 1 k), .long x1]) (n := 4) (Nat.le_of_ble_eq_true rfl)
  rw [lg_entry_eq]
  generalize (lg_sl ([.ref (ad 1 k), .long x1]) ++ List.replicate (4 - (lg_sl ([.ref (ad 1 k), .long x1])).length) Slot.unset).toArray = ls at hl ⊢
  have hl : lv_has ls 4 [(0, .ref (ad 1 k)), (1, .long x1)] := hl
  refine lv_iconst (v := 0) hx hb dX0_constantNamed_0 (by decide) ?_
  refine lv_istore_n (lv' := [(3, .int 0), (0, .ref (ad 1 k)), (1, .long x1)]) hx hb dX0_constantNamed_1 rfl hl (by decide) rfl (fun ls hl => ?_)
  have loop : ∀ (n i : Nat) (H : Heap) (locs : List Loc) (ls : Array Slot), i ≤ (mn k) → (mn k) < i + n → flX0_constantNamed st k x1 n i = (fX0_constantNamed st k x1) → va_P D vwCl (ow_ws ad (ow_c ca ad st)) H → va_S A s.heap H locs → lv_has ls 4 [(3, .int (nI i)), (0, .ref (ad 1 k)), (1, .long x1)] → W p l e (headSpec wsX0_constantNamed ({ frames := 0, cells := 0, slots := 0, locals := 0 } : Room)).room s m ([.ref (ad 1 k), .long x1] : List Value).toArray below meth c H locs 0 0 (MQ below (va_Qi (fun r st' => r = (fX0_constantNamed st k x1) ∧ st' = st) (ow_B D ca ad) A) ([.ref (ad 1 k), .long x1] : List Value).toArray s 0 0 A) (F0 m 2 ls []) := by
    intro n
    induction n with
    | zero => intro i H locs ls h1 h2; exact absurd h2 (by omega)
    | succ n ih =>
      intro i H locs ls hle hlt  heq hP hS hl
      have hi31 : i < 2 ^ 31 := Nat.lt_of_le_of_lt hle (ow_mn k)
      refine lv_iload_n hx hb dX0_constantNamed_2 rfl (lv_at hl 0 rfl) ?_
      refine lv_aload_n hx hb dX0_constantNamed_3 rfl (lv_at hl 1 rfl) ?_
      refine og_get (C := RX0) (T := TX0) (N := 7) (g := 1) (i := k) (v := .int (nI (mn k))) hx hb hts li_X0_constantNamed_X0 hown hC hP (ow_m1 hk) rfl rfl 2 (by decide) (hts _ lk_X0_constantNamed_1) rfl rfl dX0_constantNamed_4 ?_
      refine lv_icmp_ge (tgt := 29) hx hb dX0_constantNamed_7 (by decide) (fun c_1 => ?_) (fun c_1 => ?_)
      · refine lv_iconst (v := (-1)) hx hb dX0_constantNamed_29 (by decide) ?_
        exact W.iret (v := (-1)) hx hb hr (fun t ht hW => ⟨⟨(-1), st, rfl, ⟨(by rw [← heq]; simp only [flX0_constantNamed, if_pos c_1]), rfl⟩, ow_Bi ht hP⟩, hS.F ht⟩) hS.2.2 dX0_constantNamed_30
      · refine lv_aload_n hx hb dX0_constantNamed_10 rfl (lv_at hl 1 rfl) ?_
        refine og_get (C := RX0) (T := TX0) (N := 7) (g := 1) (i := k) (v := .ref (ad 12 k)) hx hb hts li_X0_constantNamed_X0 hown hC hP (ow_m1 hk) rfl rfl 1 (by decide) (hts _ lk_X0_constantNamed_2) rfl rfl dX0_constantNamed_11 ?_
        refine lv_iload_n hx hb dX0_constantNamed_14 rfl (lv_at hl 0 rfl) ?_
        refine va_tl (v := .long (ow_nm k i)) hx hb (hC.2.2.2.2.1 k hk) hS (vp_in_nI (ow_lt c_1 hle (ow_mn k)) (ow_mn k)) (by rw [(nI_clamp hi31)]) dX0_constantNamed_15 ?_
        refine lv_lload_n hx hb dX0_constantNamed_16 rfl (lv_at hl 2 rfl) ?_
        refine W.lcmp hx hb dX0_constantNamed_17 ?_
        refine lv_if_ne (tgt := 23) hx hb dX0_constantNamed_18 (by decide) (fun c_2 => ?_) (fun c_2 => ?_)
        · refine lv_iinc (v := (nI (i + 1))) (lv' := [(3, .int (nI (i + 1))), (0, .ref (ad 1 k)), (1, .long x1)]) hx hb dX0_constantNamed_23 hl (k := 0) rfl (nI_1 _) (by decide) rfl (fun ls hl => ?_)
          refine lv_goto (tgt := 2) hx hb dX0_constantNamed_26 (by decide) ?_
          exact ih (i + 1)   _ _ _ (ow_lt c_1 hle (ow_mn k)) (by omega)  (by rw [← heq]; simp only [flX0_constantNamed, if_neg c_1, if_neg c_2]) hP hS (lv_sub hl [0, 1, 2] rfl)
        · refine lv_iload_n hx hb dX0_constantNamed_21 rfl (lv_at hl 0 rfl) ?_
          exact W.iret (v := (nI i)) hx hb hr (fun t ht hW => ⟨⟨(nI i), st, rfl, ⟨(by rw [← heq]; simp only [flX0_constantNamed, if_neg c_1, if_pos c_2]), rfl⟩, ow_Bi ht hP⟩, hS.F ht⟩) hS.2.2 dX0_constantNamed_22
  exact loop ((mn k) + 1) 0   _ _ _ (Nat.zero_le _) (by omega)  (by simp only [fX0_constantNamed]) hP hS (lv_sub hl [0, 1, 2] rfl)

theorem ex_in {st : ow_St} {k a b : Nat} (hv : ∀ j, j < mn k → vp_in (st.1 (100 + 4 * k) j) (mn k)) (ha : a < mn k) (hb : b < mn k) {j : Nat} (hj : j < mn k) : vp_in ((ow_si (ow_si st (100 + 4 * k) a (st.1 (100 + 4 * k) b)) (100 + 4 * k) b ((st.1 (100 + 4 * k) a))).1 (100 + 4 * k) j) (mn k) := by
  by_cases h : j = b
  · subst h
    rw [ow_si_e]
    exact hv _ ha
  · rw [ow_si_n2 (by omega)]
    by_cases h2 : j = a
    · subst h2
      rw [ow_si_e]
      exact hv _ hb
    · rw [ow_si_n2 (by omega)]
      exact hv _ hj

theorem li_X0_exchange_X0 : ∀ w ∈ u_ws RX0 TX0 7, w ∈ wsX0_exchange := by decide +kernel
theorem lk_X0_exchange_1 : (.fieldLink RX0 29 "RecordLabels$Kind" "constants" "[I" : Cond) ∈ wsX0_exchange := by decide +kernel
theorem lk_X0_exchange_2 : (.fieldLink RX0 33 "RecordLabels$Kind" "codes" "[I" : Cond) ∈ wsX0_exchange := by decide +kernel
def fX0_exchange (st : ow_St) (k : Nat) (x1 x2 : Int32) : ow_St := (if (fX0_has st k x1) = 0 then st else (if (fX0_has st k x2) = 0 then st else (let st3 := (ow_si st (100 + 4 * k) x1.toNatClampNeg (st.1 (100 + 4 * k) x2.toNatClampNeg)); (let st4 := (ow_si st3 (100 + 4 * k) x2.toNatClampNeg (st.1 (100 + 4 * k) x1.toNatClampNeg)); (let st5 := (ow_si st4 (101 + 4 * k) ((st4.1 (100 + 4 * k) x1.toNatClampNeg).toNatClampNeg) x1); (let st6 := (ow_si st5 (101 + 4 * k) ((st5.1 (100 + 4 * k) x2.toNatClampNeg).toNatClampNeg) x2); st6))))))
set_option maxHeartbeats 4000000 in
set_option maxRecDepth 100000 in
theorem kX0_exchange (l : Launch) (D : va_G) (ca : Nat → ClassId) (ad : ow_Ad) (A : Nat → Prop) (st : ow_St) (k : Nat) (hk : k < 3) (x1 : Int32) (x2 : Int32) (hv : ∀ j, j < mn k → vp_in (st.1 (100 + 4 * k) j) (mn k)) : Met l yX0_exchange wsX0_exchange ({ frames := 1, cells := 0, slots := 0, locals := 21 }) (va_Pc [.ref (ad 1 k), .int x1, .int x2] (ow_W D ca ad A st)) (va_Qv (fun st' => st' = (fX0_exchange st k x1 x2)) (ow_B D ca ad) A) 0 0 A := by
  refine Met.ofW (cc := cX0_exchange) (maxL := 4) (ret := none) (by decide) rfl ?_
  intro p e s m args below meth c s₁ B hml hv
  obtain ⟨rfl, hP, hC⟩ := hv
  have hx := B.exec
  have hb := B.bytes
  have hr := B.returns
  have hts := atoms_spec (ws := wsX0_exchange) B.pre
  have hown : s.vm.findClass RX0 = some m.cls := findClass_of_methodNamed B.named
  have hlocks := B.notSynchronized
  have hS : va_S A s.heap s.heap [] := va_S.rf
  have hl := lv_entry ([.ref (ad 1 k), .int x1, .int x2]) (n := 4) (Nat.le_of_ble_eq_true rfl)
  rw [lg_entry_eq]
  generalize (lg_sl ([.ref (ad 1 k), .int x1, .int x2]) ++ List.replicate (4 - (lg_sl ([.ref (ad 1 k), .int x1, .int x2])).length) Slot.unset).toArray = ls at hl ⊢
  have hl : lv_has ls 4 [(0, .ref (ad 1 k)), (1, .int x1), (2, .int x2)] := hl
  refine lv_aload_n hx hb dX0_exchange_0 rfl (lv_at hl 0 rfl) ?_
  refine lv_iload_n hx hb dX0_exchange_1 rfl (lv_at hl 1 rfl) ?_
  refine og_ciP (og_runV (C := RX0) (T := TX0) (N := 7) (g := 1) (i := k) (As := [.int x1]) (rest := []) ⟨hx, hb, hml, hown, hts⟩ (kX0_has l D ca ad A st k hk x1) (cwV 1 hts gX0_exchange_X0_has rfl rfl rfl (by decide +kernel) ⟨Nat.le_of_ble_eq_true rfl, Nat.le_of_ble_eq_true rfl⟩) hC hP hS (ow_m1 hk) rfl rfl rfl hl.1 rfl (Nat.le_of_ble_eq_true rfl) dX0_exchange_2 ⟨Nat.zero_le _, Nat.zero_le _⟩) hS (fun H locs hP hS => ?_)
  refine lv_if_eq (tgt := 16) hx hb dX0_exchange_5 (by decide) (fun c_1 => ?_) (fun c_1 => ?_)
  · exact W.vret hx hb hr (fun t ht hW => ⟨⟨st, rfl, (by simp only [fX0_exchange, if_pos c_1]), ow_Bi ht hP⟩, hS.F ht⟩) hS.2.2 dX0_exchange_16
  · refine lv_aload_n hx hb dX0_exchange_8 rfl (lv_at hl 0 rfl) ?_
    refine lv_iload_n hx hb dX0_exchange_9 rfl (lv_at hl 2 rfl) ?_
    refine og_ciP (og_runV (C := RX0) (T := TX0) (N := 7) (g := 1) (i := k) (As := [.int x2]) (rest := []) ⟨hx, hb, hml, hown, hts⟩ (kX0_has l D ca ad A st k hk x2) (cwV 1 hts gX0_exchange_X0_has rfl rfl rfl (by decide +kernel) ⟨Nat.le_of_ble_eq_true rfl, Nat.le_of_ble_eq_true rfl⟩) hC hP hS (ow_m1 hk) rfl rfl rfl hl.1 rfl (Nat.le_of_ble_eq_true rfl) dX0_exchange_10 ⟨Nat.zero_le _, Nat.zero_le _⟩) hS (fun H locs hP hS => ?_)
    refine lv_if_ne (tgt := 17) hx hb dX0_exchange_13 (by decide) (fun c_2 => ?_) (fun c_2 => ?_)
    · refine lv_aload_n hx hb dX0_exchange_17 rfl (lv_at hl 0 rfl) ?_
      refine og_get (C := RX0) (T := TX0) (N := 7) (g := 1) (i := k) (v := .ref (ad 2 k)) hx hb hts li_X0_exchange_X0 hown hC hP (ow_m1 hk) rfl rfl 3 (by decide) (hts _ lk_X0_exchange_1) rfl rfl dX0_exchange_18 ?_
      refine lv_iload_n hx hb dX0_exchange_21 rfl (lv_at hl 1 rfl) ?_
      refine og_iald (g := 2) (i := k) (j := x1.toNatClampNeg) (v := (st.1 (100 + 4 * k) x1.toNatClampNeg)) hx hb hC hP (ow_m2 hk) rfl (has_in c_1) rfl rfl dX0_exchange_22 ?_
      refine lv_istore_n (lv' := [(3, .int (st.1 (100 + 4 * k) x1.toNatClampNeg)), (0, .ref (ad 1 k)), (1, .int x1), (2, .int x2)]) hx hb dX0_exchange_23 rfl hl (by decide) rfl (fun ls hl => ?_)
      refine lv_aload_n hx hb dX0_exchange_24 rfl (lv_at hl 1 rfl) ?_
      refine og_get (C := RX0) (T := TX0) (N := 7) (g := 1) (i := k) (v := .ref (ad 2 k)) hx hb hts li_X0_exchange_X0 hown hC hP (ow_m1 hk) rfl rfl 3 (by decide) (hts _ lk_X0_exchange_1) rfl rfl dX0_exchange_25 ?_
      refine lv_iload_n hx hb dX0_exchange_28 rfl (lv_at hl 2 rfl) ?_
      refine lv_aload_n hx hb dX0_exchange_29 rfl (lv_at hl 1 rfl) ?_
      refine og_get (C := RX0) (T := TX0) (N := 7) (g := 1) (i := k) (v := .ref (ad 2 k)) hx hb hts li_X0_exchange_X0 hown hC hP (ow_m1 hk) rfl rfl 3 (by decide) (hts _ lk_X0_exchange_1) rfl rfl dX0_exchange_30 ?_
      refine lv_iload_n hx hb dX0_exchange_33 rfl (lv_at hl 3 rfl) ?_
      refine og_iald (g := 2) (i := k) (j := x2.toNatClampNeg) (v := (st.1 (100 + 4 * k) x2.toNatClampNeg)) hx hb hC hP (ow_m2 hk) rfl (has_in c_2) rfl rfl dX0_exchange_34 ?_
      refine og_iast (g := 2) (i := k) (j := x1.toNatClampNeg) (v := (st.1 (100 + 4 * k) x2.toNatClampNeg)) hx hb hC hP hS (ow_m2 hk) rfl (has_in c_1) rfl (we_2 st k x1.toNatClampNeg (st.1 (100 + 4 * k) x2.toNatClampNeg)) dX0_exchange_35 (fun H locs hP hS => ?_)
      obtain ⟨st3, e3⟩ : ∃ z, z = (ow_si st (100 + 4 * k) x1.toNatClampNeg (st.1 (100 + 4 * k) x2.toNatClampNeg)) := ⟨_, rfl⟩
      rw [← e3] at hP
      refine lv_aload_n hx hb dX0_exchange_36 rfl (lv_at hl 1 rfl) ?_
      refine og_get (C := RX0) (T := TX0) (N := 7) (g := 1) (i := k) (v := .ref (ad 2 k)) hx hb hts li_X0_exchange_X0 hown hC hP (ow_m1 hk) rfl rfl 3 (by decide) (hts _ lk_X0_exchange_1) rfl rfl dX0_exchange_37 ?_
      refine lv_iload_n hx hb dX0_exchange_40 rfl (lv_at hl 3 rfl) ?_
      refine lv_iload_n hx hb dX0_exchange_41 rfl (lv_at hl 0 rfl) ?_
      refine og_iast (g := 2) (i := k) (j := x2.toNatClampNeg) (v := (st.1 (100 + 4 * k) x1.toNatClampNeg)) hx hb hC hP hS (ow_m2 hk) rfl (has_in c_2) rfl (we_2 st3 k x2.toNatClampNeg (st.1 (100 + 4 * k) x1.toNatClampNeg)) dX0_exchange_42 (fun H locs hP hS => ?_)
      obtain ⟨st4, e4⟩ : ∃ z, z = (ow_si st3 (100 + 4 * k) x2.toNatClampNeg (st.1 (100 + 4 * k) x1.toNatClampNeg)) := ⟨_, rfl⟩
      rw [← e4] at hP
      refine lv_aload_n hx hb dX0_exchange_43 rfl (lv_at hl 1 rfl) ?_
      refine og_get (C := RX0) (T := TX0) (N := 7) (g := 1) (i := k) (v := .ref (ad 3 k)) hx hb hts li_X0_exchange_X0 hown hC hP (ow_m1 hk) rfl rfl 4 (by decide) (hts _ lk_X0_exchange_2) rfl rfl dX0_exchange_44 ?_
      refine lv_aload_n hx hb dX0_exchange_47 rfl (lv_at hl 1 rfl) ?_
      refine og_get (C := RX0) (T := TX0) (N := 7) (g := 1) (i := k) (v := .ref (ad 2 k)) hx hb hts li_X0_exchange_X0 hown hC hP (ow_m1 hk) rfl rfl 3 (by decide) (hts _ lk_X0_exchange_1) rfl rfl dX0_exchange_48 ?_
      refine lv_iload_n hx hb dX0_exchange_51 rfl (lv_at hl 2 rfl) ?_
      refine og_iald (g := 2) (i := k) (j := x1.toNatClampNeg) (v := (st4.1 (100 + 4 * k) x1.toNatClampNeg)) hx hb hC hP (ow_m2 hk) rfl (has_in c_1) rfl rfl dX0_exchange_52 ?_
      refine lv_iload_n hx hb dX0_exchange_53 rfl (lv_at hl 2 rfl) ?_
      refine og_iast (g := 3) (i := k) (j := ((st4.1 (100 + 4 * k) x1.toNatClampNeg).toNatClampNeg)) (v := x1) hx hb hC hP hS (ow_m3 hk) rfl (by subst e4; subst e3; exact ex_in hv (vp_lt (has_in c_1)) (vp_lt (has_in c_2)) (vp_lt (has_in c_1))) rfl (we_3 st4 k ((st4.1 (100 + 4 * k) x1.toNatClampNeg).toNatClampNeg) x1) dX0_exchange_54 (fun H locs hP hS => ?_)
      obtain ⟨st5, e5⟩ : ∃ z, z = (ow_si st4 (101 + 4 * k) ((st4.1 (100 + 4 * k) x1.toNatClampNeg).toNatClampNeg) x1) := ⟨_, rfl⟩
      rw [← e5] at hP
      refine lv_aload_n hx hb dX0_exchange_55 rfl (lv_at hl 1 rfl) ?_
      refine og_get (C := RX0) (T := TX0) (N := 7) (g := 1) (i := k) (v := .ref (ad 3 k)) hx hb hts li_X0_exchange_X0 hown hC hP (ow_m1 hk) rfl rfl 4 (by decide) (hts _ lk_X0_exchange_2) rfl rfl dX0_exchange_56 ?_
      refine lv_aload_n hx hb dX0_exchange_59 rfl (lv_at hl 1 rfl) ?_
      refine og_get (C := RX0) (T := TX0) (N := 7) (g := 1) (i := k) (v := .ref (ad 2 k)) hx hb hts li_X0_exchange_X0 hown hC hP (ow_m1 hk) rfl rfl 3 (by decide) (hts _ lk_X0_exchange_1) rfl rfl dX0_exchange_60 ?_
      refine lv_iload_n hx hb dX0_exchange_63 rfl (lv_at hl 3 rfl) ?_
      refine og_iald (g := 2) (i := k) (j := x2.toNatClampNeg) (v := (st5.1 (100 + 4 * k) x2.toNatClampNeg)) hx hb hC hP (ow_m2 hk) rfl (has_in c_2) rfl rfl dX0_exchange_64 ?_
      refine lv_iload_n hx hb dX0_exchange_65 rfl (lv_at hl 3 rfl) ?_
      refine og_iast (g := 3) (i := k) (j := ((st5.1 (100 + 4 * k) x2.toNatClampNeg).toNatClampNeg)) (v := x2) hx hb hC hP hS (ow_m3 hk) rfl (by subst e5; subst e4; subst e3; rw [ow_si_ne (by omega)]; exact ex_in hv (vp_lt (has_in c_1)) (vp_lt (has_in c_2)) (vp_lt (has_in c_2))) rfl (we_3 st5 k ((st5.1 (100 + 4 * k) x2.toNatClampNeg).toNatClampNeg) x2) dX0_exchange_66 (fun H locs hP hS => ?_)
      obtain ⟨st6, e6⟩ : ∃ z, z = (ow_si st5 (101 + 4 * k) ((st5.1 (100 + 4 * k) x2.toNatClampNeg).toNatClampNeg) x2) := ⟨_, rfl⟩
      rw [← e6] at hP
      exact W.vret hx hb hr (fun t ht hW => ⟨⟨st6, rfl, (by subst e6; subst e5; subst e4; subst e3; simp only [fX0_exchange, if_neg c_1, if_neg c_2]), ow_Bi ht hP⟩, hS.F ht⟩) hS.2.2 dX0_exchange_67
    · exact W.vret hx hb hr (fun t ht hW => ⟨⟨st, rfl, (by simp only [fX0_exchange, if_neg c_1, if_pos c_2]), ow_Bi ht hP⟩, hS.F ht⟩) hS.2.2 dX0_exchange_16

theorem li_X0_startForRule_X0 : ∀ w ∈ u_ws RX0 TX0 7, w ∈ wsX0_startForRule := by decide +kernel
theorem lk_X0_startForRule_1 : (.fieldLink RX0 9 "RecordLabels$Kind" "start" "I" : Cond) ∈ wsX0_startForRule := by decide +kernel
theorem lk_X0_startForRule_2 : (.fieldLink RX0 15 "RecordLabels$Kind" "toldToFail" "Z" : Cond) ∈ wsX0_startForRule := by decide +kernel
def fX0_startForRule (st : ow_St) (k : Nat) : Int32 × ow_St := (if (st.1 1 k) = 2 then ((-9), st) else (if (st.1 1 k) = 0 then (if (st.1 2 k) = 0 then (let st4 := (ow_si st 1 k 1); (1, st4)) else (let st5 := (ow_si st 1 k 2); ((-8), st5))) else (let st6 := (ow_si st 1 k 1); (1, st6))))
set_option maxHeartbeats 4000000 in
set_option maxRecDepth 100000 in
theorem kX0_startForRule (l : Launch) (D : va_G) (ca : Nat → ClassId) (ad : ow_Ad) (A : Nat → Prop) (st : ow_St) (k : Nat) (hk : k < 3)  : Met l yX0_startForRule wsX0_startForRule ({ frames := 0, cells := 0, slots := 0, locals := 0 }) (va_Pc [.ref (ad 1 k)] (ow_W D ca ad A st)) (va_Qi (fun r st' => (r, st') = (fX0_startForRule st k)) (ow_B D ca ad) A) 0 0 A := by
  refine Met.ofW (cc := cX0_startForRule) (maxL := 1) (ret := (some .int)) (by decide) rfl ?_
  intro p e s m args below meth c s₁ B hml hv
  obtain ⟨rfl, hP, hC⟩ := hv
  have hx := B.exec
  have hb := B.bytes
  have hr := B.returns
  have hts := atoms_spec (ws := wsX0_startForRule) B.pre
  have hown : s.vm.findClass RX0 = some m.cls := findClass_of_methodNamed B.named
  have hlocks := B.notSynchronized
  have hS : va_S A s.heap s.heap [] := va_S.rf
  have hl := lv_entry ([.ref (ad 1 k)]) (n := 1) (Nat.le_of_ble_eq_true rfl)
  rw [lg_entry_eq]
  generalize (lg_sl ([.ref (ad 1 k)]) ++ List.replicate (1 - (lg_sl ([.ref (ad 1 k)])).length) Slot.unset).toArray = ls at hl ⊢
  have hl : lv_has ls 1 [(0, .ref (ad 1 k))] := hl
  refine lv_aload_n hx hb dX0_startForRule_0 rfl (lv_at hl 0 rfl) ?_
  refine og_get (C := RX0) (T := TX0) (N := 7) (g := 1) (i := k) (v := .int (st.1 1 k)) hx hb hts li_X0_startForRule_X0 hown hC hP (ow_m1 hk) rfl rfl 5 (by decide) (hts _ lk_X0_startForRule_1) rfl rfl dX0_startForRule_1 ?_
  refine lv_iconst (v := 2) hx hb dX0_startForRule_4 (by decide) ?_
  refine lv_icmp_ne (tgt := 11) hx hb dX0_startForRule_5 (by decide) (fun c_1 => ?_) (fun c_1 => ?_)
  · refine lv_aload_n hx hb dX0_startForRule_11 rfl (lv_at hl 0 rfl) ?_
    refine og_get (C := RX0) (T := TX0) (N := 7) (g := 1) (i := k) (v := .int (st.1 1 k)) hx hb hts li_X0_startForRule_X0 hown hC hP (ow_m1 hk) rfl rfl 5 (by decide) (hts _ lk_X0_startForRule_1) rfl rfl dX0_startForRule_12 ?_
    refine lv_if_ne (tgt := 33) hx hb dX0_startForRule_15 (by decide) (fun c_2 => ?_) (fun c_2 => ?_)
    · refine lv_aload_n hx hb dX0_startForRule_33 rfl (lv_at hl 0 rfl) ?_
      refine lv_iconst (v := 1) hx hb dX0_startForRule_34 (by decide) ?_
      refine og_put (C := RX0) (T := TX0) (N := 7) (g := 1) (i := k) (v := .int 1) (ty := .int) hx hb hts li_X0_startForRule_X0 tyX0 tyX0_ok nmX0 hown hC hP hS (ow_m1 hk) rfl rfl 5 (by decide) (hts _ lk_X0_startForRule_1) rfl rfl (by decide +kernel) rfl rfl (Nat.le_of_ble_eq_true rfl) (we_1_1 st k 1) dX0_startForRule_35 (fun H locs hP hS => ?_)
      obtain ⟨st6, e6⟩ : ∃ z, z = (ow_si st 1 k 1) := ⟨_, rfl⟩
      rw [← e6] at hP
      refine lv_iconst (v := 1) hx hb dX0_startForRule_38 (by decide) ?_
      exact W.iret (v := 1) hx hb hr (fun t ht hW => ⟨⟨1, st6, rfl, (by subst e6; simp only [fX0_startForRule, if_neg c_1, if_neg c_2]), ow_Bi ht hP⟩, hS.F ht⟩) hS.2.2 dX0_startForRule_39
    · refine lv_aload_n hx hb dX0_startForRule_18 rfl (lv_at hl 0 rfl) ?_
      refine og_get (C := RX0) (T := TX0) (N := 7) (g := 1) (i := k) (v := .int (st.1 2 k)) hx hb hts li_X0_startForRule_X0 hown hC hP (ow_m1 hk) rfl rfl 6 (by decide) (hts _ lk_X0_startForRule_2) rfl rfl dX0_startForRule_19 ?_
      refine lv_if_eq (tgt := 33) hx hb dX0_startForRule_22 (by decide) (fun c_3 => ?_) (fun c_3 => ?_)
      · refine lv_aload_n hx hb dX0_startForRule_33 rfl (lv_at hl 0 rfl) ?_
        refine lv_iconst (v := 1) hx hb dX0_startForRule_34 (by decide) ?_
        refine og_put (C := RX0) (T := TX0) (N := 7) (g := 1) (i := k) (v := .int 1) (ty := .int) hx hb hts li_X0_startForRule_X0 tyX0 tyX0_ok nmX0 hown hC hP hS (ow_m1 hk) rfl rfl 5 (by decide) (hts _ lk_X0_startForRule_1) rfl rfl (by decide +kernel) rfl rfl (Nat.le_of_ble_eq_true rfl) (we_1_1 st k 1) dX0_startForRule_35 (fun H locs hP hS => ?_)
        obtain ⟨st4, e4⟩ : ∃ z, z = (ow_si st 1 k 1) := ⟨_, rfl⟩
        rw [← e4] at hP
        refine lv_iconst (v := 1) hx hb dX0_startForRule_38 (by decide) ?_
        exact W.iret (v := 1) hx hb hr (fun t ht hW => ⟨⟨1, st4, rfl, (by subst e4; simp only [fX0_startForRule, if_neg c_1, if_pos c_2, if_pos c_3]), ow_Bi ht hP⟩, hS.F ht⟩) hS.2.2 dX0_startForRule_39
      · refine lv_aload_n hx hb dX0_startForRule_25 rfl (lv_at hl 0 rfl) ?_
        refine lv_iconst (v := 2) hx hb dX0_startForRule_26 (by decide) ?_
        refine og_put (C := RX0) (T := TX0) (N := 7) (g := 1) (i := k) (v := .int 2) (ty := .int) hx hb hts li_X0_startForRule_X0 tyX0 tyX0_ok nmX0 hown hC hP hS (ow_m1 hk) rfl rfl 5 (by decide) (hts _ lk_X0_startForRule_1) rfl rfl (by decide +kernel) rfl rfl (Nat.le_of_ble_eq_true rfl) (we_1_1 st k 2) dX0_startForRule_27 (fun H locs hP hS => ?_)
        obtain ⟨st5, e5⟩ : ∃ z, z = (ow_si st 1 k 2) := ⟨_, rfl⟩
        rw [← e5] at hP
        refine lv_bipush (v := (-8)) hx hb dX0_startForRule_30 (by decide) ?_
        exact W.iret (v := (-8)) hx hb hr (fun t ht hW => ⟨⟨(-8), st5, rfl, (by subst e5; simp only [fX0_startForRule, if_neg c_1, if_pos c_2, if_neg c_3]), ow_Bi ht hP⟩, hS.F ht⟩) hS.2.2 dX0_startForRule_32
  · refine lv_bipush (v := (-9)) hx hb dX0_startForRule_8 (by decide) ?_
    exact W.iret (v := (-9)) hx hb hr (fun t ht hW => ⟨⟨(-9), st, rfl, (by simp only [fX0_startForRule, if_pos c_1]), ow_Bi ht hP⟩, hS.F ht⟩) hS.2.2 dX0_startForRule_10

theorem li_X1_size_X1 : ∀ w ∈ u_ws RX1 TX1 2, w ∈ wsX1_size := by decide +kernel
theorem lk_X1_size_1 : (.fieldLink RX1 7 "RecordLabels$LabelSet" "members" "I" : Cond) ∈ wsX1_size := by decide +kernel
def fX1_size (st : ow_St) (i : Nat) : Int32 := (fJ6_bitCount_0f7a4 st (st.1 3 i))
set_option maxHeartbeats 4000000 in
set_option maxRecDepth 100000 in
theorem kX1_size (l : Launch) (D : va_G) (ca : Nat → ClassId) (ad : ow_Ad) (A : Nat → Prop) (st : ow_St) (i : Nat) (hi : i < 10) : Met l yX1_size wsX1_size ({ frames := 1, cells := 0, slots := 0, locals := 20 }) (va_Pc [.ref (ad 5 i)] (ow_W D ca ad A st)) (va_Qi (fun r st' => r = (fX1_size st i) ∧ st' = st) (ow_B D ca ad) A) 0 0 A := by
  refine Met.ofW (cc := cX1_size) (maxL := 1) (ret := (some .int)) (by decide) rfl ?_
  intro p e s m args below meth c s₁ B hml hv
  obtain ⟨rfl, hP, hC⟩ := hv
  have hx := B.exec
  have hb := B.bytes
  have hr := B.returns
  have hts := atoms_spec (ws := wsX1_size) B.pre
  have hown : s.vm.findClass RX1 = some m.cls := findClass_of_methodNamed B.named
  have hlocks := B.notSynchronized
  have hS : va_S A s.heap s.heap [] := va_S.rf
  have hl := lv_entry ([.ref (ad 5 i)]) (n := 1) (Nat.le_of_ble_eq_true rfl)
  rw [lg_entry_eq]
  generalize (lg_sl ([.ref (ad 5 i)]) ++ List.replicate (1 - (lg_sl ([.ref (ad 5 i)])).length) Slot.unset).toArray = ls at hl ⊢
  have hl : lv_has ls 1 [(0, .ref (ad 5 i))] := hl
  refine lv_aload_n hx hb dX1_size_0 rfl (lv_at hl 0 rfl) ?_
  refine og_get (C := RX1) (T := TX1) (N := 2) (g := 5) (i := i) (v := .int (st.1 3 i)) hx hb hts li_X1_size_X1 hown hC hP (ow_m5 hi) rfl rfl 1 (by decide) (hts _ lk_X1_size_1) rfl rfl dX1_size_1 ?_
  refine og_ciP (og_runS (As := [.int (st.1 3 i)]) (rest := []) ⟨hx, hb, hml, hown, hts⟩ (kJ6_bitCount_0f7a4 l D ca ad A st (st.1 3 i)) (va_cwS 1 hts gX1_size_J6_bitCount_0f7a4 rfl rfl rfl (by decide +kernel) ⟨Nat.le_of_ble_eq_true rfl, Nat.le_of_ble_eq_true rfl⟩) hC hP hS rfl hl.1 rfl (Nat.le_of_ble_eq_true rfl) dX1_size_4 ⟨Nat.zero_le _, Nat.zero_le _⟩) hS (fun H locs hP hS => ?_)
  exact W.iret (v := (fJ6_bitCount_0f7a4 st (st.1 3 i))) hx hb hr (fun t ht hW => ⟨⟨(fJ6_bitCount_0f7a4 st (st.1 3 i)), st, rfl, ⟨(by simp only [fX1_size]), rfl⟩, ow_Bi ht hP⟩, hS.F ht⟩) hS.2.2 dX1_size_7

theorem li_X1_holds_X1 : ∀ w ∈ u_ws RX1 TX1 2, w ∈ wsX1_holds := by decide +kernel
theorem lk_X1_holds_1 : (.fieldLink RX1 13 "RecordLabels$LabelSet" "kind" "LRecordLabels$Kind;" : Cond) ∈ wsX1_holds := by decide +kernel
theorem ln_X1_holds_2 : (.methodLinkNest RX1 23 yX0_has "RecordLabels" : Cond) ∈ ow_nest := by decide +kernel
theorem lk_X1_holds_3 : (.initialized RX0 : Cond) ∈ wsX1_holds := by decide +kernel
theorem lk_X1_holds_4 : (.instanceMethod yX0_has : Cond) ∈ wsX1_holds := by decide +kernel
theorem lk_X1_holds_5 : (.selects RX0 yX0_has yX0_has : Cond) ∈ wsX1_holds := by decide +kernel
theorem lk_X1_holds_6 : (.fieldLink RX1 7 "RecordLabels$LabelSet" "members" "I" : Cond) ∈ wsX1_holds := by decide +kernel
def fX1_holds (st : ow_St) (i : Nat) (x1 : Int32) : Int32 := (if (fX0_has st (st.2.2 (i + 1)) x1) = 0 then 0 else (if (((st.1 3 i) >>> (x1 &&& 31)) &&& 1) = 1 then 1 else 0))
set_option maxHeartbeats 4000000 in
set_option maxRecDepth 100000 in
theorem kX1_holds (l : Launch) (D : va_G) (ca : Nat → ClassId) (ad : ow_Ad) (A : Nat → Prop) (st : ow_St) (i : Nat) (hi : i < 10) (hki : st.2.2 (i + 1) < 3) (x1 : Int32) : Met l yX1_holds wsX1_holds ({ frames := 1, cells := 0, slots := 0, locals := 21 }) (va_Pc [.ref (ad 5 i), .int x1] (ow_W D ca ad A st)) (va_Qi (fun r st' => r = (fX1_holds st i x1) ∧ st' = st) (ow_B D ca ad) A) 0 0 A := by
  refine Met.ofW (cc := cX1_holds) (maxL := 2) (ret := (some .boolean)) (by decide) rfl ?_
  intro p e s m args below meth c s₁ B hml hv
  obtain ⟨rfl, hP, hC⟩ := hv
  have hx := B.exec
  have hb := B.bytes
  have hr := B.returns
  have hts := atoms_spec (ws := wsX1_holds) B.pre
  have hown : s.vm.findClass RX1 = some m.cls := findClass_of_methodNamed B.named
  have hlocks := B.notSynchronized
  have hS : va_S A s.heap s.heap [] := va_S.rf
  have hl := lv_entry ([.ref (ad 5 i), .int x1]) (n := 2) (Nat.le_of_ble_eq_true rfl)
  rw [lg_entry_eq]
  generalize (lg_sl ([.ref (ad 5 i), .int x1]) ++ List.replicate (2 - (lg_sl ([.ref (ad 5 i), .int x1])).length) Slot.unset).toArray = ls at hl ⊢
  have hl : lv_has ls 2 [(0, .ref (ad 5 i)), (1, .int x1)] := hl
  refine lv_aload_n hx hb dX1_holds_0 rfl (lv_at hl 0 rfl) ?_
  refine og_get (C := RX1) (T := TX1) (N := 2) (g := 5) (i := i) (v := .ref (ad 1 (st.2.2 (i + 1)))) hx hb hts li_X1_holds_X1 hown hC hP (ow_m5 hi) rfl rfl 0 (by decide) (hts _ lk_X1_holds_1) rfl rfl dX1_holds_1 ?_
  refine lv_iload_n hx hb dX1_holds_4 rfl (lv_at hl 1 rfl) ?_
  refine og_ciP (og_runVN (C := RX0) (T := TX0) (N := 7) (g := 1) (i := (st.2.2 (i + 1))) (As := [.int x1]) (rest := []) ⟨hx, hb, hml, hown, hts⟩ (kX0_has l D ca ad A st (st.2.2 (i + 1)) hki x1) ⟨va_cnB 1 hts gX1_holds_X0_has_n23 rfl rfl rfl (hC.2.2.1 _ ln_X1_holds_2) (hts _ lk_X1_holds_3) (by decide +kernel) ⟨Nat.le_of_ble_eq_true rfl, Nat.le_of_ble_eq_true rfl⟩, (hts _ lk_X1_holds_4), (hts _ lk_X1_holds_5)⟩ hC hP hS (ow_m1 hki) rfl rfl rfl hl.1 rfl (Nat.le_of_ble_eq_true rfl) dX1_holds_5 ⟨Nat.zero_le _, Nat.zero_le _⟩) hS (fun H locs hP hS => ?_)
  refine lv_if_eq (tgt := 27) hx hb dX1_holds_8 (by decide) (fun c_1 => ?_) (fun c_1 => ?_)
  · refine lv_iconst (v := 0) hx hb dX1_holds_27 (by decide) ?_
    exact W.zret (v := 0) hx hb hr rfl (fun t ht hW => ⟨⟨0, st, rfl, ⟨(by simp only [fX1_holds, if_pos c_1]), rfl⟩, ow_Bi ht hP⟩, hS.F ht⟩) hS.2.2 dX1_holds_28
  · refine lv_aload_n hx hb dX1_holds_11 rfl (lv_at hl 0 rfl) ?_
    refine og_get (C := RX1) (T := TX1) (N := 2) (g := 5) (i := i) (v := .int (st.1 3 i)) hx hb hts li_X1_holds_X1 hown hC hP (ow_m5 hi) rfl rfl 1 (by decide) (hts _ lk_X1_holds_6) rfl rfl dX1_holds_12 ?_
    refine lv_iload_n hx hb dX1_holds_15 rfl (lv_at hl 1 rfl) ?_
    refine lv_ishr hx hb dX1_holds_16 ?_
    refine lv_iconst (v := 1) hx hb dX1_holds_17 (by decide) ?_
    refine lv_iand hx hb dX1_holds_18 ?_
    refine lv_iconst (v := 1) hx hb dX1_holds_19 (by decide) ?_
    refine lv_icmp_ne (tgt := 27) hx hb dX1_holds_20 (by decide) (fun c_2 => ?_) (fun c_2 => ?_)
    · refine lv_iconst (v := 0) hx hb dX1_holds_27 (by decide) ?_
      exact W.zret (v := 0) hx hb hr rfl (fun t ht hW => ⟨⟨0, st, rfl, ⟨(by simp only [fX1_holds, if_neg c_1, if_neg c_2]), rfl⟩, ow_Bi ht hP⟩, hS.F ht⟩) hS.2.2 dX1_holds_28
    · refine lv_iconst (v := 1) hx hb dX1_holds_23 (by decide) ?_
      refine lv_goto (tgt := 28) hx hb dX1_holds_24 (by decide) ?_
      exact W.zret (v := 1) hx hb hr rfl (fun t ht hW => ⟨⟨1, st, rfl, ⟨(by simp only [fX1_holds, if_neg c_1, if_pos c_2]), rfl⟩, ow_Bi ht hP⟩, hS.F ht⟩) hS.2.2 dX1_holds_28

theorem lk_X1_become_0 : (.fieldLink RX1 13 "RecordLabels$LabelSet" "kind" "LRecordLabels$Kind;" : Cond) ∈ wsX1_become := by decide +kernel
theorem li_X1_become_X1 : ∀ w ∈ u_ws RX1 TX1 2, w ∈ wsX1_become := by decide +kernel
theorem lk_X1_become_2 : (.fieldLink RX1 7 "RecordLabels$LabelSet" "members" "I" : Cond) ∈ wsX1_become := by decide +kernel
def fX1_become (st : ow_St) (i k : Nat) (x2 : Int32) : ow_St := (let st1 := (ow_sr st (i + 1) k); (let st2 := (ow_si st1 3 i x2); st2))
set_option maxHeartbeats 4000000 in
set_option maxRecDepth 100000 in
theorem kX1_become (l : Launch) (D : va_G) (ca : Nat → ClassId) (ad : ow_Ad) (A : Nat → Prop) (st : ow_St) (i : Nat) (hi : i < 10) (k : Nat) (x2 : Int32) : Met l yX1_become wsX1_become ({ frames := 0, cells := 0, slots := 0, locals := 0 }) (va_Pc [.ref (ad 5 i), .ref (ad 1 k), .int x2] (ow_W D ca ad A st)) (va_Qv (fun st' => st' = (fX1_become st i k x2)) (ow_B D ca ad) A) 0 0 A := by
  refine Met.ofW (cc := cX1_become) (maxL := 3) (ret := none) (by decide) rfl ?_
  intro p e s m args below meth c s₁ B hml hv
  obtain ⟨rfl, hP, hC⟩ := hv
  have hx := B.exec
  have hb := B.bytes
  have hr := B.returns
  have hts := atoms_spec (ws := wsX1_become) B.pre
  have hown : s.vm.findClass RX1 = some m.cls := findClass_of_methodNamed B.named
  have hlocks := B.notSynchronized
  have hS : va_S A s.heap s.heap [] := va_S.rf
  have hl := lv_entry ([.ref (ad 5 i), .ref (ad 1 k), .int x2]) (n := 3) (Nat.le_of_ble_eq_true rfl)
  rw [lg_entry_eq]
  generalize (lg_sl ([.ref (ad 5 i), .ref (ad 1 k), .int x2]) ++ List.replicate (3 - (lg_sl ([.ref (ad 5 i), .ref (ad 1 k), .int x2])).length) Slot.unset).toArray = ls at hl ⊢
  have hl : lv_has ls 3 [(0, .ref (ad 5 i)), (1, .ref (ad 1 k)), (2, .int x2)] := hl
  refine lv_aload_n hx hb dX1_become_0 rfl (lv_at hl 0 rfl) ?_
  refine lv_aload_n hx hb dX1_become_1 rfl (lv_at hl 1 rfl) ?_
  refine og_put (C := RX1) (T := TX1) (N := 2) (g := 5) (i := i) (v := .ref (ad 1 k)) (ty := .object "RecordLabels$Kind") hx hb hts li_X1_become_X1 tyX1 tyX1_ok nmX1 hown hC hP hS (ow_m5 hi) rfl rfl 0 (by decide) (hts _ lk_X1_become_0) rfl rfl (by decide +kernel) rfl rfl (Nat.le_of_ble_eq_true rfl) (we_5_k st i k) dX1_become_2 (fun H locs hP hS => ?_)
  obtain ⟨st1, e1⟩ : ∃ z, z = (ow_sr st (i + 1) k) := ⟨_, rfl⟩
  rw [← e1] at hP
  refine lv_aload_n hx hb dX1_become_5 rfl (lv_at hl 0 rfl) ?_
  refine lv_iload_n hx hb dX1_become_6 rfl (lv_at hl 2 rfl) ?_
  refine og_put (C := RX1) (T := TX1) (N := 2) (g := 5) (i := i) (v := .int x2) (ty := .int) hx hb hts li_X1_become_X1 tyX1 tyX1_ok nmX1 hown hC hP hS (ow_m5 hi) rfl rfl 1 (by decide) (hts _ lk_X1_become_2) rfl rfl (by decide +kernel) rfl rfl (Nat.le_of_ble_eq_true rfl) (we_5_m st1 i x2) dX1_become_7 (fun H locs hP hS => ?_)
  obtain ⟨st2, e2⟩ : ∃ z, z = (ow_si st1 3 i x2) := ⟨_, rfl⟩
  rw [← e2] at hP
  exact W.vret hx hb hr (fun t ht hW => ⟨⟨st2, rfl, (by subst e2; subst e1; simp only [fX1_become]), ow_Bi ht hP⟩, hS.F ht⟩) hS.2.2 dX1_become_10

theorem li_X2_hasRecord_0_X2 : ∀ w ∈ u_ws RX2 TX2 5, w ∈ wsX2_hasRecord := by decide +kernel
theorem lk_X2_hasRecord_0_1 : (.fieldLink RX2 9 "RecordLabels$Table" "size" "I" : Cond) ∈ wsX2_hasRecord := by decide +kernel
def fX2_hasRecord_0 (st : ow_St) (x1 : Int32) : Int32 := (if x1 < 0 then 0 else (if (st.1 4 0) ≤ x1 then 0 else 1))
set_option maxHeartbeats 4000000 in
set_option maxRecDepth 100000 in
theorem kX2_hasRecord_0 (l : Launch) (D : va_G) (ca : Nat → ClassId) (ad : ow_Ad) (A : Nat → Prop) (st : ow_St) (x1 : Int32) : Met l yX2_hasRecord wsX2_hasRecord ({ frames := 0, cells := 0, slots := 0, locals := 0 }) (va_Pc [.ref (ad 6 0), .int x1] (ow_W D ca ad A st)) (va_Qi (fun r st' => r = (fX2_hasRecord_0 st x1) ∧ st' = st) (ow_B D ca ad) A) 0 0 A := by
  refine Met.ofW (cc := cX2_hasRecord) (maxL := 2) (ret := (some .boolean)) (by decide) rfl ?_
  intro p e s m args below meth c s₁ B hml hv
  obtain ⟨rfl, hP, hC⟩ := hv
  have hx := B.exec
  have hb := B.bytes
  have hr := B.returns
  have hts := atoms_spec (ws := wsX2_hasRecord) B.pre
  have hown : s.vm.findClass RX2 = some m.cls := findClass_of_methodNamed B.named
  have hlocks := B.notSynchronized
  have hS : va_S A s.heap s.heap [] := va_S.rf
  have hl := lv_entry ([.ref (ad 6 0), .int x1]) (n := 2) (Nat.le_of_ble_eq_true rfl)
  rw [lg_entry_eq]
  generalize (lg_sl ([.ref (ad 6 0), .int x1]) ++ List.replicate (2 - (lg_sl ([.ref (ad 6 0), .int x1])).length) Slot.unset).toArray = ls at hl ⊢
  have hl : lv_has ls 2 [(0, .ref (ad 6 0)), (1, .int x1)] := hl
  refine lv_iload_n hx hb dX2_hasRecord_0 rfl (lv_at hl 1 rfl) ?_
  refine lv_if_lt (tgt := 16) hx hb dX2_hasRecord_1 (by decide) (fun c_1 => ?_) (fun c_1 => ?_)
  · refine lv_iconst (v := 0) hx hb dX2_hasRecord_16 (by decide) ?_
    exact W.zret (v := 0) hx hb hr rfl (fun t ht hW => ⟨⟨0, st, rfl, ⟨(by simp only [fX2_hasRecord_0, if_pos c_1]), rfl⟩, ow_Bi ht hP⟩, hS.F ht⟩) hS.2.2 dX2_hasRecord_17
  · refine lv_iload_n hx hb dX2_hasRecord_4 rfl (lv_at hl 1 rfl) ?_
    refine lv_aload_n hx hb dX2_hasRecord_5 rfl (lv_at hl 0 rfl) ?_
    refine og_get (C := RX2) (T := TX2) (N := 5) (g := 6) (i := 0) (v := .int (st.1 4 0)) hx hb hts li_X2_hasRecord_0_X2 hown hC hP (ow_q6_0) rfl rfl 4 (by decide) (hts _ lk_X2_hasRecord_0_1) rfl rfl dX2_hasRecord_6 ?_
    refine lv_icmp_ge (tgt := 16) hx hb dX2_hasRecord_9 (by decide) (fun c_2 => ?_) (fun c_2 => ?_)
    · refine lv_iconst (v := 0) hx hb dX2_hasRecord_16 (by decide) ?_
      exact W.zret (v := 0) hx hb hr rfl (fun t ht hW => ⟨⟨0, st, rfl, ⟨(by simp only [fX2_hasRecord_0, if_neg c_1, if_pos c_2]), rfl⟩, ow_Bi ht hP⟩, hS.F ht⟩) hS.2.2 dX2_hasRecord_17
    · refine lv_iconst (v := 1) hx hb dX2_hasRecord_12 (by decide) ?_
      refine lv_goto (tgt := 17) hx hb dX2_hasRecord_13 (by decide) ?_
      exact W.zret (v := 1) hx hb hr rfl (fun t ht hW => ⟨⟨1, st, rfl, ⟨(by simp only [fX2_hasRecord_0, if_neg c_1, if_neg c_2]), rfl⟩, ow_Bi ht hP⟩, hS.F ht⟩) hS.2.2 dX2_hasRecord_17

theorem li_X2_hasItem_0_X2 : ∀ w ∈ u_ws RX2 TX2 5, w ∈ wsX2_hasItem := by decide +kernel
theorem lk_X2_hasItem_0_1 : (.fieldLink RX2 19 "RecordLabels$Table" "items" "I" : Cond) ∈ wsX2_hasItem := by decide +kernel
def fX2_hasItem_0 (st : ow_St) (x1 : Int32) : Int32 := (if x1 < 0 then 0 else (if 3 ≤ x1 then 0 else 1))
set_option maxHeartbeats 4000000 in
set_option maxRecDepth 100000 in
theorem kX2_hasItem_0 (l : Launch) (D : va_G) (ca : Nat → ClassId) (ad : ow_Ad) (A : Nat → Prop) (st : ow_St) (x1 : Int32) : Met l yX2_hasItem wsX2_hasItem ({ frames := 0, cells := 0, slots := 0, locals := 0 }) (va_Pc [.ref (ad 6 0), .int x1] (ow_W D ca ad A st)) (va_Qi (fun r st' => r = (fX2_hasItem_0 st x1) ∧ st' = st) (ow_B D ca ad) A) 0 0 A := by
  refine Met.ofW (cc := cX2_hasItem) (maxL := 2) (ret := (some .boolean)) (by decide) rfl ?_
  intro p e s m args below meth c s₁ B hml hv
  obtain ⟨rfl, hP, hC⟩ := hv
  have hx := B.exec
  have hb := B.bytes
  have hr := B.returns
  have hts := atoms_spec (ws := wsX2_hasItem) B.pre
  have hown : s.vm.findClass RX2 = some m.cls := findClass_of_methodNamed B.named
  have hlocks := B.notSynchronized
  have hS : va_S A s.heap s.heap [] := va_S.rf
  have hl := lv_entry ([.ref (ad 6 0), .int x1]) (n := 2) (Nat.le_of_ble_eq_true rfl)
  rw [lg_entry_eq]
  generalize (lg_sl ([.ref (ad 6 0), .int x1]) ++ List.replicate (2 - (lg_sl ([.ref (ad 6 0), .int x1])).length) Slot.unset).toArray = ls at hl ⊢
  have hl : lv_has ls 2 [(0, .ref (ad 6 0)), (1, .int x1)] := hl
  refine lv_iload_n hx hb dX2_hasItem_0 rfl (lv_at hl 1 rfl) ?_
  refine lv_if_lt (tgt := 16) hx hb dX2_hasItem_1 (by decide) (fun c_1 => ?_) (fun c_1 => ?_)
  · refine lv_iconst (v := 0) hx hb dX2_hasItem_16 (by decide) ?_
    exact W.zret (v := 0) hx hb hr rfl (fun t ht hW => ⟨⟨0, st, rfl, ⟨(by simp only [fX2_hasItem_0, if_pos c_1]), rfl⟩, ow_Bi ht hP⟩, hS.F ht⟩) hS.2.2 dX2_hasItem_17
  · refine lv_iload_n hx hb dX2_hasItem_4 rfl (lv_at hl 1 rfl) ?_
    refine lv_aload_n hx hb dX2_hasItem_5 rfl (lv_at hl 0 rfl) ?_
    refine og_get (C := RX2) (T := TX2) (N := 5) (g := 6) (i := 0) (v := .int 3) hx hb hts li_X2_hasItem_0_X2 hown hC hP (ow_q6_0) rfl rfl 1 (by decide) (hts _ lk_X2_hasItem_0_1) rfl rfl dX2_hasItem_6 ?_
    refine lv_icmp_ge (tgt := 16) hx hb dX2_hasItem_9 (by decide) (fun c_2 => ?_) (fun c_2 => ?_)
    · refine lv_iconst (v := 0) hx hb dX2_hasItem_16 (by decide) ?_
      exact W.zret (v := 0) hx hb hr rfl (fun t ht hW => ⟨⟨0, st, rfl, ⟨(by simp only [fX2_hasItem_0, if_neg c_1, if_pos c_2]), rfl⟩, ow_Bi ht hP⟩, hS.F ht⟩) hS.2.2 dX2_hasItem_17
    · refine lv_iconst (v := 1) hx hb dX2_hasItem_12 (by decide) ?_
      refine lv_goto (tgt := 17) hx hb dX2_hasItem_13 (by decide) ?_
      exact W.zret (v := 1) hx hb hr rfl (fun t ht hW => ⟨⟨1, st, rfl, ⟨(by simp only [fX2_hasItem_0, if_neg c_1, if_neg c_2]), rfl⟩, ow_Bi ht hP⟩, hS.F ht⟩) hS.2.2 dX2_hasItem_17

theorem li_X2_hasRecord_1_X2 : ∀ w ∈ u_ws RX2 TX2 5, w ∈ wsX2_hasRecord := by decide +kernel
theorem lk_X2_hasRecord_1_1 : (.fieldLink RX2 9 "RecordLabels$Table" "size" "I" : Cond) ∈ wsX2_hasRecord := by decide +kernel
def fX2_hasRecord_1 (st : ow_St) (x1 : Int32) : Int32 := (if x1 < 0 then 0 else (if (st.1 4 1) ≤ x1 then 0 else 1))
set_option maxHeartbeats 4000000 in
set_option maxRecDepth 100000 in
theorem kX2_hasRecord_1 (l : Launch) (D : va_G) (ca : Nat → ClassId) (ad : ow_Ad) (A : Nat → Prop) (st : ow_St) (x1 : Int32) : Met l yX2_hasRecord wsX2_hasRecord ({ frames := 0, cells := 0, slots := 0, locals := 0 }) (va_Pc [.ref (ad 6 1), .int x1] (ow_W D ca ad A st)) (va_Qi (fun r st' => r = (fX2_hasRecord_1 st x1) ∧ st' = st) (ow_B D ca ad) A) 0 0 A := by
  refine Met.ofW (cc := cX2_hasRecord) (maxL := 2) (ret := (some .boolean)) (by decide) rfl ?_
  intro p e s m args below meth c s₁ B hml hv
  obtain ⟨rfl, hP, hC⟩ := hv
  have hx := B.exec
  have hb := B.bytes
  have hr := B.returns
  have hts := atoms_spec (ws := wsX2_hasRecord) B.pre
  have hown : s.vm.findClass RX2 = some m.cls := findClass_of_methodNamed B.named
  have hlocks := B.notSynchronized
  have hS : va_S A s.heap s.heap [] := va_S.rf
  have hl := lv_entry ([.ref (ad 6 1), .int x1]) (n := 2) (Nat.le_of_ble_eq_true rfl)
  rw [lg_entry_eq]
  generalize (lg_sl ([.ref (ad 6 1), .int x1]) ++ List.replicate (2 - (lg_sl ([.ref (ad 6 1), .int x1])).length) Slot.unset).toArray = ls at hl ⊢
  have hl : lv_has ls 2 [(0, .ref (ad 6 1)), (1, .int x1)] := hl
  refine lv_iload_n hx hb dX2_hasRecord_0 rfl (lv_at hl 1 rfl) ?_
  refine lv_if_lt (tgt := 16) hx hb dX2_hasRecord_1 (by decide) (fun c_1 => ?_) (fun c_1 => ?_)
  · refine lv_iconst (v := 0) hx hb dX2_hasRecord_16 (by decide) ?_
    exact W.zret (v := 0) hx hb hr rfl (fun t ht hW => ⟨⟨0, st, rfl, ⟨(by simp only [fX2_hasRecord_1, if_pos c_1]), rfl⟩, ow_Bi ht hP⟩, hS.F ht⟩) hS.2.2 dX2_hasRecord_17
  · refine lv_iload_n hx hb dX2_hasRecord_4 rfl (lv_at hl 1 rfl) ?_
    refine lv_aload_n hx hb dX2_hasRecord_5 rfl (lv_at hl 0 rfl) ?_
    refine og_get (C := RX2) (T := TX2) (N := 5) (g := 6) (i := 1) (v := .int (st.1 4 1)) hx hb hts li_X2_hasRecord_1_X2 hown hC hP (ow_q6_1) rfl rfl 4 (by decide) (hts _ lk_X2_hasRecord_1_1) rfl rfl dX2_hasRecord_6 ?_
    refine lv_icmp_ge (tgt := 16) hx hb dX2_hasRecord_9 (by decide) (fun c_2 => ?_) (fun c_2 => ?_)
    · refine lv_iconst (v := 0) hx hb dX2_hasRecord_16 (by decide) ?_
      exact W.zret (v := 0) hx hb hr rfl (fun t ht hW => ⟨⟨0, st, rfl, ⟨(by simp only [fX2_hasRecord_1, if_neg c_1, if_pos c_2]), rfl⟩, ow_Bi ht hP⟩, hS.F ht⟩) hS.2.2 dX2_hasRecord_17
    · refine lv_iconst (v := 1) hx hb dX2_hasRecord_12 (by decide) ?_
      refine lv_goto (tgt := 17) hx hb dX2_hasRecord_13 (by decide) ?_
      exact W.zret (v := 1) hx hb hr rfl (fun t ht hW => ⟨⟨1, st, rfl, ⟨(by simp only [fX2_hasRecord_1, if_neg c_1, if_neg c_2]), rfl⟩, ow_Bi ht hP⟩, hS.F ht⟩) hS.2.2 dX2_hasRecord_17

theorem li_X2_hasItem_1_X2 : ∀ w ∈ u_ws RX2 TX2 5, w ∈ wsX2_hasItem := by decide +kernel
theorem lk_X2_hasItem_1_1 : (.fieldLink RX2 19 "RecordLabels$Table" "items" "I" : Cond) ∈ wsX2_hasItem := by decide +kernel
def fX2_hasItem_1 (st : ow_St) (x1 : Int32) : Int32 := (if x1 < 0 then 0 else (if 4 ≤ x1 then 0 else 1))
set_option maxHeartbeats 4000000 in
set_option maxRecDepth 100000 in
theorem kX2_hasItem_1 (l : Launch) (D : va_G) (ca : Nat → ClassId) (ad : ow_Ad) (A : Nat → Prop) (st : ow_St) (x1 : Int32) : Met l yX2_hasItem wsX2_hasItem ({ frames := 0, cells := 0, slots := 0, locals := 0 }) (va_Pc [.ref (ad 6 1), .int x1] (ow_W D ca ad A st)) (va_Qi (fun r st' => r = (fX2_hasItem_1 st x1) ∧ st' = st) (ow_B D ca ad) A) 0 0 A := by
  refine Met.ofW (cc := cX2_hasItem) (maxL := 2) (ret := (some .boolean)) (by decide) rfl ?_
  intro p e s m args below meth c s₁ B hml hv
  obtain ⟨rfl, hP, hC⟩ := hv
  have hx := B.exec
  have hb := B.bytes
  have hr := B.returns
  have hts := atoms_spec (ws := wsX2_hasItem) B.pre
  have hown : s.vm.findClass RX2 = some m.cls := findClass_of_methodNamed B.named
  have hlocks := B.notSynchronized
  have hS : va_S A s.heap s.heap [] := va_S.rf
  have hl := lv_entry ([.ref (ad 6 1), .int x1]) (n := 2) (Nat.le_of_ble_eq_true rfl)
  rw [lg_entry_eq]
  generalize (lg_sl ([.ref (ad 6 1), .int x1]) ++ List.replicate (2 - (lg_sl ([.ref (ad 6 1), .int x1])).length) Slot.unset).toArray = ls at hl ⊢
  have hl : lv_has ls 2 [(0, .ref (ad 6 1)), (1, .int x1)] := hl
  refine lv_iload_n hx hb dX2_hasItem_0 rfl (lv_at hl 1 rfl) ?_
  refine lv_if_lt (tgt := 16) hx hb dX2_hasItem_1 (by decide) (fun c_1 => ?_) (fun c_1 => ?_)
  · refine lv_iconst (v := 0) hx hb dX2_hasItem_16 (by decide) ?_
    exact W.zret (v := 0) hx hb hr rfl (fun t ht hW => ⟨⟨0, st, rfl, ⟨(by simp only [fX2_hasItem_1, if_pos c_1]), rfl⟩, ow_Bi ht hP⟩, hS.F ht⟩) hS.2.2 dX2_hasItem_17
  · refine lv_iload_n hx hb dX2_hasItem_4 rfl (lv_at hl 1 rfl) ?_
    refine lv_aload_n hx hb dX2_hasItem_5 rfl (lv_at hl 0 rfl) ?_
    refine og_get (C := RX2) (T := TX2) (N := 5) (g := 6) (i := 1) (v := .int 4) hx hb hts li_X2_hasItem_1_X2 hown hC hP (ow_q6_1) rfl rfl 1 (by decide) (hts _ lk_X2_hasItem_1_1) rfl rfl dX2_hasItem_6 ?_
    refine lv_icmp_ge (tgt := 16) hx hb dX2_hasItem_9 (by decide) (fun c_2 => ?_) (fun c_2 => ?_)
    · refine lv_iconst (v := 0) hx hb dX2_hasItem_16 (by decide) ?_
      exact W.zret (v := 0) hx hb hr rfl (fun t ht hW => ⟨⟨0, st, rfl, ⟨(by simp only [fX2_hasItem_1, if_neg c_1, if_pos c_2]), rfl⟩, ow_Bi ht hP⟩, hS.F ht⟩) hS.2.2 dX2_hasItem_17
    · refine lv_iconst (v := 1) hx hb dX2_hasItem_12 (by decide) ?_
      refine lv_goto (tgt := 17) hx hb dX2_hasItem_13 (by decide) ?_
      exact W.zret (v := 1) hx hb hr rfl (fun t ht hW => ⟨⟨1, st, rfl, ⟨(by simp only [fX2_hasItem_1, if_neg c_1, if_neg c_2]), rfl⟩, ow_Bi ht hP⟩, hS.F ht⟩) hS.2.2 dX2_hasItem_17
end
section
theorem dX3_kindNumbered_0 : decode cX3_kindNumbered 0 = .ok (.iload_n 1, 1) := by decide +kernel
theorem dX3_kindNumbered_1 : decode cX3_kindNumbered 1 = .ok (.tableswitch 42 0 2 #[27, 32, 37], 27) := by decide +kernel
theorem dX3_kindNumbered_28 : decode cX3_kindNumbered 28 = .ok (.aload_n 0, 1) := by decide +kernel
theorem dX3_kindNumbered_29 : decode cX3_kindNumbered 29 = .ok (.getfield 18, 3) := by decide +kernel
theorem dX3_kindNumbered_32 : decode cX3_kindNumbered 32 = .ok (.areturn, 1) := by decide +kernel
theorem dX3_kindNumbered_33 : decode cX3_kindNumbered 33 = .ok (.aload_n 0, 1) := by decide +kernel
theorem dX3_kindNumbered_34 : decode cX3_kindNumbered 34 = .ok (.getfield 25, 3) := by decide +kernel
theorem dX3_kindNumbered_37 : decode cX3_kindNumbered 37 = .ok (.areturn, 1) := by decide +kernel
theorem dX3_kindNumbered_38 : decode cX3_kindNumbered 38 = .ok (.aload_n 0, 1) := by decide +kernel
theorem dX3_kindNumbered_39 : decode cX3_kindNumbered 39 = .ok (.getfield 31, 3) := by decide +kernel
theorem dX3_kindNumbered_42 : decode cX3_kindNumbered 42 = .ok (.areturn, 1) := by decide +kernel
theorem dX3_kindNumbered_43 : decode cX3_kindNumbered 43 = .ok (.aconst_null, 1) := by decide +kernel
theorem dX3_kindNumbered_44 : decode cX3_kindNumbered 44 = .ok (.areturn, 1) := by decide +kernel
theorem dX3_tableNumbered_0 : decode cX3_tableNumbered 0 = .ok (.iload_n 1, 1) := by decide +kernel
theorem dX3_tableNumbered_1 : decode cX3_tableNumbered 1 = .ok (.lookupswitch 37 #[(0, 27), (1, 32)], 27) := by decide +kernel
theorem dX3_tableNumbered_28 : decode cX3_tableNumbered 28 = .ok (.aload_n 0, 1) := by decide +kernel
theorem dX3_tableNumbered_29 : decode cX3_tableNumbered 29 = .ok (.getfield 45, 3) := by decide +kernel
theorem dX3_tableNumbered_32 : decode cX3_tableNumbered 32 = .ok (.areturn, 1) := by decide +kernel
theorem dX3_tableNumbered_33 : decode cX3_tableNumbered 33 = .ok (.aload_n 0, 1) := by decide +kernel
theorem dX3_tableNumbered_34 : decode cX3_tableNumbered 34 = .ok (.getfield 49, 3) := by decide +kernel
theorem dX3_tableNumbered_37 : decode cX3_tableNumbered 37 = .ok (.areturn, 1) := by decide +kernel
theorem dX3_tableNumbered_38 : decode cX3_tableNumbered 38 = .ok (.aconst_null, 1) := by decide +kernel
theorem dX3_tableNumbered_39 : decode cX3_tableNumbered 39 = .ok (.areturn, 1) := by decide +kernel
theorem dX3_setNumbered_0 : decode cX3_setNumbered 0 = .ok (.iload_n 1, 1) := by decide +kernel
theorem dX3_setNumbered_1 : decode cX3_setNumbered 1 = .ok (.ifCond .lt 18, 3) := by decide +kernel
theorem dX3_setNumbered_4 : decode cX3_setNumbered 4 = .ok (.iload_n 1, 1) := by decide +kernel
theorem dX3_setNumbered_5 : decode cX3_setNumbered 5 = .ok (.bipush 10, 2) := by decide +kernel
theorem dX3_setNumbered_7 : decode cX3_setNumbered 7 = .ok (.if_icmp .ge 12, 3) := by decide +kernel
theorem dX3_setNumbered_10 : decode cX3_setNumbered 10 = .ok (.aload_n 0, 1) := by decide +kernel
theorem dX3_setNumbered_11 : decode cX3_setNumbered 11 = .ok (.getfield 36, 3) := by decide +kernel
theorem dX3_setNumbered_14 : decode cX3_setNumbered 14 = .ok (.iload_n 1, 1) := by decide +kernel
theorem dX3_setNumbered_15 : decode cX3_setNumbered 15 = .ok (.aaload, 1) := by decide +kernel
theorem dX3_setNumbered_16 : decode cX3_setNumbered 16 = .ok (.goto 4, 3) := by decide +kernel
theorem dX3_setNumbered_19 : decode cX3_setNumbered 19 = .ok (.aconst_null, 1) := by decide +kernel
theorem dX3_setNumbered_20 : decode cX3_setNumbered 20 = .ok (.areturn, 1) := by decide +kernel
theorem dX3_oneIf_0 : decode cX3_oneIf 0 = .ok (.iload_n 0, 1) := by decide +kernel
theorem dX3_oneIf_1 : decode cX3_oneIf 1 = .ok (.ifCond .eq 7, 3) := by decide +kernel
theorem dX3_oneIf_4 : decode cX3_oneIf 4 = .ok (.iconst 1, 1) := by decide +kernel
theorem dX3_oneIf_5 : decode cX3_oneIf 5 = .ok (.goto 4, 3) := by decide +kernel
theorem dX3_oneIf_8 : decode cX3_oneIf 8 = .ok (.iconst 0, 1) := by decide +kernel
theorem dX3_oneIf_9 : decode cX3_oneIf 9 = .ok (.ireturn, 1) := by decide +kernel
theorem dX3_isFromTo_0 : decode cX3_isFromTo 0 = .ok (.iload_n 0, 1) := by decide +kernel
theorem dX3_isFromTo_1 : decode cX3_isFromTo 1 = .ok (.iload_n 1, 1) := by decide +kernel
theorem dX3_isFromTo_2 : decode cX3_isFromTo 2 = .ok (.if_icmp .lt 12, 3) := by decide +kernel
theorem dX3_isFromTo_5 : decode cX3_isFromTo 5 = .ok (.iload_n 0, 1) := by decide +kernel
theorem dX3_isFromTo_6 : decode cX3_isFromTo 6 = .ok (.iload_n 2, 1) := by decide +kernel
theorem dX3_isFromTo_7 : decode cX3_isFromTo 7 = .ok (.if_icmp .gt 7, 3) := by decide +kernel
theorem dX3_isFromTo_10 : decode cX3_isFromTo 10 = .ok (.iconst 1, 1) := by decide +kernel
theorem dX3_isFromTo_11 : decode cX3_isFromTo 11 = .ok (.goto 4, 3) := by decide +kernel
theorem dX3_isFromTo_14 : decode cX3_isFromTo 14 = .ok (.iconst 0, 1) := by decide +kernel
theorem dX3_isFromTo_15 : decode cX3_isFromTo 15 = .ok (.ireturn, 1) := by decide +kernel
theorem dX3_arcRuleAnswer_0 : decode cX3_arcRuleAnswer 0 = .ok (.iload_n 0, 1) := by decide +kernel
theorem dX3_arcRuleAnswer_1 : decode cX3_arcRuleAnswer 1 = .ok (.tableswitch 80 3 6 #[31, 31, 44, 67], 31) := by decide +kernel
theorem dX3_arcRuleAnswer_32 : decode cX3_arcRuleAnswer 32 = .ok (.lload_n 1, 1) := by decide +kernel
theorem dX3_arcRuleAnswer_33 : decode cX3_arcRuleAnswer 33 = .ok (.lconst 0, 1) := by decide +kernel
theorem dX3_arcRuleAnswer_34 : decode cX3_arcRuleAnswer 34 = .ok (.lcmp, 1) := by decide +kernel
theorem dX3_arcRuleAnswer_35 : decode cX3_arcRuleAnswer 35 = .ok (.ifCond .ne 8, 3) := by decide +kernel
theorem dX3_arcRuleAnswer_38 : decode cX3_arcRuleAnswer 38 = .ok (.bipush (-5), 2) := by decide +kernel
theorem dX3_arcRuleAnswer_40 : decode cX3_arcRuleAnswer 40 = .ok (.goto 4, 3) := by decide +kernel
theorem dX3_arcRuleAnswer_43 : decode cX3_arcRuleAnswer 43 = .ok (.iconst 1, 1) := by decide +kernel
theorem dX3_arcRuleAnswer_44 : decode cX3_arcRuleAnswer 44 = .ok (.ireturn, 1) := by decide +kernel
theorem dX3_arcRuleAnswer_45 : decode cX3_arcRuleAnswer 45 = .ok (.lload_n 1, 1) := by decide +kernel
theorem dX3_arcRuleAnswer_46 : decode cX3_arcRuleAnswer 46 = .ok (.lconst 0, 1) := by decide +kernel
theorem dX3_arcRuleAnswer_47 : decode cX3_arcRuleAnswer 47 = .ok (.lcmp, 1) := by decide +kernel
theorem dX3_arcRuleAnswer_48 : decode cX3_arcRuleAnswer 48 = .ok (.ifCond .lt 13, 3) := by decide +kernel
theorem dX3_arcRuleAnswer_51 : decode cX3_arcRuleAnswer 51 = .ok (.lload_n 1, 1) := by decide +kernel
theorem dX3_arcRuleAnswer_52 : decode cX3_arcRuleAnswer 52 = .ok (.getstatic 214, 3) := by decide +kernel
theorem dX3_arcRuleAnswer_55 : decode cX3_arcRuleAnswer 55 = .ok (.arraylength, 1) := by decide +kernel
theorem dX3_arcRuleAnswer_56 : decode cX3_arcRuleAnswer 56 = .ok (.i2l, 1) := by decide +kernel
theorem dX3_arcRuleAnswer_57 : decode cX3_arcRuleAnswer 57 = .ok (.lcmp, 1) := by decide +kernel
theorem dX3_arcRuleAnswer_58 : decode cX3_arcRuleAnswer 58 = .ok (.ifCond .lt 8, 3) := by decide +kernel
theorem dX3_arcRuleAnswer_61 : decode cX3_arcRuleAnswer 61 = .ok (.bipush (-6), 2) := by decide +kernel
theorem dX3_arcRuleAnswer_63 : decode cX3_arcRuleAnswer 63 = .ok (.goto 4, 3) := by decide +kernel
theorem dX3_arcRuleAnswer_66 : decode cX3_arcRuleAnswer 66 = .ok (.iconst 1, 1) := by decide +kernel
theorem dX3_arcRuleAnswer_67 : decode cX3_arcRuleAnswer 67 = .ok (.ireturn, 1) := by decide +kernel
theorem dX3_arcRuleAnswer_68 : decode cX3_arcRuleAnswer 68 = .ok (.lload_n 1, 1) := by decide +kernel
theorem dX3_arcRuleAnswer_69 : decode cX3_arcRuleAnswer 69 = .ok (.lconst 0, 1) := by decide +kernel
theorem dX3_arcRuleAnswer_70 : decode cX3_arcRuleAnswer 70 = .ok (.lcmp, 1) := by decide +kernel
theorem dX3_arcRuleAnswer_71 : decode cX3_arcRuleAnswer 71 = .ok (.ifCond .ge 8, 3) := by decide +kernel
theorem dX3_arcRuleAnswer_74 : decode cX3_arcRuleAnswer 74 = .ok (.bipush (-7), 2) := by decide +kernel
theorem dX3_arcRuleAnswer_76 : decode cX3_arcRuleAnswer 76 = .ok (.goto 4, 3) := by decide +kernel
theorem dX3_arcRuleAnswer_79 : decode cX3_arcRuleAnswer 79 = .ok (.iconst 1, 1) := by decide +kernel
theorem dX3_arcRuleAnswer_80 : decode cX3_arcRuleAnswer 80 = .ok (.ireturn, 1) := by decide +kernel
theorem dX3_arcRuleAnswer_81 : decode cX3_arcRuleAnswer 81 = .ok (.iconst 1, 1) := by decide +kernel
theorem dX3_arcRuleAnswer_82 : decode cX3_arcRuleAnswer 82 = .ok (.ireturn, 1) := by decide +kernel
theorem dX3_nodeValue_0 : decode cX3_nodeValue 0 = .ok (.iload_n 0, 1) := by decide +kernel
theorem dX3_nodeValue_1 : decode cX3_nodeValue 1 = .ok (.tableswitch 56 0 4 #[35, 37, 43, 49, 52], 35) := by decide +kernel
theorem dX3_nodeValue_36 : decode cX3_nodeValue 36 = .ok (.lload_n 1, 1) := by decide +kernel
theorem dX3_nodeValue_37 : decode cX3_nodeValue 37 = .ok (.lreturn, 1) := by decide +kernel
theorem dX3_nodeValue_38 : decode cX3_nodeValue 38 = .ok (.ldc2_w 224, 3) := by decide +kernel
theorem dX3_nodeValue_41 : decode cX3_nodeValue 41 = .ok (.lload_n 1, 1) := by decide +kernel
theorem dX3_nodeValue_42 : decode cX3_nodeValue 42 = .ok (.lmul, 1) := by decide +kernel
theorem dX3_nodeValue_43 : decode cX3_nodeValue 43 = .ok (.lreturn, 1) := by decide +kernel
theorem dX3_nodeValue_44 : decode cX3_nodeValue 44 = .ok (.lload_n 1, 1) := by decide +kernel
theorem dX3_nodeValue_45 : decode cX3_nodeValue 45 = .ok (.ldc2_w 226, 3) := by decide +kernel
theorem dX3_nodeValue_48 : decode cX3_nodeValue 48 = .ok (.ladd, 1) := by decide +kernel
theorem dX3_nodeValue_49 : decode cX3_nodeValue 49 = .ok (.lreturn, 1) := by decide +kernel
theorem dX3_nodeValue_50 : decode cX3_nodeValue 50 = .ok (.lload_n 1, 1) := by decide +kernel
theorem dX3_nodeValue_51 : decode cX3_nodeValue 51 = .ok (.lneg, 1) := by decide +kernel
theorem dX3_nodeValue_52 : decode cX3_nodeValue 52 = .ok (.lreturn, 1) := by decide +kernel
theorem dX3_nodeValue_53 : decode cX3_nodeValue 53 = .ok (.lload_n 1, 1) := by decide +kernel
theorem dX3_nodeValue_54 : decode cX3_nodeValue 54 = .ok (.lload_n 1, 1) := by decide +kernel
theorem dX3_nodeValue_55 : decode cX3_nodeValue 55 = .ok (.lmul, 1) := by decide +kernel
theorem dX3_nodeValue_56 : decode cX3_nodeValue 56 = .ok (.lreturn, 1) := by decide +kernel
theorem dX3_nodeValue_57 : decode cX3_nodeValue 57 = .ok (.lconst 0, 1) := by decide +kernel
theorem dX3_nodeValue_58 : decode cX3_nodeValue 58 = .ok (.lreturn, 1) := by decide +kernel
theorem dX3_arcValue_0 : decode cX3_arcValue 0 = .ok (.iload_n 0, 1) := by decide +kernel
theorem dX3_arcValue_1 : decode cX3_arcValue 1 = .ok (.tableswitch 118 0 6 #[43, 47, 51, 57, 73, 89, 116], 43) := by decide +kernel
theorem dX3_arcValue_44 : decode cX3_arcValue 44 = .ok (.lload_n 1, 1) := by decide +kernel
theorem dX3_arcValue_45 : decode cX3_arcValue 45 = .ok (.lconst 1, 1) := by decide +kernel
theorem dX3_arcValue_46 : decode cX3_arcValue 46 = .ok (.ladd, 1) := by decide +kernel
theorem dX3_arcValue_47 : decode cX3_arcValue 47 = .ok (.lreturn, 1) := by decide +kernel
theorem dX3_arcValue_48 : decode cX3_arcValue 48 = .ok (.lload_n 1, 1) := by decide +kernel
theorem dX3_arcValue_49 : decode cX3_arcValue 49 = .ok (.lconst 1, 1) := by decide +kernel
theorem dX3_arcValue_50 : decode cX3_arcValue 50 = .ok (.lsub, 1) := by decide +kernel
theorem dX3_arcValue_51 : decode cX3_arcValue 51 = .ok (.lreturn, 1) := by decide +kernel
theorem dX3_arcValue_52 : decode cX3_arcValue 52 = .ok (.lload_n 1, 1) := by decide +kernel
theorem dX3_arcValue_53 : decode cX3_arcValue 53 = .ok (.ldc2_w 224, 3) := by decide +kernel
theorem dX3_arcValue_56 : decode cX3_arcValue 56 = .ok (.ldiv, 1) := by decide +kernel
theorem dX3_arcValue_57 : decode cX3_arcValue 57 = .ok (.lreturn, 1) := by decide +kernel
theorem dX3_arcValue_58 : decode cX3_arcValue 58 = .ok (.lload_n 1, 1) := by decide +kernel
theorem dX3_arcValue_59 : decode cX3_arcValue 59 = .ok (.lconst 0, 1) := by decide +kernel
theorem dX3_arcValue_60 : decode cX3_arcValue 60 = .ok (.lcmp, 1) := by decide +kernel
theorem dX3_arcValue_61 : decode cX3_arcValue 61 = .ok (.ifCond .ne 7, 3) := by decide +kernel
theorem dX3_arcValue_64 : decode cX3_arcValue 64 = .ok (.lconst 0, 1) := by decide +kernel
theorem dX3_arcValue_65 : decode cX3_arcValue 65 = .ok (.goto 8, 3) := by decide +kernel
theorem dX3_arcValue_68 : decode cX3_arcValue 68 = .ok (.ldc2_w 228, 3) := by decide +kernel
theorem dX3_arcValue_71 : decode cX3_arcValue 71 = .ok (.lload_n 1, 1) := by decide +kernel
theorem dX3_arcValue_72 : decode cX3_arcValue 72 = .ok (.ldiv, 1) := by decide +kernel
theorem dX3_arcValue_73 : decode cX3_arcValue 73 = .ok (.lreturn, 1) := by decide +kernel
theorem dX3_arcValue_74 : decode cX3_arcValue 74 = .ok (.lload_n 1, 1) := by decide +kernel
theorem dX3_arcValue_75 : decode cX3_arcValue 75 = .ok (.lconst 0, 1) := by decide +kernel
theorem dX3_arcValue_76 : decode cX3_arcValue 76 = .ok (.lcmp, 1) := by decide +kernel
theorem dX3_arcValue_77 : decode cX3_arcValue 77 = .ok (.ifCond .ne 7, 3) := by decide +kernel
theorem dX3_arcValue_80 : decode cX3_arcValue 80 = .ok (.lconst 0, 1) := by decide +kernel
theorem dX3_arcValue_81 : decode cX3_arcValue 81 = .ok (.goto 8, 3) := by decide +kernel
theorem dX3_arcValue_84 : decode cX3_arcValue 84 = .ok (.ldc2_w 228, 3) := by decide +kernel
theorem dX3_arcValue_87 : decode cX3_arcValue 87 = .ok (.lload_n 1, 1) := by decide +kernel
theorem dX3_arcValue_88 : decode cX3_arcValue 88 = .ok (.lrem, 1) := by decide +kernel
theorem dX3_arcValue_89 : decode cX3_arcValue 89 = .ok (.lreturn, 1) := by decide +kernel
theorem dX3_arcValue_90 : decode cX3_arcValue 90 = .ok (.lload_n 1, 1) := by decide +kernel
theorem dX3_arcValue_91 : decode cX3_arcValue 91 = .ok (.lconst 0, 1) := by decide +kernel
theorem dX3_arcValue_92 : decode cX3_arcValue 92 = .ok (.lcmp, 1) := by decide +kernel
theorem dX3_arcValue_93 : decode cX3_arcValue 93 = .ok (.ifCond .lt 13, 3) := by decide +kernel
theorem dX3_arcValue_96 : decode cX3_arcValue 96 = .ok (.lload_n 1, 1) := by decide +kernel
theorem dX3_arcValue_97 : decode cX3_arcValue 97 = .ok (.getstatic 214, 3) := by decide +kernel
theorem dX3_arcValue_100 : decode cX3_arcValue 100 = .ok (.arraylength, 1) := by decide +kernel
theorem dX3_arcValue_101 : decode cX3_arcValue 101 = .ok (.i2l, 1) := by decide +kernel
theorem dX3_arcValue_102 : decode cX3_arcValue 102 = .ok (.lcmp, 1) := by decide +kernel
theorem dX3_arcValue_103 : decode cX3_arcValue 103 = .ok (.ifCond .lt 7, 3) := by decide +kernel
theorem dX3_arcValue_106 : decode cX3_arcValue 106 = .ok (.lconst 0, 1) := by decide +kernel
theorem dX3_arcValue_107 : decode cX3_arcValue 107 = .ok (.goto 9, 3) := by decide +kernel
theorem dX3_arcValue_110 : decode cX3_arcValue 110 = .ok (.getstatic 214, 3) := by decide +kernel
theorem dX3_arcValue_113 : decode cX3_arcValue 113 = .ok (.lload_n 1, 1) := by decide +kernel
theorem dX3_arcValue_114 : decode cX3_arcValue 114 = .ok (.l2i, 1) := by decide +kernel
theorem dX3_arcValue_115 : decode cX3_arcValue 115 = .ok (.laload, 1) := by decide +kernel
theorem dX3_arcValue_116 : decode cX3_arcValue 116 = .ok (.lreturn, 1) := by decide +kernel
theorem dX3_arcValue_117 : decode cX3_arcValue 117 = .ok (.lload_n 1, 1) := by decide +kernel
theorem dX3_arcValue_118 : decode cX3_arcValue 118 = .ok (.lreturn, 1) := by decide +kernel
theorem dX3_arcValue_119 : decode cX3_arcValue 119 = .ok (.lconst 0, 1) := by decide +kernel
theorem dX3_arcValue_120 : decode cX3_arcValue 120 = .ok (.lreturn, 1) := by decide +kernel
set_option maxRecDepth 20000 in
theorem ggX3_valueOf_X3_nodeValue : GoodIn wsX3_valueOf wsX3_nodeValue := goodIn_r _ [4, 5, 6] (by decide +kernel) (by decide +kernel)
set_option maxRecDepth 20000 in
theorem gX3_valueOf_X3_nodeValue : GoodIn wsX3_valueOf (va_wsS RX3 217 yX3_nodeValue wsX3_nodeValue) := goodIn_app (goodIn_of _ (by decide +kernel)) ggX3_valueOf_X3_nodeValue
set_option maxRecDepth 20000 in
theorem ggX3_valueOf_X3_arcValue : GoodIn wsX3_valueOf wsX3_arcValue := goodIn_r _ [9, 5, 10, 11] (by decide +kernel) (by decide +kernel)
set_option maxRecDepth 20000 in
theorem gX3_valueOf_X3_arcValue : GoodIn wsX3_valueOf (va_wsS RX3 221 yX3_arcValue wsX3_arcValue) := goodIn_app (goodIn_of _ (by decide +kernel)) ggX3_valueOf_X3_arcValue
theorem dX3_valueOf_0 : decode cX3_valueOf 0 = .ok (.aload_n 0, 1) := by decide +kernel
theorem dX3_valueOf_1 : decode cX3_valueOf 1 = .ok (.getfield 157, 3) := by decide +kernel
theorem dX3_valueOf_4 : decode cX3_valueOf 4 = .ok (.lookupswitch 40 #[(0, 28), (1, 34)], 28) := by decide +kernel
theorem dX3_valueOf_32 : decode cX3_valueOf 32 = .ok (.iload_n 1, 1) := by decide +kernel
theorem dX3_valueOf_33 : decode cX3_valueOf 33 = .ok (.lload_n 2, 1) := by decide +kernel
theorem dX3_valueOf_34 : decode cX3_valueOf 34 = .ok (.invokestatic 217, 3) := by decide +kernel
theorem dX3_valueOf_37 : decode cX3_valueOf 37 = .ok (.lreturn, 1) := by decide +kernel
theorem dX3_valueOf_38 : decode cX3_valueOf 38 = .ok (.iload_n 1, 1) := by decide +kernel
theorem dX3_valueOf_39 : decode cX3_valueOf 39 = .ok (.lload_n 2, 1) := by decide +kernel
theorem dX3_valueOf_40 : decode cX3_valueOf 40 = .ok (.invokestatic 221, 3) := by decide +kernel
theorem dX3_valueOf_43 : decode cX3_valueOf 43 = .ok (.lreturn, 1) := by decide +kernel
theorem dX3_valueOf_44 : decode cX3_valueOf 44 = .ok (.lload_n 2, 1) := by decide +kernel
theorem dX3_valueOf_45 : decode cX3_valueOf 45 = .ok (.iload_n 1, 1) := by decide +kernel
theorem dX3_valueOf_46 : decode cX3_valueOf 46 = .ok (.i2l, 1) := by decide +kernel
theorem dX3_valueOf_47 : decode cX3_valueOf 47 = .ok (.lxor, 1) := by decide +kernel
theorem dX3_valueOf_48 : decode cX3_valueOf 48 = .ok (.lreturn, 1) := by decide +kernel
set_option maxRecDepth 20000 in
theorem ggX3_askRule_X0_startForRule : GoodIn wsX3_askRule wsX0_startForRule := goodIn_r _ [6, 7, 8, 28, 29, 30, 31, 32, 33, 34] (by decide +kernel) (by decide +kernel)
set_option maxRecDepth 20000 in
theorem gX3_askRule_X0_startForRule_n207 : GoodIn wsX3_askRule (wsX0_startForRule) := ggX3_askRule_X0_startForRule
set_option maxRecDepth 20000 in
theorem ggX3_askRule_X3_arcRuleAnswer : GoodIn wsX3_askRule wsX3_arcRuleAnswer := goodIn_r _ [12, 13] (by decide +kernel) (by decide +kernel)
set_option maxRecDepth 20000 in
theorem gX3_askRule_X3_arcRuleAnswer : GoodIn wsX3_askRule (va_wsS RX3 210 yX3_arcRuleAnswer wsX3_arcRuleAnswer) := goodIn_app (goodIn_of _ (by decide +kernel)) ggX3_askRule_X3_arcRuleAnswer
theorem dX3_askRule_0 : decode cX3_askRule 0 = .ok (.aload_n 1, 1) := by decide +kernel
theorem dX3_askRule_1 : decode cX3_askRule 1 = .ok (.invokevirtual 207, 3) := by decide +kernel
theorem dX3_askRule_4 : decode cX3_askRule 4 = .ok (.istore 5, 2) := by decide +kernel
theorem dX3_askRule_6 : decode cX3_askRule 6 = .ok (.iload 5, 2) := by decide +kernel
theorem dX3_askRule_8 : decode cX3_askRule 8 = .ok (.iconst 1, 1) := by decide +kernel
theorem dX3_askRule_9 : decode cX3_askRule 9 = .ok (.if_icmp .eq 6, 3) := by decide +kernel
theorem dX3_askRule_12 : decode cX3_askRule 12 = .ok (.iload 5, 2) := by decide +kernel
theorem dX3_askRule_14 : decode cX3_askRule 14 = .ok (.ireturn, 1) := by decide +kernel
theorem dX3_askRule_15 : decode cX3_askRule 15 = .ok (.aload_n 1, 1) := by decide +kernel
theorem dX3_askRule_16 : decode cX3_askRule 16 = .ok (.aload_n 0, 1) := by decide +kernel
theorem dX3_askRule_17 : decode cX3_askRule 17 = .ok (.getfield 25, 3) := by decide +kernel
theorem dX3_askRule_20 : decode cX3_askRule 20 = .ok (.if_acmp .ne 11, 3) := by decide +kernel
theorem dX3_askRule_23 : decode cX3_askRule 23 = .ok (.iload_n 2, 1) := by decide +kernel
theorem dX3_askRule_24 : decode cX3_askRule 24 = .ok (.lload_n 3, 1) := by decide +kernel
theorem dX3_askRule_25 : decode cX3_askRule 25 = .ok (.invokestatic 210, 3) := by decide +kernel
theorem dX3_askRule_28 : decode cX3_askRule 28 = .ok (.goto 4, 3) := by decide +kernel
theorem dX3_askRule_31 : decode cX3_askRule 31 = .ok (.iconst 1, 1) := by decide +kernel
theorem dX3_askRule_32 : decode cX3_askRule 32 = .ok (.istore 6, 2) := by decide +kernel
theorem dX3_askRule_34 : decode cX3_askRule 34 = .ok (.iload 6, 2) := by decide +kernel
theorem dX3_askRule_36 : decode cX3_askRule 36 = .ok (.iconst 1, 1) := by decide +kernel
theorem dX3_askRule_37 : decode cX3_askRule 37 = .ok (.if_icmp .eq 13, 3) := by decide +kernel
theorem dX3_askRule_40 : decode cX3_askRule 40 = .ok (.aload_n 0, 1) := by decide +kernel
theorem dX3_askRule_41 : decode cX3_askRule 41 = .ok (.dup, 1) := by decide +kernel
theorem dX3_askRule_42 : decode cX3_askRule 42 = .ok (.getfield 56, 3) := by decide +kernel
theorem dX3_askRule_45 : decode cX3_askRule 45 = .ok (.iconst 1, 1) := by decide +kernel
theorem dX3_askRule_46 : decode cX3_askRule 46 = .ok (.iadd, 1) := by decide +kernel
theorem dX3_askRule_47 : decode cX3_askRule 47 = .ok (.putfield 56, 3) := by decide +kernel
theorem dX3_askRule_50 : decode cX3_askRule 50 = .ok (.iload 6, 2) := by decide +kernel
theorem dX3_askRule_52 : decode cX3_askRule 52 = .ok (.ireturn, 1) := by decide +kernel
theorem dX3_joined_0 : decode cX3_joined 0 = .ok (.iload_n 0, 1) := by decide +kernel
theorem dX3_joined_1 : decode cX3_joined 1 = .ok (.tableswitch 59 0 2 #[27, 37, 47], 27) := by decide +kernel
theorem dX3_joined_28 : decode cX3_joined 28 = .ok (.aload_n 1, 1) := by decide +kernel
theorem dX3_joined_29 : decode cX3_joined 29 = .ok (.getfield 148, 3) := by decide +kernel
theorem dX3_joined_32 : decode cX3_joined 32 = .ok (.aload_n 2, 1) := by decide +kernel
theorem dX3_joined_33 : decode cX3_joined 33 = .ok (.getfield 148, 3) := by decide +kernel
theorem dX3_joined_36 : decode cX3_joined 36 = .ok (.ior, 1) := by decide +kernel
theorem dX3_joined_37 : decode cX3_joined 37 = .ok (.ireturn, 1) := by decide +kernel
theorem dX3_joined_38 : decode cX3_joined 38 = .ok (.aload_n 1, 1) := by decide +kernel
theorem dX3_joined_39 : decode cX3_joined 39 = .ok (.getfield 148, 3) := by decide +kernel
theorem dX3_joined_42 : decode cX3_joined 42 = .ok (.aload_n 2, 1) := by decide +kernel
theorem dX3_joined_43 : decode cX3_joined 43 = .ok (.getfield 148, 3) := by decide +kernel
theorem dX3_joined_46 : decode cX3_joined 46 = .ok (.iand, 1) := by decide +kernel
theorem dX3_joined_47 : decode cX3_joined 47 = .ok (.ireturn, 1) := by decide +kernel
theorem dX3_joined_48 : decode cX3_joined 48 = .ok (.aload_n 1, 1) := by decide +kernel
theorem dX3_joined_49 : decode cX3_joined 49 = .ok (.getfield 148, 3) := by decide +kernel
theorem dX3_joined_52 : decode cX3_joined 52 = .ok (.aload_n 2, 1) := by decide +kernel
theorem dX3_joined_53 : decode cX3_joined 53 = .ok (.getfield 148, 3) := by decide +kernel
theorem dX3_joined_56 : decode cX3_joined 56 = .ok (.iconst (-1), 1) := by decide +kernel
theorem dX3_joined_57 : decode cX3_joined 57 = .ok (.ixor, 1) := by decide +kernel
theorem dX3_joined_58 : decode cX3_joined 58 = .ok (.iand, 1) := by decide +kernel
theorem dX3_joined_59 : decode cX3_joined 59 = .ok (.ireturn, 1) := by decide +kernel
theorem dX3_joined_60 : decode cX3_joined 60 = .ok (.iconst 1, 1) := by decide +kernel
theorem dX3_joined_61 : decode cX3_joined 61 = .ok (.aload_n 1, 1) := by decide +kernel
theorem dX3_joined_62 : decode cX3_joined 62 = .ok (.getfield 142, 3) := by decide +kernel
theorem dX3_joined_65 : decode cX3_joined 65 = .ok (.getfield 155, 3) := by decide +kernel
theorem dX3_joined_68 : decode cX3_joined 68 = .ok (.ishl, 1) := by decide +kernel
theorem dX3_joined_69 : decode cX3_joined 69 = .ok (.iconst 1, 1) := by decide +kernel
theorem dX3_joined_70 : decode cX3_joined 70 = .ok (.isub, 1) := by decide +kernel
theorem dX3_joined_71 : decode cX3_joined 71 = .ok (.aload_n 1, 1) := by decide +kernel
theorem dX3_joined_72 : decode cX3_joined 72 = .ok (.getfield 148, 3) := by decide +kernel
theorem dX3_joined_75 : decode cX3_joined 75 = .ok (.iconst (-1), 1) := by decide +kernel
theorem dX3_joined_76 : decode cX3_joined 76 = .ok (.ixor, 1) := by decide +kernel
theorem dX3_joined_77 : decode cX3_joined 77 = .ok (.iand, 1) := by decide +kernel
theorem dX3_joined_78 : decode cX3_joined 78 = .ok (.ireturn, 1) := by decide +kernel
theorem dX3_kindOfItem_0 : decode cX3_kindOfItem 0 = .ok (.iload_n 2, 1) := by decide +kernel
theorem dX3_kindOfItem_1 : decode cX3_kindOfItem 1 = .ok (.ifCond .ne 8, 3) := by decide +kernel
theorem dX3_kindOfItem_4 : decode cX3_kindOfItem 4 = .ok (.aload_n 1, 1) := by decide +kernel
theorem dX3_kindOfItem_5 : decode cX3_kindOfItem 5 = .ok (.getfield 194, 3) := by decide +kernel
theorem dX3_kindOfItem_8 : decode cX3_kindOfItem 8 = .ok (.areturn, 1) := by decide +kernel
theorem dX3_kindOfItem_9 : decode cX3_kindOfItem 9 = .ok (.aload_n 1, 1) := by decide +kernel
theorem dX3_kindOfItem_10 : decode cX3_kindOfItem 10 = .ok (.aload_n 0, 1) := by decide +kernel
theorem dX3_kindOfItem_11 : decode cX3_kindOfItem 11 = .ok (.getfield 45, 3) := by decide +kernel
theorem dX3_kindOfItem_14 : decode cX3_kindOfItem 14 = .ok (.if_acmp .ne 15, 3) := by decide +kernel
theorem dX3_kindOfItem_17 : decode cX3_kindOfItem 17 = .ok (.iload_n 2, 1) := by decide +kernel
theorem dX3_kindOfItem_18 : decode cX3_kindOfItem 18 = .ok (.iconst 2, 1) := by decide +kernel
theorem dX3_kindOfItem_19 : decode cX3_kindOfItem 19 = .ok (.if_icmp .ne 10, 3) := by decide +kernel
theorem dX3_kindOfItem_22 : decode cX3_kindOfItem 22 = .ok (.aload_n 0, 1) := by decide +kernel
theorem dX3_kindOfItem_23 : decode cX3_kindOfItem 23 = .ok (.getfield 31, 3) := by decide +kernel
theorem dX3_kindOfItem_26 : decode cX3_kindOfItem 26 = .ok (.goto 4, 3) := by decide +kernel
theorem dX3_kindOfItem_29 : decode cX3_kindOfItem 29 = .ok (.aconst_null, 1) := by decide +kernel
theorem dX3_kindOfItem_30 : decode cX3_kindOfItem 30 = .ok (.areturn, 1) := by decide +kernel
set_option maxRecDepth 20000 in
theorem ggX3_toCell_X3_kindOfItem : GoodIn wsX3_toCell wsX3_kindOfItem := goodIn_r _ [5, 6, 7, 18, 19, 20, 21, 22, 23, 24, 25, 26, 27, 28, 29, 30, 31, 32, 33, 34, 35, 36] (by decide +kernel) (by decide +kernel)
set_option maxRecDepth 20000 in
theorem gX3_toCell_X3_kindOfItem : GoodIn wsX3_toCell (wsV RX3 230 RX3 yX3_kindOfItem wsX3_kindOfItem) := goodIn_app (goodIn_of _ (by decide +kernel)) ggX3_toCell_X3_kindOfItem
set_option maxRecDepth 20000 in
theorem ggX3_toCell_X0_constantOf : GoodIn wsX3_toCell wsX0_constantOf := goodIn_r _ [11, 12, 13, 14, 15, 9, 16, 17, 37, 38, 39, 40, 41, 42, 43] (by decide +kernel) (by decide +kernel)
set_option maxRecDepth 20000 in
theorem gX3_toCell_X0_constantOf_n108 : GoodIn wsX3_toCell (wsX0_constantOf) := ggX3_toCell_X0_constantOf
theorem dX3_toCell_0 : decode cX3_toCell 0 = .ok (.aload_n 0, 1) := by decide +kernel
theorem dX3_toCell_1 : decode cX3_toCell 1 = .ok (.aload_n 1, 1) := by decide +kernel
theorem dX3_toCell_2 : decode cX3_toCell 2 = .ok (.iload_n 2, 1) := by decide +kernel
theorem dX3_toCell_3 : decode cX3_toCell 3 = .ok (.invokevirtual 230, 3) := by decide +kernel
theorem dX3_toCell_6 : decode cX3_toCell 6 = .ok (.astore 4, 2) := by decide +kernel
theorem dX3_toCell_8 : decode cX3_toCell 8 = .ok (.aload 4, 2) := by decide +kernel
theorem dX3_toCell_10 : decode cX3_toCell 10 = .ok (.ifnonnull 7, 3) := by decide +kernel
theorem dX3_toCell_13 : decode cX3_toCell 13 = .ok (.iload_n 3, 1) := by decide +kernel
theorem dX3_toCell_14 : decode cX3_toCell 14 = .ok (.goto 9, 3) := by decide +kernel
theorem dX3_toCell_17 : decode cX3_toCell 17 = .ok (.aload 4, 2) := by decide +kernel
theorem dX3_toCell_19 : decode cX3_toCell 19 = .ok (.iload_n 3, 1) := by decide +kernel
theorem dX3_toCell_20 : decode cX3_toCell 20 = .ok (.invokevirtual 108, 3) := by decide +kernel
theorem dX3_toCell_23 : decode cX3_toCell 23 = .ok (.ireturn, 1) := by decide +kernel
set_option maxRecDepth 20000 in
theorem ggX3_fromCell_X3_kindOfItem : GoodIn wsX3_fromCell wsX3_kindOfItem := goodIn_r _ [5, 6, 7, 18, 19, 20, 21, 22, 23, 24, 25, 26, 27, 28, 29, 30, 31, 32, 33, 34, 35, 36] (by decide +kernel) (by decide +kernel)
set_option maxRecDepth 20000 in
theorem gX3_fromCell_X3_kindOfItem : GoodIn wsX3_fromCell (wsV RX3 230 RX3 yX3_kindOfItem wsX3_kindOfItem) := goodIn_app (goodIn_of _ (by decide +kernel)) ggX3_fromCell_X3_kindOfItem
set_option maxRecDepth 20000 in
theorem ggX3_fromCell_X0_codeOf : GoodIn wsX3_fromCell wsX0_codeOf := goodIn_r _ [11, 12, 13, 14, 15, 9, 16, 17, 37, 38, 39, 40, 41, 42, 43] (by decide +kernel) (by decide +kernel)
set_option maxRecDepth 20000 in
theorem gX3_fromCell_X0_codeOf_n90 : GoodIn wsX3_fromCell (wsX0_codeOf) := ggX3_fromCell_X0_codeOf
theorem dX3_fromCell_0 : decode cX3_fromCell 0 = .ok (.aload_n 0, 1) := by decide +kernel
theorem dX3_fromCell_1 : decode cX3_fromCell 1 = .ok (.aload_n 1, 1) := by decide +kernel
theorem dX3_fromCell_2 : decode cX3_fromCell 2 = .ok (.iload_n 2, 1) := by decide +kernel
theorem dX3_fromCell_3 : decode cX3_fromCell 3 = .ok (.invokevirtual 230, 3) := by decide +kernel
theorem dX3_fromCell_6 : decode cX3_fromCell 6 = .ok (.astore 4, 2) := by decide +kernel
theorem dX3_fromCell_8 : decode cX3_fromCell 8 = .ok (.aload 4, 2) := by decide +kernel
theorem dX3_fromCell_10 : decode cX3_fromCell 10 = .ok (.ifnonnull 7, 3) := by decide +kernel
theorem dX3_fromCell_13 : decode cX3_fromCell 13 = .ok (.iload_n 3, 1) := by decide +kernel
theorem dX3_fromCell_14 : decode cX3_fromCell 14 = .ok (.goto 9, 3) := by decide +kernel
theorem dX3_fromCell_17 : decode cX3_fromCell 17 = .ok (.aload 4, 2) := by decide +kernel
theorem dX3_fromCell_19 : decode cX3_fromCell 19 = .ok (.iload_n 3, 1) := by decide +kernel
theorem dX3_fromCell_20 : decode cX3_fromCell 20 = .ok (.invokevirtual 90, 3) := by decide +kernel
theorem dX3_fromCell_23 : decode cX3_fromCell 23 = .ok (.ireturn, 1) := by decide +kernel
set_option maxRecDepth 20000 in
theorem ggX3_highestOf_X3_kindOfItem : GoodIn wsX3_highestOf wsX3_kindOfItem := goodIn_r _ [7, 1, 8, 16, 17, 18, 19, 20, 21, 22, 23, 24, 25, 26, 27, 28, 29, 30, 31, 32, 33, 34] (by decide +kernel) (by decide +kernel)
set_option maxRecDepth 20000 in
theorem gX3_highestOf_X3_kindOfItem : GoodIn wsX3_highestOf (wsV RX3 230 RX3 yX3_kindOfItem wsX3_kindOfItem) := goodIn_app (goodIn_of _ (by decide +kernel)) ggX3_highestOf_X3_kindOfItem
theorem dX3_highestOf_0 : decode cX3_highestOf 0 = .ok (.aload_n 0, 1) := by decide +kernel
theorem dX3_highestOf_1 : decode cX3_highestOf 1 = .ok (.aload_n 1, 1) := by decide +kernel
theorem dX3_highestOf_2 : decode cX3_highestOf 2 = .ok (.iload_n 2, 1) := by decide +kernel
theorem dX3_highestOf_3 : decode cX3_highestOf 3 = .ok (.invokevirtual 230, 3) := by decide +kernel
theorem dX3_highestOf_6 : decode cX3_highestOf 6 = .ok (.astore_n 3, 1) := by decide +kernel
theorem dX3_highestOf_7 : decode cX3_highestOf 7 = .ok (.aload_n 3, 1) := by decide +kernel
theorem dX3_highestOf_8 : decode cX3_highestOf 8 = .ok (.ifnull 10, 3) := by decide +kernel
theorem dX3_highestOf_11 : decode cX3_highestOf 11 = .ok (.aload_n 3, 1) := by decide +kernel
theorem dX3_highestOf_12 : decode cX3_highestOf 12 = .ok (.getfield 155, 3) := by decide +kernel
theorem dX3_highestOf_15 : decode cX3_highestOf 15 = .ok (.iconst 1, 1) := by decide +kernel
theorem dX3_highestOf_16 : decode cX3_highestOf 16 = .ok (.isub, 1) := by decide +kernel
theorem dX3_highestOf_17 : decode cX3_highestOf 17 = .ok (.ireturn, 1) := by decide +kernel
theorem dX3_highestOf_18 : decode cX3_highestOf 18 = .ok (.iload_n 2, 1) := by decide +kernel
theorem dX3_highestOf_19 : decode cX3_highestOf 19 = .ok (.aload_n 1, 1) := by decide +kernel
theorem dX3_highestOf_20 : decode cX3_highestOf 20 = .ok (.getfield 204, 3) := by decide +kernel
theorem dX3_highestOf_23 : decode cX3_highestOf 23 = .ok (.if_icmp .ne 20, 3) := by decide +kernel
theorem dX3_highestOf_26 : decode cX3_highestOf 26 = .ok (.aload_n 1, 1) := by decide +kernel
theorem dX3_highestOf_27 : decode cX3_highestOf 27 = .ok (.aload_n 0, 1) := by decide +kernel
theorem dX3_highestOf_28 : decode cX3_highestOf 28 = .ok (.getfield 45, 3) := by decide +kernel
theorem dX3_highestOf_31 : decode cX3_highestOf 31 = .ok (.if_acmp .ne 9, 3) := by decide +kernel
theorem dX3_highestOf_34 : decode cX3_highestOf 34 = .ok (.sipush 1000, 3) := by decide +kernel
theorem dX3_highestOf_37 : decode cX3_highestOf 37 = .ok (.goto 5, 3) := by decide +kernel
theorem dX3_highestOf_40 : decode cX3_highestOf 40 = .ok (.ldc 238, 2) := by decide +kernel
theorem dX3_highestOf_42 : decode cX3_highestOf 42 = .ok (.ireturn, 1) := by decide +kernel
theorem dX3_highestOf_43 : decode cX3_highestOf 43 = .ok (.aload_n 0, 1) := by decide +kernel
theorem dX3_highestOf_44 : decode cX3_highestOf 44 = .ok (.getfield 45, 3) := by decide +kernel
theorem dX3_highestOf_47 : decode cX3_highestOf 47 = .ok (.getfield 164, 3) := by decide +kernel
theorem dX3_highestOf_50 : decode cX3_highestOf 50 = .ok (.iconst 1, 1) := by decide +kernel
theorem dX3_highestOf_51 : decode cX3_highestOf 51 = .ok (.isub, 1) := by decide +kernel
theorem dX3_highestOf_52 : decode cX3_highestOf 52 = .ok (.ireturn, 1) := by decide +kernel
set_option maxRecDepth 20000 in
theorem ggX3_wrongItem_X3_highestOf : GoodIn wsX3_wrongItem wsX3_highestOf := goodIn_r _ [7, 8, 9, 10, 11, 12, 6, 13, 14, 37, 38, 39, 40, 41, 42, 43, 18, 19, 20, 21, 22, 23, 24, 25, 26, 27, 28, 29, 30, 31, 32, 33, 34, 35, 36] (by decide +kernel) (by decide +kernel)
set_option maxRecDepth 20000 in
theorem gX3_wrongItem_X3_highestOf : GoodIn wsX3_wrongItem (wsV RX3 234 RX3 yX3_highestOf wsX3_highestOf) := goodIn_app (goodIn_of _ (by decide +kernel)) ggX3_wrongItem_X3_highestOf
set_option maxRecDepth 20000 in
theorem ggX3_wrongItem_X3_isFromTo : GoodIn wsX3_wrongItem wsX3_isFromTo := goodIn_r _ [17] (by decide +kernel) (by decide +kernel)
set_option maxRecDepth 20000 in
theorem gX3_wrongItem_X3_isFromTo : GoodIn wsX3_wrongItem (va_wsS RX3 198 yX3_isFromTo wsX3_isFromTo) := goodIn_app (goodIn_of _ (by decide +kernel)) ggX3_wrongItem_X3_isFromTo
theorem dX3_wrongItem_0 : decode cX3_wrongItem 0 = .ok (.iconst 0, 1) := by decide +kernel
theorem dX3_wrongItem_1 : decode cX3_wrongItem 1 = .ok (.istore_n 2, 1) := by decide +kernel
theorem dX3_wrongItem_2 : decode cX3_wrongItem 2 = .ok (.iload_n 2, 1) := by decide +kernel
theorem dX3_wrongItem_3 : decode cX3_wrongItem 3 = .ok (.aload_n 1, 1) := by decide +kernel
theorem dX3_wrongItem_4 : decode cX3_wrongItem 4 = .ok (.getfield 173, 3) := by decide +kernel
theorem dX3_wrongItem_7 : decode cX3_wrongItem 7 = .ok (.if_icmp .ge 30, 3) := by decide +kernel
theorem dX3_wrongItem_10 : decode cX3_wrongItem 10 = .ok (.aload_n 0, 1) := by decide +kernel
theorem dX3_wrongItem_11 : decode cX3_wrongItem 11 = .ok (.getfield 63, 3) := by decide +kernel
theorem dX3_wrongItem_14 : decode cX3_wrongItem 14 = .ok (.iload_n 2, 1) := by decide +kernel
theorem dX3_wrongItem_15 : decode cX3_wrongItem 15 = .ok (.iaload, 1) := by decide +kernel
theorem dX3_wrongItem_16 : decode cX3_wrongItem 16 = .ok (.iconst 0, 1) := by decide +kernel
theorem dX3_wrongItem_17 : decode cX3_wrongItem 17 = .ok (.aload_n 0, 1) := by decide +kernel
theorem dX3_wrongItem_18 : decode cX3_wrongItem 18 = .ok (.aload_n 1, 1) := by decide +kernel
theorem dX3_wrongItem_19 : decode cX3_wrongItem 19 = .ok (.iload_n 2, 1) := by decide +kernel
theorem dX3_wrongItem_20 : decode cX3_wrongItem 20 = .ok (.invokevirtual 234, 3) := by decide +kernel
theorem dX3_wrongItem_23 : decode cX3_wrongItem 23 = .ok (.invokestatic 198, 3) := by decide +kernel
theorem dX3_wrongItem_26 : decode cX3_wrongItem 26 = .ok (.ifCond .ne 5, 3) := by decide +kernel
theorem dX3_wrongItem_29 : decode cX3_wrongItem 29 = .ok (.iload_n 2, 1) := by decide +kernel
theorem dX3_wrongItem_30 : decode cX3_wrongItem 30 = .ok (.ireturn, 1) := by decide +kernel
theorem dX3_wrongItem_31 : decode cX3_wrongItem 31 = .ok (.iinc 2 1, 3) := by decide +kernel
theorem dX3_wrongItem_34 : decode cX3_wrongItem 34 = .ok (.goto (-32), 3) := by decide +kernel
theorem dX3_wrongItem_37 : decode cX3_wrongItem 37 = .ok (.aload_n 1, 1) := by decide +kernel
theorem dX3_wrongItem_38 : decode cX3_wrongItem 38 = .ok (.aload_n 0, 1) := by decide +kernel
theorem dX3_wrongItem_39 : decode cX3_wrongItem 39 = .ok (.getfield 49, 3) := by decide +kernel
theorem dX3_wrongItem_42 : decode cX3_wrongItem 42 = .ok (.if_acmp .ne 22, 3) := by decide +kernel
theorem dX3_wrongItem_45 : decode cX3_wrongItem 45 = .ok (.aload_n 0, 1) := by decide +kernel
theorem dX3_wrongItem_46 : decode cX3_wrongItem 46 = .ok (.getfield 63, 3) := by decide +kernel
theorem dX3_wrongItem_49 : decode cX3_wrongItem 49 = .ok (.iconst 1, 1) := by decide +kernel
theorem dX3_wrongItem_50 : decode cX3_wrongItem 50 = .ok (.iaload, 1) := by decide +kernel
theorem dX3_wrongItem_51 : decode cX3_wrongItem 51 = .ok (.aload_n 0, 1) := by decide +kernel
theorem dX3_wrongItem_52 : decode cX3_wrongItem 52 = .ok (.getfield 63, 3) := by decide +kernel
theorem dX3_wrongItem_55 : decode cX3_wrongItem 55 = .ok (.iconst 2, 1) := by decide +kernel
theorem dX3_wrongItem_56 : decode cX3_wrongItem 56 = .ok (.iaload, 1) := by decide +kernel
theorem dX3_wrongItem_57 : decode cX3_wrongItem 57 = .ok (.if_icmp .ne 7, 3) := by decide +kernel
theorem dX3_wrongItem_60 : decode cX3_wrongItem 60 = .ok (.iconst 2, 1) := by decide +kernel
theorem dX3_wrongItem_61 : decode cX3_wrongItem 61 = .ok (.goto 4, 3) := by decide +kernel
theorem dX3_wrongItem_64 : decode cX3_wrongItem 64 = .ok (.iconst (-1), 1) := by decide +kernel
theorem dX3_wrongItem_65 : decode cX3_wrongItem 65 = .ok (.ireturn, 1) := by decide +kernel
end
section
theorem li_X3_kindNumbered_X3 : ∀ w ∈ u_ws RX3 TX3 14, w ∈ wsX3_kindNumbered := by decide +kernel
theorem lk_X3_kindNumbered_1 : (.fieldLink RX3 18 "RecordLabels" "nodeKind" "LRecordLabels$Kind;" : Cond) ∈ wsX3_kindNumbered := by decide +kernel
theorem lk_X3_kindNumbered_2 : (.fieldLink RX3 25 "RecordLabels" "arcKind" "LRecordLabels$Kind;" : Cond) ∈ wsX3_kindNumbered := by decide +kernel
theorem lk_X3_kindNumbered_3 : (.fieldLink RX3 31 "RecordLabels" "signKind" "LRecordLabels$Kind;" : Cond) ∈ wsX3_kindNumbered := by decide +kernel
def fX3_kindNumbered (ad : ow_Ad) (st : ow_St) (x1 : Int32) : Option Nat := (if x1 = 0 then some (ad 1 0) else (if x1 = 1 then some (ad 1 1) else (if x1 = 2 then some (ad 1 2) else none)))
set_option maxHeartbeats 4000000 in
set_option maxRecDepth 100000 in
theorem kX3_kindNumbered (l : Launch) (D : va_G) (ca : Nat → ClassId) (ad : ow_Ad) (A : Nat → Prop) (st : ow_St) (x1 : Int32) : Met l yX3_kindNumbered wsX3_kindNumbered ({ frames := 0, cells := 0, slots := 0, locals := 0 }) (va_Pc [.ref (ad 0 0), .int x1] (ow_W D ca ad A st)) (va_Qq (fun r st' => r = (fX3_kindNumbered ad st x1) ∧ st' = st) (ow_B D ca ad) A) 0 0 A := by
  refine Met.ofW (cc := cX3_kindNumbered) (maxL := 2) (ret := (some (.object "RecordLabels$Kind"))) (by decide) rfl ?_
  intro p e s m args below meth c s₁ B hml hv
  obtain ⟨rfl, hP, hC⟩ := hv
  have hx := B.exec
  have hb := B.bytes
  have hr := B.returns
  have hts := atoms_spec (ws := wsX3_kindNumbered) B.pre
  have hown : s.vm.findClass RX3 = some m.cls := findClass_of_methodNamed B.named
  have hlocks := B.notSynchronized
  have hS : va_S A s.heap s.heap [] := va_S.rf
  have hl := lv_entry ([.ref (ad 0 0), .int x1]) (n := 2) (Nat.le_of_ble_eq_true rfl)
  rw [lg_entry_eq]
  generalize (lg_sl ([.ref (ad 0 0), .int x1]) ++ List.replicate (2 - (lg_sl ([.ref (ad 0 0), .int x1])).length) Slot.unset).toArray = ls at hl ⊢
  have hl : lv_has ls 2 [(0, .ref (ad 0 0)), (1, .int x1)] := hl
  refine lv_iload_n hx hb dX3_kindNumbered_0 rfl (lv_at hl 1 rfl) ?_
  by_cases c_1 : x1 = 0
  · refine lv_tableIn (tgt := 28) (off := 27) hx hb dX3_kindNumbered_1 (by rw [c_1]; decide) (by rw [c_1]; decide) (by rw [c_1]; rfl) (by decide) ?_
    refine lv_aload_n hx hb dX3_kindNumbered_28 rfl (lv_at hl 0 rfl) ?_
    refine og_get (C := RX3) (T := TX3) (N := 14) (g := 0) (i := 0) (v := .ref (ad 1 0)) hx hb hts li_X3_kindNumbered_X3 hown hC hP (ow_q0_0) rfl rfl 0 (by decide) (hts _ lk_X3_kindNumbered_1) rfl rfl dX3_kindNumbered_29 ?_
    exact W.aret (v := va_rf (some (ad 1 0))) hx hb hr (Or.inl ⟨_, rfl⟩) (Or.inr ⟨_, rfl⟩) (fun t ht hW => ⟨⟨(some (ad 1 0)), st, rfl, ⟨(by simp only [fX3_kindNumbered, if_pos c_1]), rfl⟩, ow_Bi ht hP⟩, hS.F ht⟩) hS.2.2 dX3_kindNumbered_32
  · by_cases c_2 : x1 = 1
    · refine lv_tableIn (tgt := 33) (off := 32) hx hb dX3_kindNumbered_1 (by rw [c_2]; decide) (by rw [c_2]; decide) (by rw [c_2]; rfl) (by decide) ?_
      refine lv_aload_n hx hb dX3_kindNumbered_33 rfl (lv_at hl 0 rfl) ?_
      refine og_get (C := RX3) (T := TX3) (N := 14) (g := 0) (i := 0) (v := .ref (ad 1 1)) hx hb hts li_X3_kindNumbered_X3 hown hC hP (ow_q0_0) rfl rfl 1 (by decide) (hts _ lk_X3_kindNumbered_2) rfl rfl dX3_kindNumbered_34 ?_
      exact W.aret (v := va_rf (some (ad 1 1))) hx hb hr (Or.inl ⟨_, rfl⟩) (Or.inr ⟨_, rfl⟩) (fun t ht hW => ⟨⟨(some (ad 1 1)), st, rfl, ⟨(by simp only [fX3_kindNumbered, if_neg c_1, if_pos c_2]), rfl⟩, ow_Bi ht hP⟩, hS.F ht⟩) hS.2.2 dX3_kindNumbered_37
    · by_cases c_3 : x1 = 2
      · refine lv_tableIn (tgt := 38) (off := 37) hx hb dX3_kindNumbered_1 (by rw [c_3]; decide) (by rw [c_3]; decide) (by rw [c_3]; rfl) (by decide) ?_
        refine lv_aload_n hx hb dX3_kindNumbered_38 rfl (lv_at hl 0 rfl) ?_
        refine og_get (C := RX3) (T := TX3) (N := 14) (g := 0) (i := 0) (v := .ref (ad 1 2)) hx hb hts li_X3_kindNumbered_X3 hown hC hP (ow_q0_0) rfl rfl 2 (by decide) (hts _ lk_X3_kindNumbered_3) rfl rfl dX3_kindNumbered_39 ?_
        exact W.aret (v := va_rf (some (ad 1 2))) hx hb hr (Or.inl ⟨_, rfl⟩) (Or.inr ⟨_, rfl⟩) (fun t ht hW => ⟨⟨(some (ad 1 2)), st, rfl, ⟨(by simp only [fX3_kindNumbered, if_neg c_1, if_neg c_2, if_pos c_3]), rfl⟩, ow_Bi ht hP⟩, hS.F ht⟩) hS.2.2 dX3_kindNumbered_42
      · refine lv_tableOut (tgt := 43) hx hb dX3_kindNumbered_1 (by have h0 := ow_ne (n := 0) 0 rfl c_1; have h1 := ow_ne (n := 1) 1 rfl c_2; have h2 := ow_ne (n := 2) 2 rfl c_3; omega) (by decide) ?_
        refine lv_null hx hb dX3_kindNumbered_43 ?_
        exact W.aret (v := va_rf none) hx hb hr (Or.inl ⟨_, rfl⟩) (Or.inl rfl) (fun t ht hW => ⟨⟨none, st, rfl, ⟨(by simp only [fX3_kindNumbered, if_neg c_1, if_neg c_2, if_neg c_3]), rfl⟩, ow_Bi ht hP⟩, hS.F ht⟩) hS.2.2 dX3_kindNumbered_44

theorem li_X3_tableNumbered_X3 : ∀ w ∈ u_ws RX3 TX3 14, w ∈ wsX3_tableNumbered := by decide +kernel
theorem lk_X3_tableNumbered_1 : (.fieldLink RX3 45 "RecordLabels" "nodeTable" "LRecordLabels$Table;" : Cond) ∈ wsX3_tableNumbered := by decide +kernel
theorem lk_X3_tableNumbered_2 : (.fieldLink RX3 49 "RecordLabels" "arcTable" "LRecordLabels$Table;" : Cond) ∈ wsX3_tableNumbered := by decide +kernel
def fX3_tableNumbered (ad : ow_Ad) (st : ow_St) (x1 : Int32) : Option Nat := (if x1 = 0 then some (ad 6 0) else (if x1 = 1 then some (ad 6 1) else none))
set_option maxHeartbeats 4000000 in
set_option maxRecDepth 100000 in
theorem kX3_tableNumbered (l : Launch) (D : va_G) (ca : Nat → ClassId) (ad : ow_Ad) (A : Nat → Prop) (st : ow_St) (x1 : Int32) : Met l yX3_tableNumbered wsX3_tableNumbered ({ frames := 0, cells := 0, slots := 0, locals := 0 }) (va_Pc [.ref (ad 0 0), .int x1] (ow_W D ca ad A st)) (va_Qq (fun r st' => r = (fX3_tableNumbered ad st x1) ∧ st' = st) (ow_B D ca ad) A) 0 0 A := by
  refine Met.ofW (cc := cX3_tableNumbered) (maxL := 2) (ret := (some (.object "RecordLabels$Table"))) (by decide) rfl ?_
  intro p e s m args below meth c s₁ B hml hv
  obtain ⟨rfl, hP, hC⟩ := hv
  have hx := B.exec
  have hb := B.bytes
  have hr := B.returns
  have hts := atoms_spec (ws := wsX3_tableNumbered) B.pre
  have hown : s.vm.findClass RX3 = some m.cls := findClass_of_methodNamed B.named
  have hlocks := B.notSynchronized
  have hS : va_S A s.heap s.heap [] := va_S.rf
  have hl := lv_entry ([.ref (ad 0 0), .int x1]) (n := 2) (Nat.le_of_ble_eq_true rfl)
  rw [lg_entry_eq]
  generalize (lg_sl ([.ref (ad 0 0), .int x1]) ++ List.replicate (2 - (lg_sl ([.ref (ad 0 0), .int x1])).length) Slot.unset).toArray = ls at hl ⊢
  have hl : lv_has ls 2 [(0, .ref (ad 0 0)), (1, .int x1)] := hl
  refine lv_iload_n hx hb dX3_tableNumbered_0 rfl (lv_at hl 1 rfl) ?_
  by_cases c_1 : x1 = 0
  · refine lv_lookup (tgt := 28) (off := 27) hx hb dX3_tableNumbered_1 (by decide) (by rw [c_1]; decide) (by decide) ?_
    refine lv_aload_n hx hb dX3_tableNumbered_28 rfl (lv_at hl 0 rfl) ?_
    refine og_get (C := RX3) (T := TX3) (N := 14) (g := 0) (i := 0) (v := .ref (ad 6 0)) hx hb hts li_X3_tableNumbered_X3 hown hC hP (ow_q0_0) rfl rfl 4 (by decide) (hts _ lk_X3_tableNumbered_1) rfl rfl dX3_tableNumbered_29 ?_
    exact W.aret (v := va_rf (some (ad 6 0))) hx hb hr (Or.inl ⟨_, rfl⟩) (Or.inr ⟨_, rfl⟩) (fun t ht hW => ⟨⟨(some (ad 6 0)), st, rfl, ⟨(by simp only [fX3_tableNumbered, if_pos c_1]), rfl⟩, ow_Bi ht hP⟩, hS.F ht⟩) hS.2.2 dX3_tableNumbered_32
  · by_cases c_2 : x1 = 1
    · refine lv_lookup (tgt := 33) (off := 32) hx hb dX3_tableNumbered_1 (by decide) (by rw [c_2]; decide) (by decide) ?_
      refine lv_aload_n hx hb dX3_tableNumbered_33 rfl (lv_at hl 0 rfl) ?_
      refine og_get (C := RX3) (T := TX3) (N := 14) (g := 0) (i := 0) (v := .ref (ad 6 1)) hx hb hts li_X3_tableNumbered_X3 hown hC hP (ow_q0_0) rfl rfl 5 (by decide) (hts _ lk_X3_tableNumbered_2) rfl rfl dX3_tableNumbered_34 ?_
      exact W.aret (v := va_rf (some (ad 6 1))) hx hb hr (Or.inl ⟨_, rfl⟩) (Or.inr ⟨_, rfl⟩) (fun t ht hW => ⟨⟨(some (ad 6 1)), st, rfl, ⟨(by simp only [fX3_tableNumbered, if_neg c_1, if_pos c_2]), rfl⟩, ow_Bi ht hP⟩, hS.F ht⟩) hS.2.2 dX3_tableNumbered_37
    · refine lv_lookup (tgt := 38) (off := 37) hx hb dX3_tableNumbered_1 (by decide) (by simp only []; rw [lv_osw (k := 0) (a := 0) c_1 rfl]; rw [lv_osw (k := 1) (a := 1) c_2 rfl]; rfl) (by decide) ?_
      refine lv_null hx hb dX3_tableNumbered_38 ?_
      exact W.aret (v := va_rf none) hx hb hr (Or.inl ⟨_, rfl⟩) (Or.inl rfl) (fun t ht hW => ⟨⟨none, st, rfl, ⟨(by simp only [fX3_tableNumbered, if_neg c_1, if_neg c_2]), rfl⟩, ow_Bi ht hP⟩, hS.F ht⟩) hS.2.2 dX3_tableNumbered_39

theorem li_X3_setNumbered_X3 : ∀ w ∈ u_ws RX3 TX3 14, w ∈ wsX3_setNumbered := by decide +kernel
theorem lk_X3_setNumbered_1 : (.fieldLink RX3 36 "RecordLabels" "sets" "[LRecordLabels$LabelSet;" : Cond) ∈ wsX3_setNumbered := by decide +kernel
def fX3_setNumbered (ad : ow_Ad) (st : ow_St) (x1 : Int32) : Option Nat := (if x1 < 0 then none else (if 10 ≤ x1 then none else some (ad 5 x1.toNatClampNeg)))
set_option maxHeartbeats 4000000 in
set_option maxRecDepth 100000 in
theorem kX3_setNumbered (l : Launch) (D : va_G) (ca : Nat → ClassId) (ad : ow_Ad) (A : Nat → Prop) (st : ow_St) (x1 : Int32) : Met l yX3_setNumbered wsX3_setNumbered ({ frames := 0, cells := 0, slots := 0, locals := 0 }) (va_Pc [.ref (ad 0 0), .int x1] (ow_W D ca ad A st)) (va_Qq (fun r st' => r = (fX3_setNumbered ad st x1) ∧ st' = st) (ow_B D ca ad) A) 0 0 A := by
  refine Met.ofW (cc := cX3_setNumbered) (maxL := 2) (ret := (some (.object "RecordLabels$LabelSet"))) (by decide) rfl ?_
  intro p e s m args below meth c s₁ B hml hv
  obtain ⟨rfl, hP, hC⟩ := hv
  have hx := B.exec
  have hb := B.bytes
  have hr := B.returns
  have hts := atoms_spec (ws := wsX3_setNumbered) B.pre
  have hown : s.vm.findClass RX3 = some m.cls := findClass_of_methodNamed B.named
  have hlocks := B.notSynchronized
  have hS : va_S A s.heap s.heap [] := va_S.rf
  have hl := lv_entry ([.ref (ad 0 0), .int x1]) (n := 2) (Nat.le_of_ble_eq_true rfl)
  rw [lg_entry_eq]
  generalize (lg_sl ([.ref (ad 0 0), .int x1]) ++ List.replicate (2 - (lg_sl ([.ref (ad 0 0), .int x1])).length) Slot.unset).toArray = ls at hl ⊢
  have hl : lv_has ls 2 [(0, .ref (ad 0 0)), (1, .int x1)] := hl
  refine lv_iload_n hx hb dX3_setNumbered_0 rfl (lv_at hl 1 rfl) ?_
  refine lv_if_lt (tgt := 19) hx hb dX3_setNumbered_1 (by decide) (fun c_1 => ?_) (fun c_1 => ?_)
  · refine lv_null hx hb dX3_setNumbered_19 ?_
    exact W.aret (v := va_rf none) hx hb hr (Or.inl ⟨_, rfl⟩) (Or.inl rfl) (fun t ht hW => ⟨⟨none, st, rfl, ⟨(by simp only [fX3_setNumbered, if_pos c_1]), rfl⟩, ow_Bi ht hP⟩, hS.F ht⟩) hS.2.2 dX3_setNumbered_20
  · refine lv_iload_n hx hb dX3_setNumbered_4 rfl (lv_at hl 1 rfl) ?_
    refine lv_bipush (v := 10) hx hb dX3_setNumbered_5 (by decide) ?_
    refine lv_icmp_ge (tgt := 19) hx hb dX3_setNumbered_7 (by decide) (fun c_2 => ?_) (fun c_2 => ?_)
    · refine lv_null hx hb dX3_setNumbered_19 ?_
      exact W.aret (v := va_rf none) hx hb hr (Or.inl ⟨_, rfl⟩) (Or.inl rfl) (fun t ht hW => ⟨⟨none, st, rfl, ⟨(by simp only [fX3_setNumbered, if_neg c_1, if_pos c_2]), rfl⟩, ow_Bi ht hP⟩, hS.F ht⟩) hS.2.2 dX3_setNumbered_20
    · refine lv_aload_n hx hb dX3_setNumbered_10 rfl (lv_at hl 0 rfl) ?_
      refine og_get (C := RX3) (T := TX3) (N := 14) (g := 0) (i := 0) (v := .ref (ad 4 0)) hx hb hts li_X3_setNumbered_X3 hown hC hP (ow_q0_0) rfl rfl 3 (by decide) (hts _ lk_X3_setNumbered_1) rfl rfl dX3_setNumbered_11 ?_
      refine lv_iload_n hx hb dX3_setNumbered_14 rfl (lv_at hl 1 rfl) ?_
      refine og_aald (g := 4) (i := 0) (v := ad 5 x1.toNatClampNeg) (C := "RecordLabels$LabelSet") (t0 := 3) hx hb hC hP ow_q4_0 rfl rfl (ow_i10 c_1 c_2) (if_pos (ow_b10 c_1 c_2)) dX3_setNumbered_15 ?_
      refine lv_goto (tgt := 20) hx hb dX3_setNumbered_16 (by decide) ?_
      exact W.aret (v := va_rf (some (ad 5 x1.toNatClampNeg))) hx hb hr (Or.inl ⟨_, rfl⟩) (Or.inr ⟨_, rfl⟩) (fun t ht hW => ⟨⟨(some (ad 5 x1.toNatClampNeg)), st, rfl, ⟨(by simp only [fX3_setNumbered, if_neg c_1, if_neg c_2]), rfl⟩, ow_Bi ht hP⟩, hS.F ht⟩) hS.2.2 dX3_setNumbered_20

theorem setN_b {x : Int32} (h : ¬ (x < 0 ∨ 10 ≤ x)) : x.toNatClampNeg < 10 := ow_b10 (fun a => h (Or.inl a)) (fun a => h (Or.inr a))
theorem setN_none {ad : ow_Ad} {st : ow_St} {x : Int32} (h : x < 0 ∨ 10 ≤ x) : fX3_setNumbered ad st x = none := by
  unfold fX3_setNumbered
  by_cases c1 : x < 0
  · rw [if_pos c1]
  · rw [if_neg c1]
    rcases h with h | h
    · exact absurd h c1
    · rw [if_pos h]
theorem setN_some {ad : ow_Ad} {st : ow_St} {x : Int32} (h : ¬ (x < 0 ∨ 10 ≤ x)) : fX3_setNumbered ad st x = some (ad 5 x.toNatClampNeg) := by
  unfold fX3_setNumbered
  rw [if_neg (fun a => h (Or.inl a)), if_neg (fun a => h (Or.inr a))]

def fX3_oneIf (st : ow_St) (x0 : Int32) : Int32 := (if x0 = 0 then 0 else 1)
set_option maxHeartbeats 4000000 in
set_option maxRecDepth 100000 in
theorem kX3_oneIf (l : Launch) (D : va_G) (ca : Nat → ClassId) (ad : ow_Ad) (A : Nat → Prop) (st : ow_St) (x0 : Int32) : Met l yX3_oneIf wsX3_oneIf ({ frames := 0, cells := 0, slots := 0, locals := 0 }) (va_Pc [.int x0] (ow_W D ca ad A st)) (va_Qi (fun r st' => r = (fX3_oneIf st x0) ∧ st' = st) (ow_B D ca ad) A) 0 0 A := by
  refine Met.ofW (cc := cX3_oneIf) (maxL := 1) (ret := (some .int)) (by decide) rfl ?_
  intro p e s m args below meth c s₁ B hml hv
  obtain ⟨rfl, hP, hC⟩ := hv
  have hx := B.exec
  have hb := B.bytes
  have hr := B.returns
  have hts := atoms_spec (ws := wsX3_oneIf) B.pre
  have hown : s.vm.findClass RX3 = some m.cls := findClass_of_methodNamed B.named
  have hlocks := B.notSynchronized
  have hS : va_S A s.heap s.heap [] := va_S.rf
  have hl := lv_entry ([.int x0]) (n := 1) (Nat.le_of_ble_eq_true rfl)
  rw [lg_entry_eq]
  generalize (lg_sl ([.int x0]) ++ List.replicate (1 - (lg_sl ([.int x0])).length) Slot.unset).toArray = ls at hl ⊢
  have hl : lv_has ls 1 [(0, .int x0)] := hl
  refine lv_iload_n hx hb dX3_oneIf_0 rfl (lv_at hl 0 rfl) ?_
  refine lv_if_eq (tgt := 8) hx hb dX3_oneIf_1 (by decide) (fun c_1 => ?_) (fun c_1 => ?_)
  · refine lv_iconst (v := 0) hx hb dX3_oneIf_8 (by decide) ?_
    exact W.iret (v := 0) hx hb hr (fun t ht hW => ⟨⟨0, st, rfl, ⟨(by simp only [fX3_oneIf, if_pos c_1]), rfl⟩, ow_Bi ht hP⟩, hS.F ht⟩) hS.2.2 dX3_oneIf_9
  · refine lv_iconst (v := 1) hx hb dX3_oneIf_4 (by decide) ?_
    refine lv_goto (tgt := 9) hx hb dX3_oneIf_5 (by decide) ?_
    exact W.iret (v := 1) hx hb hr (fun t ht hW => ⟨⟨1, st, rfl, ⟨(by simp only [fX3_oneIf, if_neg c_1]), rfl⟩, ow_Bi ht hP⟩, hS.F ht⟩) hS.2.2 dX3_oneIf_9

def fX3_isFromTo (st : ow_St) (x0 x1 x2 : Int32) : Int32 := (if x0 < x1 then 0 else (if x2 < x0 then 0 else 1))
set_option maxHeartbeats 4000000 in
set_option maxRecDepth 100000 in
theorem kX3_isFromTo (l : Launch) (D : va_G) (ca : Nat → ClassId) (ad : ow_Ad) (A : Nat → Prop) (st : ow_St) (x0 : Int32) (x1 : Int32) (x2 : Int32) : Met l yX3_isFromTo wsX3_isFromTo ({ frames := 0, cells := 0, slots := 0, locals := 0 }) (va_Pc [.int x0, .int x1, .int x2] (ow_W D ca ad A st)) (va_Qi (fun r st' => r = (fX3_isFromTo st x0 x1 x2) ∧ st' = st) (ow_B D ca ad) A) 0 0 A := by
  refine Met.ofW (cc := cX3_isFromTo) (maxL := 3) (ret := (some .boolean)) (by decide) rfl ?_
  intro p e s m args below meth c s₁ B hml hv
  obtain ⟨rfl, hP, hC⟩ := hv
  have hx := B.exec
  have hb := B.bytes
  have hr := B.returns
  have hts := atoms_spec (ws := wsX3_isFromTo) B.pre
  have hown : s.vm.findClass RX3 = some m.cls := findClass_of_methodNamed B.named
  have hlocks := B.notSynchronized
  have hS : va_S A s.heap s.heap [] := va_S.rf
  have hl := lv_entry ([.int x0, .int x1, .int x2]) (n := 3) (Nat.le_of_ble_eq_true rfl)
  rw [lg_entry_eq]
  generalize (lg_sl ([.int x0, .int x1, .int x2]) ++ List.replicate (3 - (lg_sl ([.int x0, .int x1, .int x2])).length) Slot.unset).toArray = ls at hl ⊢
  have hl : lv_has ls 3 [(0, .int x0), (1, .int x1), (2, .int x2)] := hl
  refine lv_iload_n hx hb dX3_isFromTo_0 rfl (lv_at hl 0 rfl) ?_
  refine lv_iload_n hx hb dX3_isFromTo_1 rfl (lv_at hl 1 rfl) ?_
  refine lv_icmp_lt (tgt := 14) hx hb dX3_isFromTo_2 (by decide) (fun c_1 => ?_) (fun c_1 => ?_)
  · refine lv_iconst (v := 0) hx hb dX3_isFromTo_14 (by decide) ?_
    exact W.zret (v := 0) hx hb hr rfl (fun t ht hW => ⟨⟨0, st, rfl, ⟨(by simp only [fX3_isFromTo, if_pos c_1]), rfl⟩, ow_Bi ht hP⟩, hS.F ht⟩) hS.2.2 dX3_isFromTo_15
  · refine lv_iload_n hx hb dX3_isFromTo_5 rfl (lv_at hl 0 rfl) ?_
    refine lv_iload_n hx hb dX3_isFromTo_6 rfl (lv_at hl 2 rfl) ?_
    refine lv_icmp_gt (tgt := 14) hx hb dX3_isFromTo_7 (by decide) (fun c_2 => ?_) (fun c_2 => ?_)
    · refine lv_iconst (v := 0) hx hb dX3_isFromTo_14 (by decide) ?_
      exact W.zret (v := 0) hx hb hr rfl (fun t ht hW => ⟨⟨0, st, rfl, ⟨(by simp only [fX3_isFromTo, if_neg c_1, if_pos c_2]), rfl⟩, ow_Bi ht hP⟩, hS.F ht⟩) hS.2.2 dX3_isFromTo_15
    · refine lv_iconst (v := 1) hx hb dX3_isFromTo_10 (by decide) ?_
      refine lv_goto (tgt := 15) hx hb dX3_isFromTo_11 (by decide) ?_
      exact W.zret (v := 1) hx hb hr rfl (fun t ht hW => ⟨⟨1, st, rfl, ⟨(by simp only [fX3_isFromTo, if_neg c_1, if_neg c_2]), rfl⟩, ow_Bi ht hP⟩, hS.F ht⟩) hS.2.2 dX3_isFromTo_15

theorem lk_X3_arcRuleAnswer_0 : (.fieldLink RX3 214 "RecordLabels" "WITHIN_ITEMS" "[J" : Cond) ∈ wsX3_arcRuleAnswer := by decide +kernel
def fX3_arcRuleAnswer (st : ow_St) (x0 : Int32) (x1 : Int64) : Int32 := (if x0 = 3 then (if (lg_cmp x1 0) = 0 then (-5) else 1) else (if x0 = 4 then (if (lg_cmp x1 0) = 0 then (-5) else 1) else (if x0 = 5 then (if (lg_cmp x1 0) < 0 then (-6) else (if (lg_cmp x1 ((3 : Int32).toInt64)) < 0 then 1 else (-6))) else (if x0 = 6 then (if 0 ≤ (lg_cmp x1 0) then 1 else (-7)) else 1))))
set_option maxHeartbeats 4000000 in
set_option maxRecDepth 100000 in
theorem kX3_arcRuleAnswer (l : Launch) (D : va_G) (ca : Nat → ClassId) (ad : ow_Ad) (A : Nat → Prop) (st : ow_St) (x0 : Int32) (x1 : Int64) : Met l yX3_arcRuleAnswer wsX3_arcRuleAnswer ({ frames := 0, cells := 0, slots := 0, locals := 0 }) (va_Pc [.int x0, .long x1] (ow_W D ca ad A st)) (va_Qi (fun r st' => r = (fX3_arcRuleAnswer st x0 x1) ∧ st' = st) (ow_B D ca ad) A) 0 0 A := by
  refine Met.ofW (cc := cX3_arcRuleAnswer) (maxL := 3) (ret := (some .int)) (by decide) rfl ?_
  intro p e s m args below meth c s₁ B hml hv
  obtain ⟨rfl, hP, hC⟩ := hv
  have hx := B.exec
  have hb := B.bytes
  have hr := B.returns
  have hts := atoms_spec (ws := wsX3_arcRuleAnswer) B.pre
  have hown : s.vm.findClass RX3 = some m.cls := findClass_of_methodNamed B.named
  have hlocks := B.notSynchronized
  have hS : va_S A s.heap s.heap [] := va_S.rf
  have hl := lv_entry ([.int x0, .long x1]) (n := 3) (Nat.le_of_ble_eq_true rfl)
  rw [lg_entry_eq]
  generalize (lg_sl ([.int x0, .long x1]) ++ List.replicate (3 - (lg_sl ([.int x0, .long x1])).length) Slot.unset).toArray = ls at hl ⊢
  have hl : lv_has ls 3 [(0, .int x0), (1, .long x1)] := hl
  refine lv_iload_n hx hb dX3_arcRuleAnswer_0 rfl (lv_at hl 0 rfl) ?_
  by_cases c_1 : x0 = 3
  · refine lv_tableIn (tgt := 32) (off := 31) hx hb dX3_arcRuleAnswer_1 (by rw [c_1]; decide) (by rw [c_1]; decide) (by rw [c_1]; rfl) (by decide) ?_
    refine lv_lload_n hx hb dX3_arcRuleAnswer_32 rfl (lv_at hl 1 rfl) ?_
    refine lv_lconst (v := 0) hx hb dX3_arcRuleAnswer_33 rfl ?_
    refine W.lcmp hx hb dX3_arcRuleAnswer_34 ?_
    refine lv_if_ne (tgt := 43) hx hb dX3_arcRuleAnswer_35 (by decide) (fun c_2 => ?_) (fun c_2 => ?_)
    · refine lv_iconst (v := 1) hx hb dX3_arcRuleAnswer_43 (by decide) ?_
      exact W.iret (v := 1) hx hb hr (fun t ht hW => ⟨⟨1, st, rfl, ⟨(by simp only [fX3_arcRuleAnswer, if_pos c_1, if_neg c_2]), rfl⟩, ow_Bi ht hP⟩, hS.F ht⟩) hS.2.2 dX3_arcRuleAnswer_44
    · refine lv_bipush (v := (-5)) hx hb dX3_arcRuleAnswer_38 (by decide) ?_
      refine lv_goto (tgt := 44) hx hb dX3_arcRuleAnswer_40 (by decide) ?_
      exact W.iret (v := (-5)) hx hb hr (fun t ht hW => ⟨⟨(-5), st, rfl, ⟨(by simp only [fX3_arcRuleAnswer, if_pos c_1, if_pos c_2]), rfl⟩, ow_Bi ht hP⟩, hS.F ht⟩) hS.2.2 dX3_arcRuleAnswer_44
  · by_cases c_3 : x0 = 4
    · refine lv_tableIn (tgt := 32) (off := 31) hx hb dX3_arcRuleAnswer_1 (by rw [c_3]; decide) (by rw [c_3]; decide) (by rw [c_3]; rfl) (by decide) ?_
      refine lv_lload_n hx hb dX3_arcRuleAnswer_32 rfl (lv_at hl 1 rfl) ?_
      refine lv_lconst (v := 0) hx hb dX3_arcRuleAnswer_33 rfl ?_
      refine W.lcmp hx hb dX3_arcRuleAnswer_34 ?_
      refine lv_if_ne (tgt := 43) hx hb dX3_arcRuleAnswer_35 (by decide) (fun c_4 => ?_) (fun c_4 => ?_)
      · refine lv_iconst (v := 1) hx hb dX3_arcRuleAnswer_43 (by decide) ?_
        exact W.iret (v := 1) hx hb hr (fun t ht hW => ⟨⟨1, st, rfl, ⟨(by simp only [fX3_arcRuleAnswer, if_neg c_1, if_pos c_3, if_neg c_4]), rfl⟩, ow_Bi ht hP⟩, hS.F ht⟩) hS.2.2 dX3_arcRuleAnswer_44
      · refine lv_bipush (v := (-5)) hx hb dX3_arcRuleAnswer_38 (by decide) ?_
        refine lv_goto (tgt := 44) hx hb dX3_arcRuleAnswer_40 (by decide) ?_
        exact W.iret (v := (-5)) hx hb hr (fun t ht hW => ⟨⟨(-5), st, rfl, ⟨(by simp only [fX3_arcRuleAnswer, if_neg c_1, if_pos c_3, if_pos c_4]), rfl⟩, ow_Bi ht hP⟩, hS.F ht⟩) hS.2.2 dX3_arcRuleAnswer_44
    · by_cases c_5 : x0 = 5
      · refine lv_tableIn (tgt := 45) (off := 44) hx hb dX3_arcRuleAnswer_1 (by rw [c_5]; decide) (by rw [c_5]; decide) (by rw [c_5]; rfl) (by decide) ?_
        refine lv_lload_n hx hb dX3_arcRuleAnswer_45 rfl (lv_at hl 1 rfl) ?_
        refine lv_lconst (v := 0) hx hb dX3_arcRuleAnswer_46 rfl ?_
        refine W.lcmp hx hb dX3_arcRuleAnswer_47 ?_
        refine lv_if_lt (tgt := 61) hx hb dX3_arcRuleAnswer_48 (by decide) (fun c_6 => ?_) (fun c_6 => ?_)
        · refine lv_bipush (v := (-6)) hx hb dX3_arcRuleAnswer_61 (by decide) ?_
          refine lv_goto (tgt := 67) hx hb dX3_arcRuleAnswer_63 (by decide) ?_
          exact W.iret (v := (-6)) hx hb hr (fun t ht hW => ⟨⟨(-6), st, rfl, ⟨(by simp only [fX3_arcRuleAnswer, if_neg c_1, if_neg c_3, if_pos c_5, if_pos c_6]), rfl⟩, ow_Bi ht hP⟩, hS.F ht⟩) hS.2.2 dX3_arcRuleAnswer_67
        · refine lv_lload_n hx hb dX3_arcRuleAnswer_51 rfl (lv_at hl 1 rfl) ?_
          refine va_gets hx hb hC.2.2.2.2.2.1 hS hown (hts _ lk_X3_arcRuleAnswer_0) (fun _ h => h) dX3_arcRuleAnswer_52 ?_
          refine va_tlen (v := 3) hx hb hC.2.2.2.2.2.2 hS rfl dX3_arcRuleAnswer_55 ?_
          refine lv_i2l (v := (3 : Int32).toInt64) hx hb dX3_arcRuleAnswer_56 rfl ?_
          refine W.lcmp hx hb dX3_arcRuleAnswer_57 ?_
          refine lv_if_lt (tgt := 66) hx hb dX3_arcRuleAnswer_58 (by decide) (fun c_7 => ?_) (fun c_7 => ?_)
          · refine lv_iconst (v := 1) hx hb dX3_arcRuleAnswer_66 (by decide) ?_
            exact W.iret (v := 1) hx hb hr (fun t ht hW => ⟨⟨1, st, rfl, ⟨(by simp only [fX3_arcRuleAnswer, if_neg c_1, if_neg c_3, if_pos c_5, if_neg c_6, if_pos c_7]), rfl⟩, ow_Bi ht hP⟩, hS.F ht⟩) hS.2.2 dX3_arcRuleAnswer_67
          · refine lv_bipush (v := (-6)) hx hb dX3_arcRuleAnswer_61 (by decide) ?_
            refine lv_goto (tgt := 67) hx hb dX3_arcRuleAnswer_63 (by decide) ?_
            exact W.iret (v := (-6)) hx hb hr (fun t ht hW => ⟨⟨(-6), st, rfl, ⟨(by simp only [fX3_arcRuleAnswer, if_neg c_1, if_neg c_3, if_pos c_5, if_neg c_6, if_neg c_7]), rfl⟩, ow_Bi ht hP⟩, hS.F ht⟩) hS.2.2 dX3_arcRuleAnswer_67
      · by_cases c_8 : x0 = 6
        · refine lv_tableIn (tgt := 68) (off := 67) hx hb dX3_arcRuleAnswer_1 (by rw [c_8]; decide) (by rw [c_8]; decide) (by rw [c_8]; rfl) (by decide) ?_
          refine lv_lload_n hx hb dX3_arcRuleAnswer_68 rfl (lv_at hl 1 rfl) ?_
          refine lv_lconst (v := 0) hx hb dX3_arcRuleAnswer_69 rfl ?_
          refine W.lcmp hx hb dX3_arcRuleAnswer_70 ?_
          refine lv_if_ge (tgt := 79) hx hb dX3_arcRuleAnswer_71 (by decide) (fun c_9 => ?_) (fun c_9 => ?_)
          · refine lv_iconst (v := 1) hx hb dX3_arcRuleAnswer_79 (by decide) ?_
            exact W.iret (v := 1) hx hb hr (fun t ht hW => ⟨⟨1, st, rfl, ⟨(by simp only [fX3_arcRuleAnswer, if_neg c_1, if_neg c_3, if_neg c_5, if_pos c_8, if_pos c_9]), rfl⟩, ow_Bi ht hP⟩, hS.F ht⟩) hS.2.2 dX3_arcRuleAnswer_80
          · refine lv_bipush (v := (-7)) hx hb dX3_arcRuleAnswer_74 (by decide) ?_
            refine lv_goto (tgt := 80) hx hb dX3_arcRuleAnswer_76 (by decide) ?_
            exact W.iret (v := (-7)) hx hb hr (fun t ht hW => ⟨⟨(-7), st, rfl, ⟨(by simp only [fX3_arcRuleAnswer, if_neg c_1, if_neg c_3, if_neg c_5, if_pos c_8, if_neg c_9]), rfl⟩, ow_Bi ht hP⟩, hS.F ht⟩) hS.2.2 dX3_arcRuleAnswer_80
        · refine lv_tableOut (tgt := 81) hx hb dX3_arcRuleAnswer_1 (by have h0 := ow_ne (n := 3) 3 rfl c_1; have h1 := ow_ne (n := 4) 4 rfl c_3; have h2 := ow_ne (n := 5) 5 rfl c_5; have h3 := ow_ne (n := 6) 6 rfl c_8; omega) (by decide) ?_
          refine lv_iconst (v := 1) hx hb dX3_arcRuleAnswer_81 (by decide) ?_
          exact W.iret (v := 1) hx hb hr (fun t ht hW => ⟨⟨1, st, rfl, ⟨(by simp only [fX3_arcRuleAnswer, if_neg c_1, if_neg c_3, if_neg c_5, if_neg c_8]), rfl⟩, ow_Bi ht hP⟩, hS.F ht⟩) hS.2.2 dX3_arcRuleAnswer_82

theorem lk_X3_nodeValue_0 : (.constantLong RX3 224 (2) : Cond) ∈ wsX3_nodeValue := by decide +kernel
theorem lk_X3_nodeValue_1 : (.constantLong RX3 226 (10) : Cond) ∈ wsX3_nodeValue := by decide +kernel
def fX3_nodeValue (st : ow_St) (x0 : Int32) (x1 : Int64) : Int64 := (if x0 = 0 then x1 else (if x0 = 1 then (2 * x1) else (if x0 = 2 then (x1 + 10) else (if x0 = 3 then (-x1) else (if x0 = 4 then (x1 * x1) else 0)))))
set_option maxHeartbeats 4000000 in
set_option maxRecDepth 100000 in
theorem kX3_nodeValue (l : Launch) (D : va_G) (ca : Nat → ClassId) (ad : ow_Ad) (A : Nat → Prop) (st : ow_St) (x0 : Int32) (x1 : Int64) : Met l yX3_nodeValue wsX3_nodeValue ({ frames := 0, cells := 0, slots := 0, locals := 0 }) (va_Pc [.int x0, .long x1] (ow_W D ca ad A st)) (va_Ql (fun r st' => r = (fX3_nodeValue st x0 x1) ∧ st' = st) (ow_B D ca ad) A) 0 0 A := by
  refine Met.ofW (cc := cX3_nodeValue) (maxL := 3) (ret := (some .long)) (by decide) rfl ?_
  intro p e s m args below meth c s₁ B hml hv
  obtain ⟨rfl, hP, hC⟩ := hv
  have hx := B.exec
  have hb := B.bytes
  have hr := B.returns
  have hts := atoms_spec (ws := wsX3_nodeValue) B.pre
  have hown : s.vm.findClass RX3 = some m.cls := findClass_of_methodNamed B.named
  have hlocks := B.notSynchronized
  have hS : va_S A s.heap s.heap [] := va_S.rf
  have hl := lv_entry ([.int x0, .long x1]) (n := 3) (Nat.le_of_ble_eq_true rfl)
  rw [lg_entry_eq]
  generalize (lg_sl ([.int x0, .long x1]) ++ List.replicate (3 - (lg_sl ([.int x0, .long x1])).length) Slot.unset).toArray = ls at hl ⊢
  have hl : lv_has ls 3 [(0, .int x0), (1, .long x1)] := hl
  refine lv_iload_n hx hb dX3_nodeValue_0 rfl (lv_at hl 0 rfl) ?_
  by_cases c_1 : x0 = 0
  · refine lv_tableIn (tgt := 36) (off := 35) hx hb dX3_nodeValue_1 (by rw [c_1]; decide) (by rw [c_1]; decide) (by rw [c_1]; rfl) (by decide) ?_
    refine lv_lload_n hx hb dX3_nodeValue_36 rfl (lv_at hl 1 rfl) ?_
    exact W.lret (v := x1) hx hb hr (fun t ht hW => ⟨⟨x1, st, rfl, ⟨(by simp only [fX3_nodeValue, if_pos c_1]), rfl⟩, ow_Bi ht hP⟩, hS.F ht⟩) hS.2.2 dX3_nodeValue_37
  · by_cases c_2 : x0 = 1
    · refine lv_tableIn (tgt := 38) (off := 37) hx hb dX3_nodeValue_1 (by rw [c_2]; decide) (by rw [c_2]; decide) (by rw [c_2]; rfl) (by decide) ?_
      refine lv_ldc2 (v := 2) hx hb hown (hts _ lk_X3_nodeValue_0) dX3_nodeValue_38 ?_
      refine lv_lload_n hx hb dX3_nodeValue_41 rfl (lv_at hl 1 rfl) ?_
      refine lv_lmul hx hb dX3_nodeValue_42 ?_
      exact W.lret (v := (2 * x1)) hx hb hr (fun t ht hW => ⟨⟨(2 * x1), st, rfl, ⟨(by simp only [fX3_nodeValue, if_neg c_1, if_pos c_2]), rfl⟩, ow_Bi ht hP⟩, hS.F ht⟩) hS.2.2 dX3_nodeValue_43
    · by_cases c_3 : x0 = 2
      · refine lv_tableIn (tgt := 44) (off := 43) hx hb dX3_nodeValue_1 (by rw [c_3]; decide) (by rw [c_3]; decide) (by rw [c_3]; rfl) (by decide) ?_
        refine lv_lload_n hx hb dX3_nodeValue_44 rfl (lv_at hl 1 rfl) ?_
        refine lv_ldc2 (v := 10) hx hb hown (hts _ lk_X3_nodeValue_1) dX3_nodeValue_45 ?_
        refine lv_ladd hx hb dX3_nodeValue_48 ?_
        exact W.lret (v := (x1 + 10)) hx hb hr (fun t ht hW => ⟨⟨(x1 + 10), st, rfl, ⟨(by simp only [fX3_nodeValue, if_neg c_1, if_neg c_2, if_pos c_3]), rfl⟩, ow_Bi ht hP⟩, hS.F ht⟩) hS.2.2 dX3_nodeValue_49
      · by_cases c_4 : x0 = 3
        · refine lv_tableIn (tgt := 50) (off := 49) hx hb dX3_nodeValue_1 (by rw [c_4]; decide) (by rw [c_4]; decide) (by rw [c_4]; rfl) (by decide) ?_
          refine lv_lload_n hx hb dX3_nodeValue_50 rfl (lv_at hl 1 rfl) ?_
          refine lv_lneg hx hb dX3_nodeValue_51 ?_
          exact W.lret (v := (-x1)) hx hb hr (fun t ht hW => ⟨⟨(-x1), st, rfl, ⟨(by simp only [fX3_nodeValue, if_neg c_1, if_neg c_2, if_neg c_3, if_pos c_4]), rfl⟩, ow_Bi ht hP⟩, hS.F ht⟩) hS.2.2 dX3_nodeValue_52
        · by_cases c_5 : x0 = 4
          · refine lv_tableIn (tgt := 53) (off := 52) hx hb dX3_nodeValue_1 (by rw [c_5]; decide) (by rw [c_5]; decide) (by rw [c_5]; rfl) (by decide) ?_
            refine lv_lload_n hx hb dX3_nodeValue_53 rfl (lv_at hl 1 rfl) ?_
            refine lv_lload_n hx hb dX3_nodeValue_54 rfl (lv_at hl 1 rfl) ?_
            refine lv_lmul hx hb dX3_nodeValue_55 ?_
            exact W.lret (v := (x1 * x1)) hx hb hr (fun t ht hW => ⟨⟨(x1 * x1), st, rfl, ⟨(by simp only [fX3_nodeValue, if_neg c_1, if_neg c_2, if_neg c_3, if_neg c_4, if_pos c_5]), rfl⟩, ow_Bi ht hP⟩, hS.F ht⟩) hS.2.2 dX3_nodeValue_56
          · refine lv_tableOut (tgt := 57) hx hb dX3_nodeValue_1 (by have h0 := ow_ne (n := 0) 0 rfl c_1; have h1 := ow_ne (n := 1) 1 rfl c_2; have h2 := ow_ne (n := 2) 2 rfl c_3; have h3 := ow_ne (n := 3) 3 rfl c_4; have h4 := ow_ne (n := 4) 4 rfl c_5; omega) (by decide) ?_
            refine lv_lconst (v := 0) hx hb dX3_nodeValue_57 rfl ?_
            exact W.lret (v := 0) hx hb hr (fun t ht hW => ⟨⟨0, st, rfl, ⟨(by simp only [fX3_nodeValue, if_neg c_1, if_neg c_2, if_neg c_3, if_neg c_4, if_neg c_5]), rfl⟩, ow_Bi ht hP⟩, hS.F ht⟩) hS.2.2 dX3_nodeValue_58

theorem lg_ne {x : Int64} (h : ¬ lg_cmp x 0 = 0) : ¬ x = 0 := fun e => h ((lg_cmp_eq x 0).mpr e)
theorem lg_in3 {x : Int64} (h1 : ¬ lg_cmp x 0 < 0) (h2 : lg_cmp x ((3 : Int32).toInt64) < 0) : vp_in x.toInt32 3 := by
  have a1 : ¬ x < 0 := fun q => h1 ((lg_cmp_lt x 0).mpr q)
  have a2 : x < ((3 : Int32).toInt64) := (lg_cmp_lt x _).mp h2
  obtain ⟨j, hj, rfl⟩ := pk_lOf a1
  have a3 : j < 3 := (pk_lLT hj (by decide)).mp (show lN j < lN 3 from a2)
  rw [lN_i]
  exact vp_in_nI a3 (by decide)

theorem lk_X3_arcValue_0 : (.constantLong RX3 224 (2) : Cond) ∈ wsX3_arcValue := by decide +kernel
theorem lk_X3_arcValue_1 : (.constantLong RX3 228 (100) : Cond) ∈ wsX3_arcValue := by decide +kernel
theorem lk_X3_arcValue_2 : (.fieldLink RX3 214 "RecordLabels" "WITHIN_ITEMS" "[J" : Cond) ∈ wsX3_arcValue := by decide +kernel
def fX3_arcValue (st : ow_St) (x0 : Int32) (x1 : Int64) : Int64 := (if x0 = 0 then (x1 + 1) else (if x0 = 1 then (x1 - 1) else (if x0 = 2 then (x1 / 2) else (if x0 = 3 then (if (lg_cmp x1 0) = 0 then 0 else (100 / x1)) else (if x0 = 4 then (if (lg_cmp x1 0) = 0 then 0 else (100 - 100 / x1 * x1)) else (if x0 = 5 then (if (lg_cmp x1 0) < 0 then 0 else (if (lg_cmp x1 ((3 : Int32).toInt64)) < 0 then (ow_wi ((x1.toInt32).toNatClampNeg)) else 0)) else (if x0 = 6 then x1 else 0)))))))
set_option maxHeartbeats 4000000 in
set_option maxRecDepth 100000 in
theorem kX3_arcValue (l : Launch) (D : va_G) (ca : Nat → ClassId) (ad : ow_Ad) (A : Nat → Prop) (st : ow_St) (x0 : Int32) (x1 : Int64) : Met l yX3_arcValue wsX3_arcValue ({ frames := 0, cells := 0, slots := 0, locals := 0 }) (va_Pc [.int x0, .long x1] (ow_W D ca ad A st)) (va_Ql (fun r st' => r = (fX3_arcValue st x0 x1) ∧ st' = st) (ow_B D ca ad) A) 0 0 A := by
  refine Met.ofW (cc := cX3_arcValue) (maxL := 3) (ret := (some .long)) (by decide) rfl ?_
  intro p e s m args below meth c s₁ B hml hv
  obtain ⟨rfl, hP, hC⟩ := hv
  have hx := B.exec
  have hb := B.bytes
  have hr := B.returns
  have hts := atoms_spec (ws := wsX3_arcValue) B.pre
  have hown : s.vm.findClass RX3 = some m.cls := findClass_of_methodNamed B.named
  have hlocks := B.notSynchronized
  have hS : va_S A s.heap s.heap [] := va_S.rf
  have hl := lv_entry ([.int x0, .long x1]) (n := 3) (Nat.le_of_ble_eq_true rfl)
  rw [lg_entry_eq]
  generalize (lg_sl ([.int x0, .long x1]) ++ List.replicate (3 - (lg_sl ([.int x0, .long x1])).length) Slot.unset).toArray = ls at hl ⊢
  have hl : lv_has ls 3 [(0, .int x0), (1, .long x1)] := hl
  refine lv_iload_n hx hb dX3_arcValue_0 rfl (lv_at hl 0 rfl) ?_
  by_cases c_1 : x0 = 0
  · refine lv_tableIn (tgt := 44) (off := 43) hx hb dX3_arcValue_1 (by rw [c_1]; decide) (by rw [c_1]; decide) (by rw [c_1]; rfl) (by decide) ?_
    refine lv_lload_n hx hb dX3_arcValue_44 rfl (lv_at hl 1 rfl) ?_
    refine lv_lconst (v := 1) hx hb dX3_arcValue_45 rfl ?_
    refine lv_ladd hx hb dX3_arcValue_46 ?_
    exact W.lret (v := (x1 + 1)) hx hb hr (fun t ht hW => ⟨⟨(x1 + 1), st, rfl, ⟨(by simp only [fX3_arcValue, if_pos c_1]), rfl⟩, ow_Bi ht hP⟩, hS.F ht⟩) hS.2.2 dX3_arcValue_47
  · by_cases c_2 : x0 = 1
    · refine lv_tableIn (tgt := 48) (off := 47) hx hb dX3_arcValue_1 (by rw [c_2]; decide) (by rw [c_2]; decide) (by rw [c_2]; rfl) (by decide) ?_
      refine lv_lload_n hx hb dX3_arcValue_48 rfl (lv_at hl 1 rfl) ?_
      refine lv_lconst (v := 1) hx hb dX3_arcValue_49 rfl ?_
      refine lv_lsub hx hb dX3_arcValue_50 ?_
      exact W.lret (v := (x1 - 1)) hx hb hr (fun t ht hW => ⟨⟨(x1 - 1), st, rfl, ⟨(by simp only [fX3_arcValue, if_neg c_1, if_pos c_2]), rfl⟩, ow_Bi ht hP⟩, hS.F ht⟩) hS.2.2 dX3_arcValue_51
    · by_cases c_3 : x0 = 2
      · refine lv_tableIn (tgt := 52) (off := 51) hx hb dX3_arcValue_1 (by rw [c_3]; decide) (by rw [c_3]; decide) (by rw [c_3]; rfl) (by decide) ?_
        refine lv_lload_n hx hb dX3_arcValue_52 rfl (lv_at hl 1 rfl) ?_
        refine lv_ldc2 (v := 2) hx hb hown (hts _ lk_X3_arcValue_0) dX3_arcValue_53 ?_
        refine lv_ldiv hx hb dX3_arcValue_56 (by decide) ?_
        exact W.lret (v := (x1 / 2)) hx hb hr (fun t ht hW => ⟨⟨(x1 / 2), st, rfl, ⟨(by simp only [fX3_arcValue, if_neg c_1, if_neg c_2, if_pos c_3]), rfl⟩, ow_Bi ht hP⟩, hS.F ht⟩) hS.2.2 dX3_arcValue_57
      · by_cases c_4 : x0 = 3
        · refine lv_tableIn (tgt := 58) (off := 57) hx hb dX3_arcValue_1 (by rw [c_4]; decide) (by rw [c_4]; decide) (by rw [c_4]; rfl) (by decide) ?_
          refine lv_lload_n hx hb dX3_arcValue_58 rfl (lv_at hl 1 rfl) ?_
          refine lv_lconst (v := 0) hx hb dX3_arcValue_59 rfl ?_
          refine W.lcmp hx hb dX3_arcValue_60 ?_
          refine lv_if_ne (tgt := 68) hx hb dX3_arcValue_61 (by decide) (fun c_5 => ?_) (fun c_5 => ?_)
          · refine lv_ldc2 (v := 100) hx hb hown (hts _ lk_X3_arcValue_1) dX3_arcValue_68 ?_
            refine lv_lload_n hx hb dX3_arcValue_71 rfl (lv_at hl 1 rfl) ?_
            refine lv_ldiv hx hb dX3_arcValue_72 (lg_ne c_5) ?_
            exact W.lret (v := (100 / x1)) hx hb hr (fun t ht hW => ⟨⟨(100 / x1), st, rfl, ⟨(by simp only [fX3_arcValue, if_neg c_1, if_neg c_2, if_neg c_3, if_pos c_4, if_neg c_5]), rfl⟩, ow_Bi ht hP⟩, hS.F ht⟩) hS.2.2 dX3_arcValue_73
          · refine lv_lconst (v := 0) hx hb dX3_arcValue_64 rfl ?_
            refine lv_goto (tgt := 73) hx hb dX3_arcValue_65 (by decide) ?_
            exact W.lret (v := 0) hx hb hr (fun t ht hW => ⟨⟨0, st, rfl, ⟨(by simp only [fX3_arcValue, if_neg c_1, if_neg c_2, if_neg c_3, if_pos c_4, if_pos c_5]), rfl⟩, ow_Bi ht hP⟩, hS.F ht⟩) hS.2.2 dX3_arcValue_73
        · by_cases c_6 : x0 = 4
          · refine lv_tableIn (tgt := 74) (off := 73) hx hb dX3_arcValue_1 (by rw [c_6]; decide) (by rw [c_6]; decide) (by rw [c_6]; rfl) (by decide) ?_
            refine lv_lload_n hx hb dX3_arcValue_74 rfl (lv_at hl 1 rfl) ?_
            refine lv_lconst (v := 0) hx hb dX3_arcValue_75 rfl ?_
            refine W.lcmp hx hb dX3_arcValue_76 ?_
            refine lv_if_ne (tgt := 84) hx hb dX3_arcValue_77 (by decide) (fun c_7 => ?_) (fun c_7 => ?_)
            · refine lv_ldc2 (v := 100) hx hb hown (hts _ lk_X3_arcValue_1) dX3_arcValue_84 ?_
              refine lv_lload_n hx hb dX3_arcValue_87 rfl (lv_at hl 1 rfl) ?_
              refine lv_lrem hx hb dX3_arcValue_88 (lg_ne c_7) ?_
              exact W.lret (v := (100 - 100 / x1 * x1)) hx hb hr (fun t ht hW => ⟨⟨(100 - 100 / x1 * x1), st, rfl, ⟨(by simp only [fX3_arcValue, if_neg c_1, if_neg c_2, if_neg c_3, if_neg c_4, if_pos c_6, if_neg c_7]), rfl⟩, ow_Bi ht hP⟩, hS.F ht⟩) hS.2.2 dX3_arcValue_89
            · refine lv_lconst (v := 0) hx hb dX3_arcValue_80 rfl ?_
              refine lv_goto (tgt := 89) hx hb dX3_arcValue_81 (by decide) ?_
              exact W.lret (v := 0) hx hb hr (fun t ht hW => ⟨⟨0, st, rfl, ⟨(by simp only [fX3_arcValue, if_neg c_1, if_neg c_2, if_neg c_3, if_neg c_4, if_pos c_6, if_pos c_7]), rfl⟩, ow_Bi ht hP⟩, hS.F ht⟩) hS.2.2 dX3_arcValue_89
          · by_cases c_8 : x0 = 5
            · refine lv_tableIn (tgt := 90) (off := 89) hx hb dX3_arcValue_1 (by rw [c_8]; decide) (by rw [c_8]; decide) (by rw [c_8]; rfl) (by decide) ?_
              refine lv_lload_n hx hb dX3_arcValue_90 rfl (lv_at hl 1 rfl) ?_
              refine lv_lconst (v := 0) hx hb dX3_arcValue_91 rfl ?_
              refine W.lcmp hx hb dX3_arcValue_92 ?_
              refine lv_if_lt (tgt := 106) hx hb dX3_arcValue_93 (by decide) (fun c_9 => ?_) (fun c_9 => ?_)
              · refine lv_lconst (v := 0) hx hb dX3_arcValue_106 rfl ?_
                refine lv_goto (tgt := 116) hx hb dX3_arcValue_107 (by decide) ?_
                exact W.lret (v := 0) hx hb hr (fun t ht hW => ⟨⟨0, st, rfl, ⟨(by simp only [fX3_arcValue, if_neg c_1, if_neg c_2, if_neg c_3, if_neg c_4, if_neg c_6, if_pos c_8, if_pos c_9]), rfl⟩, ow_Bi ht hP⟩, hS.F ht⟩) hS.2.2 dX3_arcValue_116
              · refine lv_lload_n hx hb dX3_arcValue_96 rfl (lv_at hl 1 rfl) ?_
                refine va_gets hx hb hC.2.2.2.2.2.1 hS hown (hts _ lk_X3_arcValue_2) (fun _ h => h) dX3_arcValue_97 ?_
                refine va_tlen (v := 3) hx hb hC.2.2.2.2.2.2 hS rfl dX3_arcValue_100 ?_
                refine lv_i2l (v := (3 : Int32).toInt64) hx hb dX3_arcValue_101 rfl ?_
                refine W.lcmp hx hb dX3_arcValue_102 ?_
                refine lv_if_lt (tgt := 110) hx hb dX3_arcValue_103 (by decide) (fun c_10 => ?_) (fun c_10 => ?_)
                · refine va_gets hx hb hC.2.2.2.2.2.1 hS hown (hts _ lk_X3_arcValue_2) (fun _ h => h) dX3_arcValue_110 ?_
                  refine lv_lload_n hx hb dX3_arcValue_113 rfl (lv_at hl 1 rfl) ?_
                  refine lv_l2i (v := x1.toInt32) hx hb dX3_arcValue_114 rfl ?_
                  refine va_tl (v := .long (ow_wi ((x1.toInt32).toNatClampNeg))) hx hb hC.2.2.2.2.2.2 hS (lg_in3 c_9 c_10) rfl dX3_arcValue_115 ?_
                  exact W.lret (v := (ow_wi ((x1.toInt32).toNatClampNeg))) hx hb hr (fun t ht hW => ⟨⟨(ow_wi ((x1.toInt32).toNatClampNeg)), st, rfl, ⟨(by simp only [fX3_arcValue, if_neg c_1, if_neg c_2, if_neg c_3, if_neg c_4, if_neg c_6, if_pos c_8, if_neg c_9, if_pos c_10]), rfl⟩, ow_Bi ht hP⟩, hS.F ht⟩) hS.2.2 dX3_arcValue_116
                · refine lv_lconst (v := 0) hx hb dX3_arcValue_106 rfl ?_
                  refine lv_goto (tgt := 116) hx hb dX3_arcValue_107 (by decide) ?_
                  exact W.lret (v := 0) hx hb hr (fun t ht hW => ⟨⟨0, st, rfl, ⟨(by simp only [fX3_arcValue, if_neg c_1, if_neg c_2, if_neg c_3, if_neg c_4, if_neg c_6, if_pos c_8, if_neg c_9, if_neg c_10]), rfl⟩, ow_Bi ht hP⟩, hS.F ht⟩) hS.2.2 dX3_arcValue_116
            · by_cases c_11 : x0 = 6
              · refine lv_tableIn (tgt := 117) (off := 116) hx hb dX3_arcValue_1 (by rw [c_11]; decide) (by rw [c_11]; decide) (by rw [c_11]; rfl) (by decide) ?_
                refine lv_lload_n hx hb dX3_arcValue_117 rfl (lv_at hl 1 rfl) ?_
                exact W.lret (v := x1) hx hb hr (fun t ht hW => ⟨⟨x1, st, rfl, ⟨(by simp only [fX3_arcValue, if_neg c_1, if_neg c_2, if_neg c_3, if_neg c_4, if_neg c_6, if_neg c_8, if_pos c_11]), rfl⟩, ow_Bi ht hP⟩, hS.F ht⟩) hS.2.2 dX3_arcValue_118
              · refine lv_tableOut (tgt := 119) hx hb dX3_arcValue_1 (by have h0 := ow_ne (n := 0) 0 rfl c_1; have h1 := ow_ne (n := 1) 1 rfl c_2; have h2 := ow_ne (n := 2) 2 rfl c_3; have h3 := ow_ne (n := 3) 3 rfl c_4; have h4 := ow_ne (n := 4) 4 rfl c_6; have h5 := ow_ne (n := 5) 5 rfl c_8; have h6 := ow_ne (n := 6) 6 rfl c_11; omega) (by decide) ?_
                refine lv_lconst (v := 0) hx hb dX3_arcValue_119 rfl ?_
                exact W.lret (v := 0) hx hb hr (fun t ht hW => ⟨⟨0, st, rfl, ⟨(by simp only [fX3_arcValue, if_neg c_1, if_neg c_2, if_neg c_3, if_neg c_4, if_neg c_6, if_neg c_8, if_neg c_11]), rfl⟩, ow_Bi ht hP⟩, hS.F ht⟩) hS.2.2 dX3_arcValue_120

theorem ln_X3_valueOf_0_0 : (.fieldLinkNest RX3 157 "RecordLabels$Kind" "number" "I" "RecordLabels" : Cond) ∈ ow_nest := by decide +kernel
theorem li_X3_valueOf_0_X0 : ∀ w ∈ u_ws RX0 TX0 7, w ∈ wsX3_valueOf := by decide +kernel
def fX3_valueOf_0 (st : ow_St) (x1 : Int32) (x2 : Int64) : Int64 := (fX3_nodeValue st x1 x2)
set_option maxHeartbeats 4000000 in
set_option maxRecDepth 100000 in
theorem kX3_valueOf_0 (l : Launch) (D : va_G) (ca : Nat → ClassId) (ad : ow_Ad) (A : Nat → Prop) (st : ow_St) (x1 : Int32) (x2 : Int64) : Met l yX3_valueOf wsX3_valueOf ({ frames := 1, cells := 0, slots := 0, locals := 22 }) (va_Pc [.ref (ad 1 0), .int x1, .long x2] (ow_W D ca ad A st)) (va_Ql (fun r st' => r = (fX3_valueOf_0 st x1 x2) ∧ st' = st) (ow_B D ca ad) A) 0 0 A := by
  refine Met.ofW (cc := cX3_valueOf) (maxL := 4) (ret := (some .long)) (by decide) rfl ?_
  intro p e s m args below meth c s₁ B hml hv
  obtain ⟨rfl, hP, hC⟩ := hv
  have hx := B.exec
  have hb := B.bytes
  have hr := B.returns
  have hts := atoms_spec (ws := wsX3_valueOf) B.pre
  have hown : s.vm.findClass RX3 = some m.cls := findClass_of_methodNamed B.named
  have hlocks := B.notSynchronized
  have hS : va_S A s.heap s.heap [] := va_S.rf
  have hl := lv_entry ([.ref (ad 1 0), .int x1, .long x2]) (n := 4) (Nat.le_of_ble_eq_true rfl)
  rw [lg_entry_eq]
  generalize (lg_sl ([.ref (ad 1 0), .int x1, .long x2]) ++ List.replicate (4 - (lg_sl ([.ref (ad 1 0), .int x1, .long x2])).length) Slot.unset).toArray = ls at hl ⊢
  have hl : lv_has ls 4 [(0, .ref (ad 1 0)), (1, .int x1), (2, .long x2)] := hl
  refine lv_aload_n hx hb dX3_valueOf_0 rfl (lv_at hl 0 rfl) ?_
  refine og_getN (C := RX0) (T := TX0) (N := 7) (g := 1) (i := 0) (v := .int 0) hx hb hts li_X3_valueOf_0_X0 hown hC hP (ow_q1_0) rfl rfl 0 (by decide) ln_X3_valueOf_0_0 rfl rfl dX3_valueOf_1 ?_
  refine lv_lookup (tgt := 32) (off := 28) hx hb dX3_valueOf_4 (by decide) (by decide) (by decide) ?_
  refine lv_iload_n hx hb dX3_valueOf_32 rfl (lv_at hl 1 rfl) ?_
  refine lv_lload_n hx hb dX3_valueOf_33 rfl (lv_at hl 2 rfl) ?_
  refine og_clP (og_runS (As := [.int x1, .long x2]) (rest := []) ⟨hx, hb, hml, hown, hts⟩ (kX3_nodeValue l D ca ad A st x1 x2) (va_cwS 2 hts gX3_valueOf_X3_nodeValue rfl rfl rfl (by decide +kernel) ⟨Nat.le_of_ble_eq_true rfl, Nat.le_of_ble_eq_true rfl⟩) hC hP hS rfl hl.1 rfl (Nat.le_of_ble_eq_true rfl) dX3_valueOf_34 ⟨Nat.zero_le _, Nat.zero_le _⟩) hS (fun H locs hP hS => ?_)
  exact W.lret (v := (fX3_nodeValue st x1 x2)) hx hb hr (fun t ht hW => ⟨⟨(fX3_nodeValue st x1 x2), st, rfl, ⟨(by simp only [fX3_valueOf_0]), rfl⟩, ow_Bi ht hP⟩, hS.F ht⟩) hS.2.2 dX3_valueOf_37

theorem ln_X3_valueOf_1_0 : (.fieldLinkNest RX3 157 "RecordLabels$Kind" "number" "I" "RecordLabels" : Cond) ∈ ow_nest := by decide +kernel
theorem li_X3_valueOf_1_X0 : ∀ w ∈ u_ws RX0 TX0 7, w ∈ wsX3_valueOf := by decide +kernel
def fX3_valueOf_1 (st : ow_St) (x1 : Int32) (x2 : Int64) : Int64 := (fX3_arcValue st x1 x2)
set_option maxHeartbeats 4000000 in
set_option maxRecDepth 100000 in
theorem kX3_valueOf_1 (l : Launch) (D : va_G) (ca : Nat → ClassId) (ad : ow_Ad) (A : Nat → Prop) (st : ow_St) (x1 : Int32) (x2 : Int64) : Met l yX3_valueOf wsX3_valueOf ({ frames := 1, cells := 0, slots := 0, locals := 22 }) (va_Pc [.ref (ad 1 1), .int x1, .long x2] (ow_W D ca ad A st)) (va_Ql (fun r st' => r = (fX3_valueOf_1 st x1 x2) ∧ st' = st) (ow_B D ca ad) A) 0 0 A := by
  refine Met.ofW (cc := cX3_valueOf) (maxL := 4) (ret := (some .long)) (by decide) rfl ?_
  intro p e s m args below meth c s₁ B hml hv
  obtain ⟨rfl, hP, hC⟩ := hv
  have hx := B.exec
  have hb := B.bytes
  have hr := B.returns
  have hts := atoms_spec (ws := wsX3_valueOf) B.pre
  have hown : s.vm.findClass RX3 = some m.cls := findClass_of_methodNamed B.named
  have hlocks := B.notSynchronized
  have hS : va_S A s.heap s.heap [] := va_S.rf
  have hl := lv_entry ([.ref (ad 1 1), .int x1, .long x2]) (n := 4) (Nat.le_of_ble_eq_true rfl)
  rw [lg_entry_eq]
  generalize (lg_sl ([.ref (ad 1 1), .int x1, .long x2]) ++ List.replicate (4 - (lg_sl ([.ref (ad 1 1), .int x1, .long x2])).length) Slot.unset).toArray = ls at hl ⊢
  have hl : lv_has ls 4 [(0, .ref (ad 1 1)), (1, .int x1), (2, .long x2)] := hl
  refine lv_aload_n hx hb dX3_valueOf_0 rfl (lv_at hl 0 rfl) ?_
  refine og_getN (C := RX0) (T := TX0) (N := 7) (g := 1) (i := 1) (v := .int 1) hx hb hts li_X3_valueOf_1_X0 hown hC hP (ow_q1_1) rfl rfl 0 (by decide) ln_X3_valueOf_1_0 rfl rfl dX3_valueOf_1 ?_
  refine lv_lookup (tgt := 38) (off := 34) hx hb dX3_valueOf_4 (by decide) (by decide) (by decide) ?_
  refine lv_iload_n hx hb dX3_valueOf_38 rfl (lv_at hl 1 rfl) ?_
  refine lv_lload_n hx hb dX3_valueOf_39 rfl (lv_at hl 2 rfl) ?_
  refine og_clP (og_runS (As := [.int x1, .long x2]) (rest := []) ⟨hx, hb, hml, hown, hts⟩ (kX3_arcValue l D ca ad A st x1 x2) (va_cwS 2 hts gX3_valueOf_X3_arcValue rfl rfl rfl (by decide +kernel) ⟨Nat.le_of_ble_eq_true rfl, Nat.le_of_ble_eq_true rfl⟩) hC hP hS rfl hl.1 rfl (Nat.le_of_ble_eq_true rfl) dX3_valueOf_40 ⟨Nat.zero_le _, Nat.zero_le _⟩) hS (fun H locs hP hS => ?_)
  exact W.lret (v := (fX3_arcValue st x1 x2)) hx hb hr (fun t ht hW => ⟨⟨(fX3_arcValue st x1 x2), st, rfl, ⟨(by simp only [fX3_valueOf_1]), rfl⟩, ow_Bi ht hP⟩, hS.F ht⟩) hS.2.2 dX3_valueOf_43

theorem ln_X3_valueOf_2_0 : (.fieldLinkNest RX3 157 "RecordLabels$Kind" "number" "I" "RecordLabels" : Cond) ∈ ow_nest := by decide +kernel
theorem li_X3_valueOf_2_X0 : ∀ w ∈ u_ws RX0 TX0 7, w ∈ wsX3_valueOf := by decide +kernel
def fX3_valueOf_2 (st : ow_St) (x1 : Int32) (x2 : Int64) : Int64 := (x2 ^^^ (x1.toInt64))
set_option maxHeartbeats 4000000 in
set_option maxRecDepth 100000 in
theorem kX3_valueOf_2 (l : Launch) (D : va_G) (ca : Nat → ClassId) (ad : ow_Ad) (A : Nat → Prop) (st : ow_St) (x1 : Int32) (x2 : Int64) : Met l yX3_valueOf wsX3_valueOf ({ frames := 0, cells := 0, slots := 0, locals := 0 }) (va_Pc [.ref (ad 1 2), .int x1, .long x2] (ow_W D ca ad A st)) (va_Ql (fun r st' => r = (fX3_valueOf_2 st x1 x2) ∧ st' = st) (ow_B D ca ad) A) 0 0 A := by
  refine Met.ofW (cc := cX3_valueOf) (maxL := 4) (ret := (some .long)) (by decide) rfl ?_
  intro p e s m args below meth c s₁ B hml hv
  obtain ⟨rfl, hP, hC⟩ := hv
  have hx := B.exec
  have hb := B.bytes
  have hr := B.returns
  have hts := atoms_spec (ws := wsX3_valueOf) B.pre
  have hown : s.vm.findClass RX3 = some m.cls := findClass_of_methodNamed B.named
  have hlocks := B.notSynchronized
  have hS : va_S A s.heap s.heap [] := va_S.rf
  have hl := lv_entry ([.ref (ad 1 2), .int x1, .long x2]) (n := 4) (Nat.le_of_ble_eq_true rfl)
  rw [lg_entry_eq]
  generalize (lg_sl ([.ref (ad 1 2), .int x1, .long x2]) ++ List.replicate (4 - (lg_sl ([.ref (ad 1 2), .int x1, .long x2])).length) Slot.unset).toArray = ls at hl ⊢
  have hl : lv_has ls 4 [(0, .ref (ad 1 2)), (1, .int x1), (2, .long x2)] := hl
  refine lv_aload_n hx hb dX3_valueOf_0 rfl (lv_at hl 0 rfl) ?_
  refine og_getN (C := RX0) (T := TX0) (N := 7) (g := 1) (i := 2) (v := .int 2) hx hb hts li_X3_valueOf_2_X0 hown hC hP (ow_q1_2) rfl rfl 0 (by decide) ln_X3_valueOf_2_0 rfl rfl dX3_valueOf_1 ?_
  refine lv_lookup (tgt := 44) (off := 40) hx hb dX3_valueOf_4 (by decide) (by decide) (by decide) ?_
  refine lv_lload_n hx hb dX3_valueOf_44 rfl (lv_at hl 2 rfl) ?_
  refine lv_iload_n hx hb dX3_valueOf_45 rfl (lv_at hl 1 rfl) ?_
  refine lv_i2l (v := x1.toInt64) hx hb dX3_valueOf_46 rfl ?_
  refine lv_lxor hx hb dX3_valueOf_47 ?_
  exact W.lret (v := (x2 ^^^ (x1.toInt64))) hx hb hr (fun t ht hW => ⟨⟨(x2 ^^^ (x1.toInt64)), st, rfl, ⟨(by simp only [fX3_valueOf_2]), rfl⟩, ow_Bi ht hP⟩, hS.F ht⟩) hS.2.2 dX3_valueOf_48

theorem ln_X3_askRule_0_0 : (.methodLinkNest RX3 207 yX0_startForRule "RecordLabels" : Cond) ∈ ow_nest := by decide +kernel
theorem lk_X3_askRule_0_1 : (.initialized RX0 : Cond) ∈ wsX3_askRule := by decide +kernel
theorem lk_X3_askRule_0_2 : (.instanceMethod yX0_startForRule : Cond) ∈ wsX3_askRule := by decide +kernel
theorem lk_X3_askRule_0_3 : (.selects RX0 yX0_startForRule yX0_startForRule : Cond) ∈ wsX3_askRule := by decide +kernel
theorem li_X3_askRule_0_X3 : ∀ w ∈ u_ws RX3 TX3 14, w ∈ wsX3_askRule := by decide +kernel
theorem lk_X3_askRule_0_5 : (.fieldLink RX3 25 "RecordLabels" "arcKind" "LRecordLabels$Kind;" : Cond) ∈ wsX3_askRule := by decide +kernel
def fX3_askRule_0 (st : ow_St) (x2 : Int32) (x3 : Int64) : Int32 × ow_St := (let st1 := (fX0_startForRule st 0).2; (if (fX0_startForRule st 0).1 = 1 then (1, st1) else ((fX0_startForRule st 0).1, st1)))
set_option maxHeartbeats 4000000 in
set_option maxRecDepth 100000 in
theorem kX3_askRule_0 (l : Launch) (D : va_G) (ca : Nat → ClassId) (ad : ow_Ad) (A : Nat → Prop) (st : ow_St) (x2 : Int32) (x3 : Int64) : Met l yX3_askRule wsX3_askRule ({ frames := 1, cells := 0, slots := 0, locals := 20 }) (va_Pc [.ref (ad 0 0), .ref (ad 1 0), .int x2, .long x3] (ow_W D ca ad A st)) (va_Qi (fun r st' => (r, st') = (fX3_askRule_0 st x2 x3)) (ow_B D ca ad) A) 0 0 A := by
  refine Met.ofW (cc := cX3_askRule) (maxL := 7) (ret := (some .int)) (by decide) rfl ?_
  intro p e s m args below meth c s₁ B hml hv
  obtain ⟨rfl, hP, hC⟩ := hv
  have hx := B.exec
  have hb := B.bytes
  have hr := B.returns
  have hts := atoms_spec (ws := wsX3_askRule) B.pre
  have hown : s.vm.findClass RX3 = some m.cls := findClass_of_methodNamed B.named
  have hlocks := B.notSynchronized
  have hS : va_S A s.heap s.heap [] := va_S.rf
  have hl := lv_entry ([.ref (ad 0 0), .ref (ad 1 0), .int x2, .long x3]) (n := 7) (Nat.le_of_ble_eq_true rfl)
  rw [lg_entry_eq]
  generalize (lg_sl ([.ref (ad 0 0), .ref (ad 1 0), .int x2, .long x3]) ++ List.replicate (7 - (lg_sl ([.ref (ad 0 0), .ref (ad 1 0), .int x2, .long x3])).length) Slot.unset).toArray = ls at hl ⊢
  have hl : lv_has ls 7 [(0, .ref (ad 0 0)), (1, .ref (ad 1 0)), (2, .int x2), (3, .long x3)] := hl
  refine lv_aload_n hx hb dX3_askRule_0 rfl (lv_at hl 1 rfl) ?_
  refine og_ciW (og_runVN (C := RX0) (T := TX0) (N := 7) (g := 1) (i := 0) (As := []) (rest := []) ⟨hx, hb, hml, hown, hts⟩ (kX0_startForRule l D ca ad A st 0 (by decide)) ⟨va_cnB 0 hts gX3_askRule_X0_startForRule_n207 rfl rfl rfl (hC.2.2.1 _ ln_X3_askRule_0_0) (hts _ lk_X3_askRule_0_1) (by decide +kernel) ⟨Nat.le_of_ble_eq_true rfl, Nat.le_of_ble_eq_true rfl⟩, (hts _ lk_X3_askRule_0_2), (hts _ lk_X3_askRule_0_3)⟩ hC hP hS (ow_q1_0) rfl rfl rfl hl.1 rfl (Nat.le_of_ble_eq_true rfl) dX3_askRule_1 ⟨Nat.zero_le _, Nat.zero_le _⟩) hS (fun H locs hP hS => ?_)
  obtain ⟨st1, e1⟩ : ∃ z, z = (fX0_startForRule st 0).2 := ⟨_, rfl⟩
  rw [← e1] at hP
  refine lv_istore (lv' := [(5, .int ((fX0_startForRule st 0).1)), (0, .ref (ad 0 0)), (1, .ref (ad 1 0)), (2, .int x2), (3, .long x3)]) hx hb dX3_askRule_4 hl (by decide) rfl (fun ls hl => ?_)
  refine lv_iload hx hb dX3_askRule_6 (lv_at hl 0 rfl) ?_
  refine lv_iconst (v := 1) hx hb dX3_askRule_8 (by decide) ?_
  refine lv_icmp_eq (tgt := 15) hx hb dX3_askRule_9 (by decide) (fun c_2 => ?_) (fun c_2 => ?_)
  · refine lv_aload_n hx hb dX3_askRule_15 rfl (lv_at hl 2 rfl) ?_
    refine lv_aload_n hx hb dX3_askRule_16 rfl (lv_at hl 1 rfl) ?_
    refine og_get (C := RX3) (T := TX3) (N := 14) (g := 0) (i := 0) (v := .ref (ad 1 1)) hx hb hts li_X3_askRule_0_X3 hown hC hP (ow_q0_0) rfl rfl 1 (by decide) (hts _ lk_X3_askRule_0_5) rfl rfl dX3_askRule_17 ?_
    refine lv_acmp_ne (rx := some (ad 1 0)) (ry := some (ad 1 1)) (tgt := 31) hx hb dX3_askRule_20 (by decide) (fun _ => ?_) (fun c => absurd c (fun h => absurd (ow_inj hC.2.1 (ow_q1_0) (ow_q1_1) (Option.some.inj h)).2 (by decide)))
    refine lv_iconst (v := 1) hx hb dX3_askRule_31 (by decide) ?_
    refine lv_istore (lv' := [(6, .int 1), (5, .int ((fX0_startForRule st 0).1)), (0, .ref (ad 0 0)), (1, .ref (ad 1 0)), (2, .int x2), (3, .long x3)]) hx hb dX3_askRule_32 hl (by decide) rfl (fun ls hl => ?_)
    refine lv_iload hx hb dX3_askRule_34 (lv_at hl 0 rfl) ?_
    refine lv_iconst (v := 1) hx hb dX3_askRule_36 (by decide) ?_
    refine lv_icmp_eq (tgt := 50) hx hb dX3_askRule_37 (by decide) (fun _ => ?_) (fun c => absurd (by decide) c)
    refine lv_iload hx hb dX3_askRule_50 (lv_at hl 0 rfl) ?_
    exact W.iret (v := 1) hx hb hr (fun t ht hW => ⟨⟨1, st1, rfl, (by subst e1; simp only [fX3_askRule_0, if_pos c_2]), ow_Bi ht hP⟩, hS.F ht⟩) hS.2.2 dX3_askRule_52
  · refine lv_iload hx hb dX3_askRule_12 (lv_at hl 0 rfl) ?_
    exact W.iret (v := (fX0_startForRule st 0).1) hx hb hr (fun t ht hW => ⟨⟨(fX0_startForRule st 0).1, st1, rfl, (by subst e1; simp only [fX3_askRule_0, if_neg c_2]), ow_Bi ht hP⟩, hS.F ht⟩) hS.2.2 dX3_askRule_14

theorem ln_X3_askRule_1_0 : (.methodLinkNest RX3 207 yX0_startForRule "RecordLabels" : Cond) ∈ ow_nest := by decide +kernel
theorem lk_X3_askRule_1_1 : (.initialized RX0 : Cond) ∈ wsX3_askRule := by decide +kernel
theorem lk_X3_askRule_1_2 : (.instanceMethod yX0_startForRule : Cond) ∈ wsX3_askRule := by decide +kernel
theorem lk_X3_askRule_1_3 : (.selects RX0 yX0_startForRule yX0_startForRule : Cond) ∈ wsX3_askRule := by decide +kernel
theorem li_X3_askRule_1_X3 : ∀ w ∈ u_ws RX3 TX3 14, w ∈ wsX3_askRule := by decide +kernel
theorem lk_X3_askRule_1_5 : (.fieldLink RX3 25 "RecordLabels" "arcKind" "LRecordLabels$Kind;" : Cond) ∈ wsX3_askRule := by decide +kernel
theorem lk_X3_askRule_1_6 : (.fieldLink RX3 56 "RecordLabels" "ruleFailures" "I" : Cond) ∈ wsX3_askRule := by decide +kernel
def fX3_askRule_1 (st : ow_St) (x2 : Int32) (x3 : Int64) : Int32 × ow_St := (let st1 := (fX0_startForRule st 1).2; (if (fX0_startForRule st 1).1 = 1 then (if (fX3_arcRuleAnswer st1 x2 x3) = 1 then ((fX3_arcRuleAnswer st1 x2 x3), st1) else (let st4 := (ow_si st1 0 0 ((st1.1 0 0) + 1)); ((fX3_arcRuleAnswer st1 x2 x3), st4))) else ((fX0_startForRule st 1).1, st1)))
set_option maxHeartbeats 4000000 in
set_option maxRecDepth 100000 in
theorem kX3_askRule_1 (l : Launch) (D : va_G) (ca : Nat → ClassId) (ad : ow_Ad) (A : Nat → Prop) (st : ow_St) (x2 : Int32) (x3 : Int64) : Met l yX3_askRule wsX3_askRule ({ frames := 1, cells := 0, slots := 0, locals := 22 }) (va_Pc [.ref (ad 0 0), .ref (ad 1 1), .int x2, .long x3] (ow_W D ca ad A st)) (va_Qi (fun r st' => (r, st') = (fX3_askRule_1 st x2 x3)) (ow_B D ca ad) A) 0 0 A := by
  refine Met.ofW (cc := cX3_askRule) (maxL := 7) (ret := (some .int)) (by decide) rfl ?_
  intro p e s m args below meth c s₁ B hml hv
  obtain ⟨rfl, hP, hC⟩ := hv
  have hx := B.exec
  have hb := B.bytes
  have hr := B.returns
  have hts := atoms_spec (ws := wsX3_askRule) B.pre
  have hown : s.vm.findClass RX3 = some m.cls := findClass_of_methodNamed B.named
  have hlocks := B.notSynchronized
  have hS : va_S A s.heap s.heap [] := va_S.rf
  have hl := lv_entry ([.ref (ad 0 0), .ref (ad 1 1), .int x2, .long x3]) (n := 7) (Nat.le_of_ble_eq_true rfl)
  rw [lg_entry_eq]
  generalize (lg_sl ([.ref (ad 0 0), .ref (ad 1 1), .int x2, .long x3]) ++ List.replicate (7 - (lg_sl ([.ref (ad 0 0), .ref (ad 1 1), .int x2, .long x3])).length) Slot.unset).toArray = ls at hl ⊢
  have hl : lv_has ls 7 [(0, .ref (ad 0 0)), (1, .ref (ad 1 1)), (2, .int x2), (3, .long x3)] := hl
  refine lv_aload_n hx hb dX3_askRule_0 rfl (lv_at hl 1 rfl) ?_
  refine og_ciW (og_runVN (C := RX0) (T := TX0) (N := 7) (g := 1) (i := 1) (As := []) (rest := []) ⟨hx, hb, hml, hown, hts⟩ (kX0_startForRule l D ca ad A st 1 (by decide)) ⟨va_cnB 0 hts gX3_askRule_X0_startForRule_n207 rfl rfl rfl (hC.2.2.1 _ ln_X3_askRule_1_0) (hts _ lk_X3_askRule_1_1) (by decide +kernel) ⟨Nat.le_of_ble_eq_true rfl, Nat.le_of_ble_eq_true rfl⟩, (hts _ lk_X3_askRule_1_2), (hts _ lk_X3_askRule_1_3)⟩ hC hP hS (ow_q1_1) rfl rfl rfl hl.1 rfl (Nat.le_of_ble_eq_true rfl) dX3_askRule_1 ⟨Nat.zero_le _, Nat.zero_le _⟩) hS (fun H locs hP hS => ?_)
  obtain ⟨st1, e1⟩ : ∃ z, z = (fX0_startForRule st 1).2 := ⟨_, rfl⟩
  rw [← e1] at hP
  refine lv_istore (lv' := [(5, .int ((fX0_startForRule st 1).1)), (0, .ref (ad 0 0)), (1, .ref (ad 1 1)), (2, .int x2), (3, .long x3)]) hx hb dX3_askRule_4 hl (by decide) rfl (fun ls hl => ?_)
  refine lv_iload hx hb dX3_askRule_6 (lv_at hl 0 rfl) ?_
  refine lv_iconst (v := 1) hx hb dX3_askRule_8 (by decide) ?_
  refine lv_icmp_eq (tgt := 15) hx hb dX3_askRule_9 (by decide) (fun c_2 => ?_) (fun c_2 => ?_)
  · refine lv_aload_n hx hb dX3_askRule_15 rfl (lv_at hl 2 rfl) ?_
    refine lv_aload_n hx hb dX3_askRule_16 rfl (lv_at hl 1 rfl) ?_
    refine og_get (C := RX3) (T := TX3) (N := 14) (g := 0) (i := 0) (v := .ref (ad 1 1)) hx hb hts li_X3_askRule_1_X3 hown hC hP (ow_q0_0) rfl rfl 1 (by decide) (hts _ lk_X3_askRule_1_5) rfl rfl dX3_askRule_17 ?_
    refine lv_acmp_ne (rx := some (ad 1 1)) (ry := some (ad 1 1)) (tgt := 31) hx hb dX3_askRule_20 (by decide) (fun c => absurd rfl c) (fun _ => ?_)
    refine lv_iload_n hx hb dX3_askRule_23 rfl (lv_at hl 3 rfl) ?_
    refine lv_lload_n hx hb dX3_askRule_24 rfl (lv_at hl 4 rfl) ?_
    refine og_ciP (og_runS (As := [.int x2, .long x3]) (rest := []) ⟨hx, hb, hml, hown, hts⟩ (kX3_arcRuleAnswer l D ca ad A st1 x2 x3) (va_cwS 2 hts gX3_askRule_X3_arcRuleAnswer rfl rfl rfl (by decide +kernel) ⟨Nat.le_of_ble_eq_true rfl, Nat.le_of_ble_eq_true rfl⟩) hC hP hS rfl hl.1 rfl (Nat.le_of_ble_eq_true rfl) dX3_askRule_25 ⟨Nat.zero_le _, Nat.zero_le _⟩) hS (fun H locs hP hS => ?_)
    refine lv_goto (tgt := 32) hx hb dX3_askRule_28 (by decide) ?_
    refine lv_istore (lv' := [(6, .int (fX3_arcRuleAnswer st1 x2 x3)), (5, .int ((fX0_startForRule st 1).1)), (0, .ref (ad 0 0)), (1, .ref (ad 1 1)), (2, .int x2), (3, .long x3)]) hx hb dX3_askRule_32 hl (by decide) rfl (fun ls hl => ?_)
    refine lv_iload hx hb dX3_askRule_34 (lv_at hl 0 rfl) ?_
    refine lv_iconst (v := 1) hx hb dX3_askRule_36 (by decide) ?_
    refine lv_icmp_eq (tgt := 50) hx hb dX3_askRule_37 (by decide) (fun c_3 => ?_) (fun c_3 => ?_)
    · refine lv_iload hx hb dX3_askRule_50 (lv_at hl 0 rfl) ?_
      exact W.iret (v := (fX3_arcRuleAnswer st1 x2 x3)) hx hb hr (fun t ht hW => ⟨⟨(fX3_arcRuleAnswer st1 x2 x3), st1, rfl, (by subst e1; simp only [fX3_askRule_1, if_pos c_2, if_pos c_3]), ow_Bi ht hP⟩, hS.F ht⟩) hS.2.2 dX3_askRule_52
    · refine lv_aload_n hx hb dX3_askRule_40 rfl (lv_at hl 2 rfl) ?_
      refine lv_dup hx hb dX3_askRule_41 rfl ?_
      refine og_get (C := RX3) (T := TX3) (N := 14) (g := 0) (i := 0) (v := .int (st1.1 0 0)) hx hb hts li_X3_askRule_1_X3 hown hC hP (ow_q0_0) rfl rfl 7 (by decide) (hts _ lk_X3_askRule_1_6) rfl rfl dX3_askRule_42 ?_
      refine lv_iconst (v := 1) hx hb dX3_askRule_45 (by decide) ?_
      refine lv_iadd hx hb dX3_askRule_46 ?_
      refine og_put (C := RX3) (T := TX3) (N := 14) (g := 0) (i := 0) (v := .int ((st1.1 0 0) + 1)) (ty := .int) hx hb hts li_X3_askRule_1_X3 tyX3 tyX3_ok nmX3 hown hC hP hS (ow_q0_0) rfl rfl 7 (by decide) (hts _ lk_X3_askRule_1_6) rfl rfl (by decide +kernel) rfl rfl (Nat.le_of_ble_eq_true rfl) (we_0_0 st1 ((st1.1 0 0) + 1)) dX3_askRule_47 (fun H locs hP hS => ?_)
      obtain ⟨st4, e4⟩ : ∃ z, z = (ow_si st1 0 0 ((st1.1 0 0) + 1)) := ⟨_, rfl⟩
      rw [← e4] at hP
      refine lv_iload hx hb dX3_askRule_50 (lv_at hl 0 rfl) ?_
      exact W.iret (v := (fX3_arcRuleAnswer st1 x2 x3)) hx hb hr (fun t ht hW => ⟨⟨(fX3_arcRuleAnswer st1 x2 x3), st4, rfl, (by subst e4; subst e1; simp only [fX3_askRule_1, if_pos c_2, if_neg c_3]), ow_Bi ht hP⟩, hS.F ht⟩) hS.2.2 dX3_askRule_52
  · refine lv_iload hx hb dX3_askRule_12 (lv_at hl 0 rfl) ?_
    exact W.iret (v := (fX0_startForRule st 1).1) hx hb hr (fun t ht hW => ⟨⟨(fX0_startForRule st 1).1, st1, rfl, (by subst e1; simp only [fX3_askRule_1, if_neg c_2]), ow_Bi ht hP⟩, hS.F ht⟩) hS.2.2 dX3_askRule_14

theorem ln_X3_askRule_2_0 : (.methodLinkNest RX3 207 yX0_startForRule "RecordLabels" : Cond) ∈ ow_nest := by decide +kernel
theorem lk_X3_askRule_2_1 : (.initialized RX0 : Cond) ∈ wsX3_askRule := by decide +kernel
theorem lk_X3_askRule_2_2 : (.instanceMethod yX0_startForRule : Cond) ∈ wsX3_askRule := by decide +kernel
theorem lk_X3_askRule_2_3 : (.selects RX0 yX0_startForRule yX0_startForRule : Cond) ∈ wsX3_askRule := by decide +kernel
theorem li_X3_askRule_2_X3 : ∀ w ∈ u_ws RX3 TX3 14, w ∈ wsX3_askRule := by decide +kernel
theorem lk_X3_askRule_2_5 : (.fieldLink RX3 25 "RecordLabels" "arcKind" "LRecordLabels$Kind;" : Cond) ∈ wsX3_askRule := by decide +kernel
def fX3_askRule_2 (st : ow_St) (x2 : Int32) (x3 : Int64) : Int32 × ow_St := (let st1 := (fX0_startForRule st 2).2; (if (fX0_startForRule st 2).1 = 1 then (1, st1) else ((fX0_startForRule st 2).1, st1)))
set_option maxHeartbeats 4000000 in
set_option maxRecDepth 100000 in
theorem kX3_askRule_2 (l : Launch) (D : va_G) (ca : Nat → ClassId) (ad : ow_Ad) (A : Nat → Prop) (st : ow_St) (x2 : Int32) (x3 : Int64) : Met l yX3_askRule wsX3_askRule ({ frames := 1, cells := 0, slots := 0, locals := 20 }) (va_Pc [.ref (ad 0 0), .ref (ad 1 2), .int x2, .long x3] (ow_W D ca ad A st)) (va_Qi (fun r st' => (r, st') = (fX3_askRule_2 st x2 x3)) (ow_B D ca ad) A) 0 0 A := by
  refine Met.ofW (cc := cX3_askRule) (maxL := 7) (ret := (some .int)) (by decide) rfl ?_
  intro p e s m args below meth c s₁ B hml hv
  obtain ⟨rfl, hP, hC⟩ := hv
  have hx := B.exec
  have hb := B.bytes
  have hr := B.returns
  have hts := atoms_spec (ws := wsX3_askRule) B.pre
  have hown : s.vm.findClass RX3 = some m.cls := findClass_of_methodNamed B.named
  have hlocks := B.notSynchronized
  have hS : va_S A s.heap s.heap [] := va_S.rf
  have hl := lv_entry ([.ref (ad 0 0), .ref (ad 1 2), .int x2, .long x3]) (n := 7) (Nat.le_of_ble_eq_true rfl)
  rw [lg_entry_eq]
  generalize (lg_sl ([.ref (ad 0 0), .ref (ad 1 2), .int x2, .long x3]) ++ List.replicate (7 - (lg_sl ([.ref (ad 0 0), .ref (ad 1 2), .int x2, .long x3])).length) Slot.unset).toArray = ls at hl ⊢
  have hl : lv_has ls 7 [(0, .ref (ad 0 0)), (1, .ref (ad 1 2)), (2, .int x2), (3, .long x3)] := hl
  refine lv_aload_n hx hb dX3_askRule_0 rfl (lv_at hl 1 rfl) ?_
  refine og_ciW (og_runVN (C := RX0) (T := TX0) (N := 7) (g := 1) (i := 2) (As := []) (rest := []) ⟨hx, hb, hml, hown, hts⟩ (kX0_startForRule l D ca ad A st 2 (by decide)) ⟨va_cnB 0 hts gX3_askRule_X0_startForRule_n207 rfl rfl rfl (hC.2.2.1 _ ln_X3_askRule_2_0) (hts _ lk_X3_askRule_2_1) (by decide +kernel) ⟨Nat.le_of_ble_eq_true rfl, Nat.le_of_ble_eq_true rfl⟩, (hts _ lk_X3_askRule_2_2), (hts _ lk_X3_askRule_2_3)⟩ hC hP hS (ow_q1_2) rfl rfl rfl hl.1 rfl (Nat.le_of_ble_eq_true rfl) dX3_askRule_1 ⟨Nat.zero_le _, Nat.zero_le _⟩) hS (fun H locs hP hS => ?_)
  obtain ⟨st1, e1⟩ : ∃ z, z = (fX0_startForRule st 2).2 := ⟨_, rfl⟩
  rw [← e1] at hP
  refine lv_istore (lv' := [(5, .int ((fX0_startForRule st 2).1)), (0, .ref (ad 0 0)), (1, .ref (ad 1 2)), (2, .int x2), (3, .long x3)]) hx hb dX3_askRule_4 hl (by decide) rfl (fun ls hl => ?_)
  refine lv_iload hx hb dX3_askRule_6 (lv_at hl 0 rfl) ?_
  refine lv_iconst (v := 1) hx hb dX3_askRule_8 (by decide) ?_
  refine lv_icmp_eq (tgt := 15) hx hb dX3_askRule_9 (by decide) (fun c_2 => ?_) (fun c_2 => ?_)
  · refine lv_aload_n hx hb dX3_askRule_15 rfl (lv_at hl 2 rfl) ?_
    refine lv_aload_n hx hb dX3_askRule_16 rfl (lv_at hl 1 rfl) ?_
    refine og_get (C := RX3) (T := TX3) (N := 14) (g := 0) (i := 0) (v := .ref (ad 1 1)) hx hb hts li_X3_askRule_2_X3 hown hC hP (ow_q0_0) rfl rfl 1 (by decide) (hts _ lk_X3_askRule_2_5) rfl rfl dX3_askRule_17 ?_
    refine lv_acmp_ne (rx := some (ad 1 2)) (ry := some (ad 1 1)) (tgt := 31) hx hb dX3_askRule_20 (by decide) (fun _ => ?_) (fun c => absurd c (fun h => absurd (ow_inj hC.2.1 (ow_q1_2) (ow_q1_1) (Option.some.inj h)).2 (by decide)))
    refine lv_iconst (v := 1) hx hb dX3_askRule_31 (by decide) ?_
    refine lv_istore (lv' := [(6, .int 1), (5, .int ((fX0_startForRule st 2).1)), (0, .ref (ad 0 0)), (1, .ref (ad 1 2)), (2, .int x2), (3, .long x3)]) hx hb dX3_askRule_32 hl (by decide) rfl (fun ls hl => ?_)
    refine lv_iload hx hb dX3_askRule_34 (lv_at hl 0 rfl) ?_
    refine lv_iconst (v := 1) hx hb dX3_askRule_36 (by decide) ?_
    refine lv_icmp_eq (tgt := 50) hx hb dX3_askRule_37 (by decide) (fun _ => ?_) (fun c => absurd (by decide) c)
    refine lv_iload hx hb dX3_askRule_50 (lv_at hl 0 rfl) ?_
    exact W.iret (v := 1) hx hb hr (fun t ht hW => ⟨⟨1, st1, rfl, (by subst e1; simp only [fX3_askRule_2, if_pos c_2]), ow_Bi ht hP⟩, hS.F ht⟩) hS.2.2 dX3_askRule_52
  · refine lv_iload hx hb dX3_askRule_12 (lv_at hl 0 rfl) ?_
    exact W.iret (v := (fX0_startForRule st 2).1) hx hb hr (fun t ht hW => ⟨⟨(fX0_startForRule st 2).1, st1, rfl, (by subst e1; simp only [fX3_askRule_2, if_neg c_2]), ow_Bi ht hP⟩, hS.F ht⟩) hS.2.2 dX3_askRule_14

theorem ln_X3_joined_0 : (.fieldLinkNest RX3 148 "RecordLabels$LabelSet" "members" "I" "RecordLabels" : Cond) ∈ ow_nest := by decide +kernel
theorem li_X3_joined_X1 : ∀ w ∈ u_ws RX1 TX1 2, w ∈ wsX3_joined := by decide +kernel
theorem ln_X3_joined_2 : (.fieldLinkNest RX3 142 "RecordLabels$LabelSet" "kind" "LRecordLabels$Kind;" "RecordLabels" : Cond) ∈ ow_nest := by decide +kernel
theorem ln_X3_joined_3 : (.fieldLinkNest RX3 155 "RecordLabels$Kind" "size" "I" "RecordLabels" : Cond) ∈ ow_nest := by decide +kernel
theorem li_X3_joined_X0 : ∀ w ∈ u_ws RX0 TX0 7, w ∈ wsX3_joined := by decide +kernel
def fX3_joined (st : ow_St) (x0 : Int32) (i j : Nat) : Int32 := (if x0 = 0 then ((st.1 3 i) ||| (st.1 3 j)) else (if x0 = 1 then ((st.1 3 i) &&& (st.1 3 j)) else (if x0 = 2 then ((st.1 3 i) &&& ((st.1 3 j) ^^^ (-1))) else (((1 <<< ((nI (mn (st.2.2 (i + 1)))) &&& 31)) - 1) &&& ((st.1 3 i) ^^^ (-1))))))
set_option maxHeartbeats 4000000 in
set_option maxRecDepth 100000 in
theorem kX3_joined (l : Launch) (D : va_G) (ca : Nat → ClassId) (ad : ow_Ad) (A : Nat → Prop) (st : ow_St) (x0 : Int32) (i : Nat) (hi : i < 10) (j : Nat) (hj : j < 10) (hki : st.2.2 (i + 1) < 3) : Met l yX3_joined wsX3_joined ({ frames := 0, cells := 0, slots := 0, locals := 0 }) (va_Pc [.int x0, .ref (ad 5 i), .ref (ad 5 j)] (ow_W D ca ad A st)) (va_Qi (fun r st' => r = (fX3_joined st x0 i j) ∧ st' = st) (ow_B D ca ad) A) 0 0 A := by
  refine Met.ofW (cc := cX3_joined) (maxL := 3) (ret := (some .int)) (by decide) rfl ?_
  intro p e s m args below meth c s₁ B hml hv
  obtain ⟨rfl, hP, hC⟩ := hv
  have hx := B.exec
  have hb := B.bytes
  have hr := B.returns
  have hts := atoms_spec (ws := wsX3_joined) B.pre
  have hown : s.vm.findClass RX3 = some m.cls := findClass_of_methodNamed B.named
  have hlocks := B.notSynchronized
  have hS : va_S A s.heap s.heap [] := va_S.rf
  have hl := lv_entry ([.int x0, .ref (ad 5 i), .ref (ad 5 j)]) (n := 3) (Nat.le_of_ble_eq_true rfl)
  rw [lg_entry_eq]
  generalize (lg_sl ([.int x0, .ref (ad 5 i), .ref (ad 5 j)]) ++ List.replicate (3 - (lg_sl ([.int x0, .ref (ad 5 i), .ref (ad 5 j)])).length) Slot.unset).toArray = ls at hl ⊢
  have hl : lv_has ls 3 [(0, .int x0), (1, .ref (ad 5 i)), (2, .ref (ad 5 j))] := hl
  refine lv_iload_n hx hb dX3_joined_0 rfl (lv_at hl 0 rfl) ?_
  by_cases c_1 : x0 = 0
  · refine lv_tableIn (tgt := 28) (off := 27) hx hb dX3_joined_1 (by rw [c_1]; decide) (by rw [c_1]; decide) (by rw [c_1]; rfl) (by decide) ?_
    refine lv_aload_n hx hb dX3_joined_28 rfl (lv_at hl 1 rfl) ?_
    refine og_getN (C := RX1) (T := TX1) (N := 2) (g := 5) (i := i) (v := .int (st.1 3 i)) hx hb hts li_X3_joined_X1 hown hC hP (ow_m5 hi) rfl rfl 1 (by decide) ln_X3_joined_0 rfl rfl dX3_joined_29 ?_
    refine lv_aload_n hx hb dX3_joined_32 rfl (lv_at hl 2 rfl) ?_
    refine og_getN (C := RX1) (T := TX1) (N := 2) (g := 5) (i := j) (v := .int (st.1 3 j)) hx hb hts li_X3_joined_X1 hown hC hP (ow_m5 hj) rfl rfl 1 (by decide) ln_X3_joined_0 rfl rfl dX3_joined_33 ?_
    refine lv_ior hx hb dX3_joined_36 ?_
    exact W.iret (v := ((st.1 3 i) ||| (st.1 3 j))) hx hb hr (fun t ht hW => ⟨⟨((st.1 3 i) ||| (st.1 3 j)), st, rfl, ⟨(by simp only [fX3_joined, if_pos c_1]), rfl⟩, ow_Bi ht hP⟩, hS.F ht⟩) hS.2.2 dX3_joined_37
  · by_cases c_2 : x0 = 1
    · refine lv_tableIn (tgt := 38) (off := 37) hx hb dX3_joined_1 (by rw [c_2]; decide) (by rw [c_2]; decide) (by rw [c_2]; rfl) (by decide) ?_
      refine lv_aload_n hx hb dX3_joined_38 rfl (lv_at hl 1 rfl) ?_
      refine og_getN (C := RX1) (T := TX1) (N := 2) (g := 5) (i := i) (v := .int (st.1 3 i)) hx hb hts li_X3_joined_X1 hown hC hP (ow_m5 hi) rfl rfl 1 (by decide) ln_X3_joined_0 rfl rfl dX3_joined_39 ?_
      refine lv_aload_n hx hb dX3_joined_42 rfl (lv_at hl 2 rfl) ?_
      refine og_getN (C := RX1) (T := TX1) (N := 2) (g := 5) (i := j) (v := .int (st.1 3 j)) hx hb hts li_X3_joined_X1 hown hC hP (ow_m5 hj) rfl rfl 1 (by decide) ln_X3_joined_0 rfl rfl dX3_joined_43 ?_
      refine lv_iand hx hb dX3_joined_46 ?_
      exact W.iret (v := ((st.1 3 i) &&& (st.1 3 j))) hx hb hr (fun t ht hW => ⟨⟨((st.1 3 i) &&& (st.1 3 j)), st, rfl, ⟨(by simp only [fX3_joined, if_neg c_1, if_pos c_2]), rfl⟩, ow_Bi ht hP⟩, hS.F ht⟩) hS.2.2 dX3_joined_47
    · by_cases c_3 : x0 = 2
      · refine lv_tableIn (tgt := 48) (off := 47) hx hb dX3_joined_1 (by rw [c_3]; decide) (by rw [c_3]; decide) (by rw [c_3]; rfl) (by decide) ?_
        refine lv_aload_n hx hb dX3_joined_48 rfl (lv_at hl 1 rfl) ?_
        refine og_getN (C := RX1) (T := TX1) (N := 2) (g := 5) (i := i) (v := .int (st.1 3 i)) hx hb hts li_X3_joined_X1 hown hC hP (ow_m5 hi) rfl rfl 1 (by decide) ln_X3_joined_0 rfl rfl dX3_joined_49 ?_
        refine lv_aload_n hx hb dX3_joined_52 rfl (lv_at hl 2 rfl) ?_
        refine og_getN (C := RX1) (T := TX1) (N := 2) (g := 5) (i := j) (v := .int (st.1 3 j)) hx hb hts li_X3_joined_X1 hown hC hP (ow_m5 hj) rfl rfl 1 (by decide) ln_X3_joined_0 rfl rfl dX3_joined_53 ?_
        refine lv_iconst (v := (-1)) hx hb dX3_joined_56 (by decide) ?_
        refine lv_ixor hx hb dX3_joined_57 ?_
        refine lv_iand hx hb dX3_joined_58 ?_
        exact W.iret (v := ((st.1 3 i) &&& ((st.1 3 j) ^^^ (-1)))) hx hb hr (fun t ht hW => ⟨⟨((st.1 3 i) &&& ((st.1 3 j) ^^^ (-1))), st, rfl, ⟨(by simp only [fX3_joined, if_neg c_1, if_neg c_2, if_pos c_3]), rfl⟩, ow_Bi ht hP⟩, hS.F ht⟩) hS.2.2 dX3_joined_59
      · refine lv_tableOut (tgt := 60) hx hb dX3_joined_1 (by have h0 := ow_ne (n := 0) 0 rfl c_1; have h1 := ow_ne (n := 1) 1 rfl c_2; have h2 := ow_ne (n := 2) 2 rfl c_3; omega) (by decide) ?_
        refine lv_iconst (v := 1) hx hb dX3_joined_60 (by decide) ?_
        refine lv_aload_n hx hb dX3_joined_61 rfl (lv_at hl 1 rfl) ?_
        refine og_getN (C := RX1) (T := TX1) (N := 2) (g := 5) (i := i) (v := .ref (ad 1 (st.2.2 (i + 1)))) hx hb hts li_X3_joined_X1 hown hC hP (ow_m5 hi) rfl rfl 0 (by decide) ln_X3_joined_2 rfl rfl dX3_joined_62 ?_
        refine og_getN (C := RX0) (T := TX0) (N := 7) (g := 1) (i := (st.2.2 (i + 1))) (v := .int (nI (mn (st.2.2 (i + 1))))) hx hb hts li_X3_joined_X0 hown hC hP (ow_m1 hki) rfl rfl 2 (by decide) ln_X3_joined_3 rfl rfl dX3_joined_65 ?_
        refine lv_ishl hx hb dX3_joined_68 ?_
        refine lv_iconst (v := 1) hx hb dX3_joined_69 (by decide) ?_
        refine lv_isub hx hb dX3_joined_70 ?_
        refine lv_aload_n hx hb dX3_joined_71 rfl (lv_at hl 1 rfl) ?_
        refine og_getN (C := RX1) (T := TX1) (N := 2) (g := 5) (i := i) (v := .int (st.1 3 i)) hx hb hts li_X3_joined_X1 hown hC hP (ow_m5 hi) rfl rfl 1 (by decide) ln_X3_joined_0 rfl rfl dX3_joined_72 ?_
        refine lv_iconst (v := (-1)) hx hb dX3_joined_75 (by decide) ?_
        refine lv_ixor hx hb dX3_joined_76 ?_
        refine lv_iand hx hb dX3_joined_77 ?_
        exact W.iret (v := (((1 <<< ((nI (mn (st.2.2 (i + 1)))) &&& 31)) - 1) &&& ((st.1 3 i) ^^^ (-1)))) hx hb hr (fun t ht hW => ⟨⟨(((1 <<< ((nI (mn (st.2.2 (i + 1)))) &&& 31)) - 1) &&& ((st.1 3 i) ^^^ (-1))), st, rfl, ⟨(by simp only [fX3_joined, if_neg c_1, if_neg c_2, if_neg c_3]), rfl⟩, ow_Bi ht hP⟩, hS.F ht⟩) hS.2.2 dX3_joined_78

theorem ln_X3_kindOfItem_0_0 : (.fieldLinkNest RX3 194 "RecordLabels$Table" "kind" "LRecordLabels$Kind;" "RecordLabels" : Cond) ∈ ow_nest := by decide +kernel
theorem li_X3_kindOfItem_0_X2 : ∀ w ∈ u_ws RX2 TX2 5, w ∈ wsX3_kindOfItem := by decide +kernel
theorem li_X3_kindOfItem_0_X3 : ∀ w ∈ u_ws RX3 TX3 14, w ∈ wsX3_kindOfItem := by decide +kernel
theorem lk_X3_kindOfItem_0_3 : (.fieldLink RX3 45 "RecordLabels" "nodeTable" "LRecordLabels$Table;" : Cond) ∈ wsX3_kindOfItem := by decide +kernel
theorem lk_X3_kindOfItem_0_4 : (.fieldLink RX3 31 "RecordLabels" "signKind" "LRecordLabels$Kind;" : Cond) ∈ wsX3_kindOfItem := by decide +kernel
def fX3_kindOfItem_0 (ad : ow_Ad) (st : ow_St) (x2 : Int32) : Option Nat := (if x2 = 0 then some (ad 1 0) else (if x2 = 2 then some (ad 1 2) else none))
set_option maxHeartbeats 4000000 in
set_option maxRecDepth 100000 in
theorem kX3_kindOfItem_0 (l : Launch) (D : va_G) (ca : Nat → ClassId) (ad : ow_Ad) (A : Nat → Prop) (st : ow_St) (x2 : Int32) : Met l yX3_kindOfItem wsX3_kindOfItem ({ frames := 0, cells := 0, slots := 0, locals := 0 }) (va_Pc [.ref (ad 0 0), .ref (ad 6 0), .int x2] (ow_W D ca ad A st)) (va_Qq (fun r st' => r = (fX3_kindOfItem_0 ad st x2) ∧ st' = st) (ow_B D ca ad) A) 0 0 A := by
  refine Met.ofW (cc := cX3_kindOfItem) (maxL := 3) (ret := (some (.object "RecordLabels$Kind"))) (by decide) rfl ?_
  intro p e s m args below meth c s₁ B hml hv
  obtain ⟨rfl, hP, hC⟩ := hv
  have hx := B.exec
  have hb := B.bytes
  have hr := B.returns
  have hts := atoms_spec (ws := wsX3_kindOfItem) B.pre
  have hown : s.vm.findClass RX3 = some m.cls := findClass_of_methodNamed B.named
  have hlocks := B.notSynchronized
  have hS : va_S A s.heap s.heap [] := va_S.rf
  have hl := lv_entry ([.ref (ad 0 0), .ref (ad 6 0), .int x2]) (n := 3) (Nat.le_of_ble_eq_true rfl)
  rw [lg_entry_eq]
  generalize (lg_sl ([.ref (ad 0 0), .ref (ad 6 0), .int x2]) ++ List.replicate (3 - (lg_sl ([.ref (ad 0 0), .ref (ad 6 0), .int x2])).length) Slot.unset).toArray = ls at hl ⊢
  have hl : lv_has ls 3 [(0, .ref (ad 0 0)), (1, .ref (ad 6 0)), (2, .int x2)] := hl
  refine lv_iload_n hx hb dX3_kindOfItem_0 rfl (lv_at hl 2 rfl) ?_
  refine lv_if_ne (tgt := 9) hx hb dX3_kindOfItem_1 (by decide) (fun c_1 => ?_) (fun c_1 => ?_)
  · refine lv_aload_n hx hb dX3_kindOfItem_9 rfl (lv_at hl 1 rfl) ?_
    refine lv_aload_n hx hb dX3_kindOfItem_10 rfl (lv_at hl 0 rfl) ?_
    refine og_get (C := RX3) (T := TX3) (N := 14) (g := 0) (i := 0) (v := .ref (ad 6 0)) hx hb hts li_X3_kindOfItem_0_X3 hown hC hP (ow_q0_0) rfl rfl 4 (by decide) (hts _ lk_X3_kindOfItem_0_3) rfl rfl dX3_kindOfItem_11 ?_
    refine lv_acmp_ne (rx := some (ad 6 0)) (ry := some (ad 6 0)) (tgt := 29) hx hb dX3_kindOfItem_14 (by decide) (fun c => absurd rfl c) (fun _ => ?_)
    refine lv_iload_n hx hb dX3_kindOfItem_17 rfl (lv_at hl 2 rfl) ?_
    refine lv_iconst (v := 2) hx hb dX3_kindOfItem_18 (by decide) ?_
    refine lv_icmp_ne (tgt := 29) hx hb dX3_kindOfItem_19 (by decide) (fun c_2 => ?_) (fun c_2 => ?_)
    · refine lv_null hx hb dX3_kindOfItem_29 ?_
      exact W.aret (v := va_rf none) hx hb hr (Or.inl ⟨_, rfl⟩) (Or.inl rfl) (fun t ht hW => ⟨⟨none, st, rfl, ⟨(by simp only [fX3_kindOfItem_0, if_neg c_1, if_neg c_2]), rfl⟩, ow_Bi ht hP⟩, hS.F ht⟩) hS.2.2 dX3_kindOfItem_30
    · refine lv_aload_n hx hb dX3_kindOfItem_22 rfl (lv_at hl 0 rfl) ?_
      refine og_get (C := RX3) (T := TX3) (N := 14) (g := 0) (i := 0) (v := .ref (ad 1 2)) hx hb hts li_X3_kindOfItem_0_X3 hown hC hP (ow_q0_0) rfl rfl 2 (by decide) (hts _ lk_X3_kindOfItem_0_4) rfl rfl dX3_kindOfItem_23 ?_
      refine lv_goto (tgt := 30) hx hb dX3_kindOfItem_26 (by decide) ?_
      exact W.aret (v := va_rf (some (ad 1 2))) hx hb hr (Or.inl ⟨_, rfl⟩) (Or.inr ⟨_, rfl⟩) (fun t ht hW => ⟨⟨(some (ad 1 2)), st, rfl, ⟨(by simp only [fX3_kindOfItem_0, if_neg c_1, if_pos c_2]), rfl⟩, ow_Bi ht hP⟩, hS.F ht⟩) hS.2.2 dX3_kindOfItem_30
  · refine lv_aload_n hx hb dX3_kindOfItem_4 rfl (lv_at hl 1 rfl) ?_
    refine og_getN (C := RX2) (T := TX2) (N := 5) (g := 6) (i := 0) (v := .ref (ad 1 0)) hx hb hts li_X3_kindOfItem_0_X2 hown hC hP (ow_q6_0) rfl rfl 0 (by decide) ln_X3_kindOfItem_0_0 rfl rfl dX3_kindOfItem_5 ?_
    exact W.aret (v := va_rf (some (ad 1 0))) hx hb hr (Or.inl ⟨_, rfl⟩) (Or.inr ⟨_, rfl⟩) (fun t ht hW => ⟨⟨(some (ad 1 0)), st, rfl, ⟨(by simp only [fX3_kindOfItem_0, if_pos c_1]), rfl⟩, ow_Bi ht hP⟩, hS.F ht⟩) hS.2.2 dX3_kindOfItem_8

theorem ln_X3_toCell_0_0 : (.methodLinkNest RX3 108 yX0_constantOf "RecordLabels" : Cond) ∈ ow_nest := by decide +kernel
theorem lk_X3_toCell_0_1 : (.initialized RX0 : Cond) ∈ wsX3_toCell := by decide +kernel
theorem lk_X3_toCell_0_2 : (.instanceMethod yX0_constantOf : Cond) ∈ wsX3_toCell := by decide +kernel
theorem lk_X3_toCell_0_3 : (.selects RX0 yX0_constantOf yX0_constantOf : Cond) ∈ wsX3_toCell := by decide +kernel
def fX3_toCell_0 (st : ow_St) (x2 x3 : Int32) : Int32 := (if x2 = 0 then (fX0_constantOf st 0 x3) else (if x2 = 2 then (fX0_constantOf st 2 x3) else x3))
set_option maxHeartbeats 4000000 in
set_option maxRecDepth 100000 in
theorem kX3_toCell_0 (l : Launch) (D : va_G) (ca : Nat → ClassId) (ad : ow_Ad) (A : Nat → Prop) (st : ow_St) (x2 : Int32) (x3 : Int32) : Met l yX3_toCell wsX3_toCell ({ frames := 2, cells := 0, slots := 0, locals := 42 }) (va_Pc [.ref (ad 0 0), .ref (ad 6 0), .int x2, .int x3] (ow_W D ca ad A st)) (va_Qi (fun r st' => r = (fX3_toCell_0 st x2 x3) ∧ st' = st) (ow_B D ca ad) A) 0 0 A := by
  refine Met.ofW (cc := cX3_toCell) (maxL := 5) (ret := (some .int)) (by decide) rfl ?_
  intro p e s m args below meth c s₁ B hml hv
  obtain ⟨rfl, hP, hC⟩ := hv
  have hx := B.exec
  have hb := B.bytes
  have hr := B.returns
  have hts := atoms_spec (ws := wsX3_toCell) B.pre
  have hown : s.vm.findClass RX3 = some m.cls := findClass_of_methodNamed B.named
  have hlocks := B.notSynchronized
  have hS : va_S A s.heap s.heap [] := va_S.rf
  have hl := lv_entry ([.ref (ad 0 0), .ref (ad 6 0), .int x2, .int x3]) (n := 5) (Nat.le_of_ble_eq_true rfl)
  rw [lg_entry_eq]
  generalize (lg_sl ([.ref (ad 0 0), .ref (ad 6 0), .int x2, .int x3]) ++ List.replicate (5 - (lg_sl ([.ref (ad 0 0), .ref (ad 6 0), .int x2, .int x3])).length) Slot.unset).toArray = ls at hl ⊢
  have hl : lv_has ls 5 [(0, .ref (ad 0 0)), (1, .ref (ad 6 0)), (2, .int x2), (3, .int x3)] := hl
  refine lv_aload_n hx hb dX3_toCell_0 rfl (lv_at hl 0 rfl) ?_
  refine lv_aload_n hx hb dX3_toCell_1 rfl (lv_at hl 1 rfl) ?_
  refine lv_iload_n hx hb dX3_toCell_2 rfl (lv_at hl 2 rfl) ?_
  by_cases c_1 : x2 = 0
  · refine og_cqS (q := ad 1 0) (og_runV (C := RX3) (T := TX3) (N := 14) (g := 0) (i := 0) (As := [.ref (ad 6 0), .int x2]) (rest := []) ⟨hx, hb, hml, hown, hts⟩ (kX3_kindOfItem_0 l D ca ad A st x2) (cwV 2 hts gX3_toCell_X3_kindOfItem rfl rfl rfl (by decide +kernel) ⟨Nat.le_of_ble_eq_true rfl, Nat.le_of_ble_eq_true rfl⟩) hC hP hS (ow_q0_0) rfl rfl rfl hl.1 rfl (Nat.le_of_ble_eq_true rfl) dX3_toCell_3 ⟨Nat.zero_le _, Nat.zero_le _⟩) hS (by simp only [fX3_kindOfItem_0, if_pos c_1]) (fun H locs hP hS => ?_)
    refine lv_astore (lv' := [(4, .ref (ad 1 0)), (0, .ref (ad 0 0)), (1, .ref (ad 6 0)), (2, .int x2), (3, .int x3)]) hx hb dX3_toCell_6 hl (by decide) rfl (fun ls hl => ?_)
    refine lv_aload hx hb dX3_toCell_8 (lv_at hl 0 rfl) ?_
    refine lv_ifnonnull (tgt := 17) hx hb dX3_toCell_10 (by decide) ?_
    refine lv_aload hx hb dX3_toCell_17 (lv_at hl 0 rfl) ?_
    refine lv_iload_n hx hb dX3_toCell_19 rfl (lv_at hl 4 rfl) ?_
    refine og_ciP (og_runVN (C := RX0) (T := TX0) (N := 7) (g := 1) (i := 0) (As := [.int x3]) (rest := []) ⟨hx, hb, hml, hown, hts⟩ (kX0_constantOf l D ca ad A st 0 (by decide) x3) ⟨va_cnB 1 hts gX3_toCell_X0_constantOf_n108 rfl rfl rfl (hC.2.2.1 _ ln_X3_toCell_0_0) (hts _ lk_X3_toCell_0_1) (by decide +kernel) ⟨Nat.le_of_ble_eq_true rfl, Nat.le_of_ble_eq_true rfl⟩, (hts _ lk_X3_toCell_0_2), (hts _ lk_X3_toCell_0_3)⟩ hC hP hS (ow_q1_0) rfl rfl rfl hl.1 rfl (Nat.le_of_ble_eq_true rfl) dX3_toCell_20 ⟨Nat.zero_le _, Nat.zero_le _⟩) hS (fun H locs hP hS => ?_)
    exact W.iret (v := (fX0_constantOf st 0 x3)) hx hb hr (fun t ht hW => ⟨⟨(fX0_constantOf st 0 x3), st, rfl, ⟨(by simp only [fX3_toCell_0, if_pos c_1]), rfl⟩, ow_Bi ht hP⟩, hS.F ht⟩) hS.2.2 dX3_toCell_23
  · by_cases c_2 : x2 = 2
    · refine og_cqS (q := ad 1 2) (og_runV (C := RX3) (T := TX3) (N := 14) (g := 0) (i := 0) (As := [.ref (ad 6 0), .int x2]) (rest := []) ⟨hx, hb, hml, hown, hts⟩ (kX3_kindOfItem_0 l D ca ad A st x2) (cwV 2 hts gX3_toCell_X3_kindOfItem rfl rfl rfl (by decide +kernel) ⟨Nat.le_of_ble_eq_true rfl, Nat.le_of_ble_eq_true rfl⟩) hC hP hS (ow_q0_0) rfl rfl rfl hl.1 rfl (Nat.le_of_ble_eq_true rfl) dX3_toCell_3 ⟨Nat.zero_le _, Nat.zero_le _⟩) hS (by simp only [fX3_kindOfItem_0, if_neg c_1, if_pos c_2]) (fun H locs hP hS => ?_)
      refine lv_astore (lv' := [(4, .ref (ad 1 2)), (0, .ref (ad 0 0)), (1, .ref (ad 6 0)), (2, .int x2), (3, .int x3)]) hx hb dX3_toCell_6 hl (by decide) rfl (fun ls hl => ?_)
      refine lv_aload hx hb dX3_toCell_8 (lv_at hl 0 rfl) ?_
      refine lv_ifnonnull (tgt := 17) hx hb dX3_toCell_10 (by decide) ?_
      refine lv_aload hx hb dX3_toCell_17 (lv_at hl 0 rfl) ?_
      refine lv_iload_n hx hb dX3_toCell_19 rfl (lv_at hl 4 rfl) ?_
      refine og_ciP (og_runVN (C := RX0) (T := TX0) (N := 7) (g := 1) (i := 2) (As := [.int x3]) (rest := []) ⟨hx, hb, hml, hown, hts⟩ (kX0_constantOf l D ca ad A st 2 (by decide) x3) ⟨va_cnB 1 hts gX3_toCell_X0_constantOf_n108 rfl rfl rfl (hC.2.2.1 _ ln_X3_toCell_0_0) (hts _ lk_X3_toCell_0_1) (by decide +kernel) ⟨Nat.le_of_ble_eq_true rfl, Nat.le_of_ble_eq_true rfl⟩, (hts _ lk_X3_toCell_0_2), (hts _ lk_X3_toCell_0_3)⟩ hC hP hS (ow_q1_2) rfl rfl rfl hl.1 rfl (Nat.le_of_ble_eq_true rfl) dX3_toCell_20 ⟨Nat.zero_le _, Nat.zero_le _⟩) hS (fun H locs hP hS => ?_)
      exact W.iret (v := (fX0_constantOf st 2 x3)) hx hb hr (fun t ht hW => ⟨⟨(fX0_constantOf st 2 x3), st, rfl, ⟨(by simp only [fX3_toCell_0, if_neg c_1, if_pos c_2]), rfl⟩, ow_Bi ht hP⟩, hS.F ht⟩) hS.2.2 dX3_toCell_23
    · refine og_cqN (og_runV (C := RX3) (T := TX3) (N := 14) (g := 0) (i := 0) (As := [.ref (ad 6 0), .int x2]) (rest := []) ⟨hx, hb, hml, hown, hts⟩ (kX3_kindOfItem_0 l D ca ad A st x2) (cwV 2 hts gX3_toCell_X3_kindOfItem rfl rfl rfl (by decide +kernel) ⟨Nat.le_of_ble_eq_true rfl, Nat.le_of_ble_eq_true rfl⟩) hC hP hS (ow_q0_0) rfl rfl rfl hl.1 rfl (Nat.le_of_ble_eq_true rfl) dX3_toCell_3 ⟨Nat.zero_le _, Nat.zero_le _⟩) hS (by simp only [fX3_kindOfItem_0, if_neg c_1, if_neg c_2]) (fun H locs hP hS => ?_)
      refine lv_astoreN (lv' := [(4, .null), (0, .ref (ad 0 0)), (1, .ref (ad 6 0)), (2, .int x2), (3, .int x3)]) hx hb dX3_toCell_6 hl (by decide) rfl (fun ls hl => ?_)
      refine lv_aloadN hx hb dX3_toCell_8 (lv_at hl 0 rfl) ?_
      refine lv_ifnonnullN hx hb dX3_toCell_10 ?_
      refine lv_iload_n hx hb dX3_toCell_13 rfl (lv_at hl 4 rfl) ?_
      refine lv_goto (tgt := 23) hx hb dX3_toCell_14 (by decide) ?_
      exact W.iret (v := x3) hx hb hr (fun t ht hW => ⟨⟨x3, st, rfl, ⟨(by simp only [fX3_toCell_0, if_neg c_1, if_neg c_2]), rfl⟩, ow_Bi ht hP⟩, hS.F ht⟩) hS.2.2 dX3_toCell_23

theorem ln_X3_fromCell_0_0 : (.methodLinkNest RX3 90 yX0_codeOf "RecordLabels" : Cond) ∈ ow_nest := by decide +kernel
theorem lk_X3_fromCell_0_1 : (.initialized RX0 : Cond) ∈ wsX3_fromCell := by decide +kernel
theorem lk_X3_fromCell_0_2 : (.instanceMethod yX0_codeOf : Cond) ∈ wsX3_fromCell := by decide +kernel
theorem lk_X3_fromCell_0_3 : (.selects RX0 yX0_codeOf yX0_codeOf : Cond) ∈ wsX3_fromCell := by decide +kernel
def fX3_fromCell_0 (st : ow_St) (x2 x3 : Int32) : Int32 := (if x2 = 0 then (fX0_codeOf st 0 x3) else (if x2 = 2 then (fX0_codeOf st 2 x3) else x3))
set_option maxHeartbeats 4000000 in
set_option maxRecDepth 100000 in
theorem kX3_fromCell_0 (l : Launch) (D : va_G) (ca : Nat → ClassId) (ad : ow_Ad) (A : Nat → Prop) (st : ow_St) (x2 : Int32) (x3 : Int32) : Met l yX3_fromCell wsX3_fromCell ({ frames := 2, cells := 0, slots := 0, locals := 42 }) (va_Pc [.ref (ad 0 0), .ref (ad 6 0), .int x2, .int x3] (ow_W D ca ad A st)) (va_Qi (fun r st' => r = (fX3_fromCell_0 st x2 x3) ∧ st' = st) (ow_B D ca ad) A) 0 0 A := by
  refine Met.ofW (cc := cX3_fromCell) (maxL := 5) (ret := (some .int)) (by decide) rfl ?_
  intro p e s m args below meth c s₁ B hml hv
  obtain ⟨rfl, hP, hC⟩ := hv
  have hx := B.exec
  have hb := B.bytes
  have hr := B.returns
  have hts := atoms_spec (ws := wsX3_fromCell) B.pre
  have hown : s.vm.findClass RX3 = some m.cls := findClass_of_methodNamed B.named
  have hlocks := B.notSynchronized
  have hS : va_S A s.heap s.heap [] := va_S.rf
  have hl := lv_entry ([.ref (ad 0 0), .ref (ad 6 0), .int x2, .int x3]) (n := 5) (Nat.le_of_ble_eq_true rfl)
  rw [lg_entry_eq]
  generalize (lg_sl ([.ref (ad 0 0), .ref (ad 6 0), .int x2, .int x3]) ++ List.replicate (5 - (lg_sl ([.ref (ad 0 0), .ref (ad 6 0), .int x2, .int x3])).length) Slot.unset).toArray = ls at hl ⊢
  have hl : lv_has ls 5 [(0, .ref (ad 0 0)), (1, .ref (ad 6 0)), (2, .int x2), (3, .int x3)] := hl
  refine lv_aload_n hx hb dX3_fromCell_0 rfl (lv_at hl 0 rfl) ?_
  refine lv_aload_n hx hb dX3_fromCell_1 rfl (lv_at hl 1 rfl) ?_
  refine lv_iload_n hx hb dX3_fromCell_2 rfl (lv_at hl 2 rfl) ?_
  by_cases c_1 : x2 = 0
  · refine og_cqS (q := ad 1 0) (og_runV (C := RX3) (T := TX3) (N := 14) (g := 0) (i := 0) (As := [.ref (ad 6 0), .int x2]) (rest := []) ⟨hx, hb, hml, hown, hts⟩ (kX3_kindOfItem_0 l D ca ad A st x2) (cwV 2 hts gX3_fromCell_X3_kindOfItem rfl rfl rfl (by decide +kernel) ⟨Nat.le_of_ble_eq_true rfl, Nat.le_of_ble_eq_true rfl⟩) hC hP hS (ow_q0_0) rfl rfl rfl hl.1 rfl (Nat.le_of_ble_eq_true rfl) dX3_fromCell_3 ⟨Nat.zero_le _, Nat.zero_le _⟩) hS (by simp only [fX3_kindOfItem_0, if_pos c_1]) (fun H locs hP hS => ?_)
    refine lv_astore (lv' := [(4, .ref (ad 1 0)), (0, .ref (ad 0 0)), (1, .ref (ad 6 0)), (2, .int x2), (3, .int x3)]) hx hb dX3_fromCell_6 hl (by decide) rfl (fun ls hl => ?_)
    refine lv_aload hx hb dX3_fromCell_8 (lv_at hl 0 rfl) ?_
    refine lv_ifnonnull (tgt := 17) hx hb dX3_fromCell_10 (by decide) ?_
    refine lv_aload hx hb dX3_fromCell_17 (lv_at hl 0 rfl) ?_
    refine lv_iload_n hx hb dX3_fromCell_19 rfl (lv_at hl 4 rfl) ?_
    refine og_ciP (og_runVN (C := RX0) (T := TX0) (N := 7) (g := 1) (i := 0) (As := [.int x3]) (rest := []) ⟨hx, hb, hml, hown, hts⟩ (kX0_codeOf l D ca ad A st 0 (by decide) x3) ⟨va_cnB 1 hts gX3_fromCell_X0_codeOf_n90 rfl rfl rfl (hC.2.2.1 _ ln_X3_fromCell_0_0) (hts _ lk_X3_fromCell_0_1) (by decide +kernel) ⟨Nat.le_of_ble_eq_true rfl, Nat.le_of_ble_eq_true rfl⟩, (hts _ lk_X3_fromCell_0_2), (hts _ lk_X3_fromCell_0_3)⟩ hC hP hS (ow_q1_0) rfl rfl rfl hl.1 rfl (Nat.le_of_ble_eq_true rfl) dX3_fromCell_20 ⟨Nat.zero_le _, Nat.zero_le _⟩) hS (fun H locs hP hS => ?_)
    exact W.iret (v := (fX0_codeOf st 0 x3)) hx hb hr (fun t ht hW => ⟨⟨(fX0_codeOf st 0 x3), st, rfl, ⟨(by simp only [fX3_fromCell_0, if_pos c_1]), rfl⟩, ow_Bi ht hP⟩, hS.F ht⟩) hS.2.2 dX3_fromCell_23
  · by_cases c_2 : x2 = 2
    · refine og_cqS (q := ad 1 2) (og_runV (C := RX3) (T := TX3) (N := 14) (g := 0) (i := 0) (As := [.ref (ad 6 0), .int x2]) (rest := []) ⟨hx, hb, hml, hown, hts⟩ (kX3_kindOfItem_0 l D ca ad A st x2) (cwV 2 hts gX3_fromCell_X3_kindOfItem rfl rfl rfl (by decide +kernel) ⟨Nat.le_of_ble_eq_true rfl, Nat.le_of_ble_eq_true rfl⟩) hC hP hS (ow_q0_0) rfl rfl rfl hl.1 rfl (Nat.le_of_ble_eq_true rfl) dX3_fromCell_3 ⟨Nat.zero_le _, Nat.zero_le _⟩) hS (by simp only [fX3_kindOfItem_0, if_neg c_1, if_pos c_2]) (fun H locs hP hS => ?_)
      refine lv_astore (lv' := [(4, .ref (ad 1 2)), (0, .ref (ad 0 0)), (1, .ref (ad 6 0)), (2, .int x2), (3, .int x3)]) hx hb dX3_fromCell_6 hl (by decide) rfl (fun ls hl => ?_)
      refine lv_aload hx hb dX3_fromCell_8 (lv_at hl 0 rfl) ?_
      refine lv_ifnonnull (tgt := 17) hx hb dX3_fromCell_10 (by decide) ?_
      refine lv_aload hx hb dX3_fromCell_17 (lv_at hl 0 rfl) ?_
      refine lv_iload_n hx hb dX3_fromCell_19 rfl (lv_at hl 4 rfl) ?_
      refine og_ciP (og_runVN (C := RX0) (T := TX0) (N := 7) (g := 1) (i := 2) (As := [.int x3]) (rest := []) ⟨hx, hb, hml, hown, hts⟩ (kX0_codeOf l D ca ad A st 2 (by decide) x3) ⟨va_cnB 1 hts gX3_fromCell_X0_codeOf_n90 rfl rfl rfl (hC.2.2.1 _ ln_X3_fromCell_0_0) (hts _ lk_X3_fromCell_0_1) (by decide +kernel) ⟨Nat.le_of_ble_eq_true rfl, Nat.le_of_ble_eq_true rfl⟩, (hts _ lk_X3_fromCell_0_2), (hts _ lk_X3_fromCell_0_3)⟩ hC hP hS (ow_q1_2) rfl rfl rfl hl.1 rfl (Nat.le_of_ble_eq_true rfl) dX3_fromCell_20 ⟨Nat.zero_le _, Nat.zero_le _⟩) hS (fun H locs hP hS => ?_)
      exact W.iret (v := (fX0_codeOf st 2 x3)) hx hb hr (fun t ht hW => ⟨⟨(fX0_codeOf st 2 x3), st, rfl, ⟨(by simp only [fX3_fromCell_0, if_neg c_1, if_pos c_2]), rfl⟩, ow_Bi ht hP⟩, hS.F ht⟩) hS.2.2 dX3_fromCell_23
    · refine og_cqN (og_runV (C := RX3) (T := TX3) (N := 14) (g := 0) (i := 0) (As := [.ref (ad 6 0), .int x2]) (rest := []) ⟨hx, hb, hml, hown, hts⟩ (kX3_kindOfItem_0 l D ca ad A st x2) (cwV 2 hts gX3_fromCell_X3_kindOfItem rfl rfl rfl (by decide +kernel) ⟨Nat.le_of_ble_eq_true rfl, Nat.le_of_ble_eq_true rfl⟩) hC hP hS (ow_q0_0) rfl rfl rfl hl.1 rfl (Nat.le_of_ble_eq_true rfl) dX3_fromCell_3 ⟨Nat.zero_le _, Nat.zero_le _⟩) hS (by simp only [fX3_kindOfItem_0, if_neg c_1, if_neg c_2]) (fun H locs hP hS => ?_)
      refine lv_astoreN (lv' := [(4, .null), (0, .ref (ad 0 0)), (1, .ref (ad 6 0)), (2, .int x2), (3, .int x3)]) hx hb dX3_fromCell_6 hl (by decide) rfl (fun ls hl => ?_)
      refine lv_aloadN hx hb dX3_fromCell_8 (lv_at hl 0 rfl) ?_
      refine lv_ifnonnullN hx hb dX3_fromCell_10 ?_
      refine lv_iload_n hx hb dX3_fromCell_13 rfl (lv_at hl 4 rfl) ?_
      refine lv_goto (tgt := 23) hx hb dX3_fromCell_14 (by decide) ?_
      exact W.iret (v := x3) hx hb hr (fun t ht hW => ⟨⟨x3, st, rfl, ⟨(by simp only [fX3_fromCell_0, if_neg c_1, if_neg c_2]), rfl⟩, ow_Bi ht hP⟩, hS.F ht⟩) hS.2.2 dX3_fromCell_23

theorem ln_X3_highestOf_0_0 : (.fieldLinkNest RX3 155 "RecordLabels$Kind" "size" "I" "RecordLabels" : Cond) ∈ ow_nest := by decide +kernel
theorem li_X3_highestOf_0_X0 : ∀ w ∈ u_ws RX0 TX0 7, w ∈ wsX3_highestOf := by decide +kernel
theorem ln_X3_highestOf_0_2 : (.fieldLinkNest RX3 204 "RecordLabels$Table" "measure" "I" "RecordLabels" : Cond) ∈ ow_nest := by decide +kernel
theorem li_X3_highestOf_0_X2 : ∀ w ∈ u_ws RX2 TX2 5, w ∈ wsX3_highestOf := by decide +kernel
theorem li_X3_highestOf_0_X3 : ∀ w ∈ u_ws RX3 TX3 14, w ∈ wsX3_highestOf := by decide +kernel
theorem lk_X3_highestOf_0_5 : (.fieldLink RX3 45 "RecordLabels" "nodeTable" "LRecordLabels$Table;" : Cond) ∈ wsX3_highestOf := by decide +kernel
theorem ln_X3_highestOf_0_6 : (.fieldLinkNest RX3 164 "RecordLabels$Table" "size" "I" "RecordLabels" : Cond) ∈ ow_nest := by decide +kernel
def fX3_highestOf_0 (st : ow_St) (x2 : Int32) : Int32 := (if x2 = 0 then 4 else (if x2 = 2 then 25 else (if x2 = 1 then 1000 else ((st.1 4 0) - 1))))
set_option maxHeartbeats 4000000 in
set_option maxRecDepth 100000 in
theorem kX3_highestOf_0 (l : Launch) (D : va_G) (ca : Nat → ClassId) (ad : ow_Ad) (A : Nat → Prop) (st : ow_St) (x2 : Int32) : Met l yX3_highestOf wsX3_highestOf ({ frames := 1, cells := 0, slots := 0, locals := 22 }) (va_Pc [.ref (ad 0 0), .ref (ad 6 0), .int x2] (ow_W D ca ad A st)) (va_Qi (fun r st' => r = (fX3_highestOf_0 st x2) ∧ st' = st) (ow_B D ca ad) A) 0 0 A := by
  refine Met.ofW (cc := cX3_highestOf) (maxL := 4) (ret := (some .int)) (by decide) rfl ?_
  intro p e s m args below meth c s₁ B hml hv
  obtain ⟨rfl, hP, hC⟩ := hv
  have hx := B.exec
  have hb := B.bytes
  have hr := B.returns
  have hts := atoms_spec (ws := wsX3_highestOf) B.pre
  have hown : s.vm.findClass RX3 = some m.cls := findClass_of_methodNamed B.named
  have hlocks := B.notSynchronized
  have hS : va_S A s.heap s.heap [] := va_S.rf
  have hl := lv_entry ([.ref (ad 0 0), .ref (ad 6 0), .int x2]) (n := 4) (Nat.le_of_ble_eq_true rfl)
  rw [lg_entry_eq]
  generalize (lg_sl ([.ref (ad 0 0), .ref (ad 6 0), .int x2]) ++ List.replicate (4 - (lg_sl ([.ref (ad 0 0), .ref (ad 6 0), .int x2])).length) Slot.unset).toArray = ls at hl ⊢
  have hl : lv_has ls 4 [(0, .ref (ad 0 0)), (1, .ref (ad 6 0)), (2, .int x2)] := hl
  refine lv_aload_n hx hb dX3_highestOf_0 rfl (lv_at hl 0 rfl) ?_
  refine lv_aload_n hx hb dX3_highestOf_1 rfl (lv_at hl 1 rfl) ?_
  refine lv_iload_n hx hb dX3_highestOf_2 rfl (lv_at hl 2 rfl) ?_
  by_cases c_1 : x2 = 0
  · refine og_cqS (q := ad 1 0) (og_runV (C := RX3) (T := TX3) (N := 14) (g := 0) (i := 0) (As := [.ref (ad 6 0), .int x2]) (rest := []) ⟨hx, hb, hml, hown, hts⟩ (kX3_kindOfItem_0 l D ca ad A st x2) (cwV 2 hts gX3_highestOf_X3_kindOfItem rfl rfl rfl (by decide +kernel) ⟨Nat.le_of_ble_eq_true rfl, Nat.le_of_ble_eq_true rfl⟩) hC hP hS (ow_q0_0) rfl rfl rfl hl.1 rfl (Nat.le_of_ble_eq_true rfl) dX3_highestOf_3 ⟨Nat.zero_le _, Nat.zero_le _⟩) hS (by simp only [fX3_kindOfItem_0, if_pos c_1]) (fun H locs hP hS => ?_)
    refine lv_astore_n (lv' := [(3, .ref (ad 1 0)), (0, .ref (ad 0 0)), (1, .ref (ad 6 0)), (2, .int x2)]) hx hb dX3_highestOf_6 rfl hl (by decide) rfl (fun ls hl => ?_)
    refine lv_aload_n hx hb dX3_highestOf_7 rfl (lv_at hl 0 rfl) ?_
    refine lv_ifnull hx hb dX3_highestOf_8 ?_
    refine lv_aload_n hx hb dX3_highestOf_11 rfl (lv_at hl 0 rfl) ?_
    refine og_getN (C := RX0) (T := TX0) (N := 7) (g := 1) (i := 0) (v := .int 5) hx hb hts li_X3_highestOf_0_X0 hown hC hP (ow_q1_0) rfl rfl 2 (by decide) ln_X3_highestOf_0_0 rfl rfl dX3_highestOf_12 ?_
    refine lv_iconst (v := 1) hx hb dX3_highestOf_15 (by decide) ?_
    refine lv_isub hx hb dX3_highestOf_16 ?_
    rw [show (5 : Int32) - 1 = (4 : Int32) from rfl]
    exact W.iret (v := 4) hx hb hr (fun t ht hW => ⟨⟨4, st, rfl, ⟨(by simp only [fX3_highestOf_0, if_pos c_1]), rfl⟩, ow_Bi ht hP⟩, hS.F ht⟩) hS.2.2 dX3_highestOf_17
  · by_cases c_2 : x2 = 2
    · refine og_cqS (q := ad 1 2) (og_runV (C := RX3) (T := TX3) (N := 14) (g := 0) (i := 0) (As := [.ref (ad 6 0), .int x2]) (rest := []) ⟨hx, hb, hml, hown, hts⟩ (kX3_kindOfItem_0 l D ca ad A st x2) (cwV 2 hts gX3_highestOf_X3_kindOfItem rfl rfl rfl (by decide +kernel) ⟨Nat.le_of_ble_eq_true rfl, Nat.le_of_ble_eq_true rfl⟩) hC hP hS (ow_q0_0) rfl rfl rfl hl.1 rfl (Nat.le_of_ble_eq_true rfl) dX3_highestOf_3 ⟨Nat.zero_le _, Nat.zero_le _⟩) hS (by simp only [fX3_kindOfItem_0, if_neg c_1, if_pos c_2]) (fun H locs hP hS => ?_)
      refine lv_astore_n (lv' := [(3, .ref (ad 1 2)), (0, .ref (ad 0 0)), (1, .ref (ad 6 0)), (2, .int x2)]) hx hb dX3_highestOf_6 rfl hl (by decide) rfl (fun ls hl => ?_)
      refine lv_aload_n hx hb dX3_highestOf_7 rfl (lv_at hl 0 rfl) ?_
      refine lv_ifnull hx hb dX3_highestOf_8 ?_
      refine lv_aload_n hx hb dX3_highestOf_11 rfl (lv_at hl 0 rfl) ?_
      refine og_getN (C := RX0) (T := TX0) (N := 7) (g := 1) (i := 2) (v := .int 26) hx hb hts li_X3_highestOf_0_X0 hown hC hP (ow_q1_2) rfl rfl 2 (by decide) ln_X3_highestOf_0_0 rfl rfl dX3_highestOf_12 ?_
      refine lv_iconst (v := 1) hx hb dX3_highestOf_15 (by decide) ?_
      refine lv_isub hx hb dX3_highestOf_16 ?_
      rw [show (26 : Int32) - 1 = (25 : Int32) from rfl]
      exact W.iret (v := 25) hx hb hr (fun t ht hW => ⟨⟨25, st, rfl, ⟨(by simp only [fX3_highestOf_0, if_neg c_1, if_pos c_2]), rfl⟩, ow_Bi ht hP⟩, hS.F ht⟩) hS.2.2 dX3_highestOf_17
    · refine og_cqN (og_runV (C := RX3) (T := TX3) (N := 14) (g := 0) (i := 0) (As := [.ref (ad 6 0), .int x2]) (rest := []) ⟨hx, hb, hml, hown, hts⟩ (kX3_kindOfItem_0 l D ca ad A st x2) (cwV 2 hts gX3_highestOf_X3_kindOfItem rfl rfl rfl (by decide +kernel) ⟨Nat.le_of_ble_eq_true rfl, Nat.le_of_ble_eq_true rfl⟩) hC hP hS (ow_q0_0) rfl rfl rfl hl.1 rfl (Nat.le_of_ble_eq_true rfl) dX3_highestOf_3 ⟨Nat.zero_le _, Nat.zero_le _⟩) hS (by simp only [fX3_kindOfItem_0, if_neg c_1, if_neg c_2]) (fun H locs hP hS => ?_)
      refine lv_astore_nN (lv' := [(3, .null), (0, .ref (ad 0 0)), (1, .ref (ad 6 0)), (2, .int x2)]) hx hb dX3_highestOf_6 rfl hl (by decide) rfl (fun ls hl => ?_)
      refine lv_aload_nN hx hb dX3_highestOf_7 rfl (lv_at hl 0 rfl) ?_
      refine lv_ifnullN (tgt := 18) hx hb dX3_highestOf_8 (by decide) ?_
      refine lv_iload_n hx hb dX3_highestOf_18 rfl (lv_at hl 3 rfl) ?_
      refine lv_aload_n hx hb dX3_highestOf_19 rfl (lv_at hl 2 rfl) ?_
      refine og_getN (C := RX2) (T := TX2) (N := 5) (g := 6) (i := 0) (v := .int 1) hx hb hts li_X3_highestOf_0_X2 hown hC hP (ow_q6_0) rfl rfl 2 (by decide) ln_X3_highestOf_0_2 rfl rfl dX3_highestOf_20 ?_
      refine lv_icmp_ne (tgt := 43) hx hb dX3_highestOf_23 (by decide) (fun c_3 => ?_) (fun c_3 => ?_)
      · refine lv_aload_n hx hb dX3_highestOf_43 rfl (lv_at hl 1 rfl) ?_
        refine og_get (C := RX3) (T := TX3) (N := 14) (g := 0) (i := 0) (v := .ref (ad 6 0)) hx hb hts li_X3_highestOf_0_X3 hown hC hP (ow_q0_0) rfl rfl 4 (by decide) (hts _ lk_X3_highestOf_0_5) rfl rfl dX3_highestOf_44 ?_
        refine og_getN (C := RX2) (T := TX2) (N := 5) (g := 6) (i := 0) (v := .int (st.1 4 0)) hx hb hts li_X3_highestOf_0_X2 hown hC hP (ow_q6_0) rfl rfl 4 (by decide) ln_X3_highestOf_0_6 rfl rfl dX3_highestOf_47 ?_
        refine lv_iconst (v := 1) hx hb dX3_highestOf_50 (by decide) ?_
        refine lv_isub hx hb dX3_highestOf_51 ?_
        exact W.iret (v := ((st.1 4 0) - 1)) hx hb hr (fun t ht hW => ⟨⟨((st.1 4 0) - 1), st, rfl, ⟨(by simp only [fX3_highestOf_0, if_neg c_1, if_neg c_2, if_neg c_3]), rfl⟩, ow_Bi ht hP⟩, hS.F ht⟩) hS.2.2 dX3_highestOf_52
      · refine lv_aload_n hx hb dX3_highestOf_26 rfl (lv_at hl 2 rfl) ?_
        refine lv_aload_n hx hb dX3_highestOf_27 rfl (lv_at hl 1 rfl) ?_
        refine og_get (C := RX3) (T := TX3) (N := 14) (g := 0) (i := 0) (v := .ref (ad 6 0)) hx hb hts li_X3_highestOf_0_X3 hown hC hP (ow_q0_0) rfl rfl 4 (by decide) (hts _ lk_X3_highestOf_0_5) rfl rfl dX3_highestOf_28 ?_
        refine lv_acmp_ne (rx := some (ad 6 0)) (ry := some (ad 6 0)) (tgt := 40) hx hb dX3_highestOf_31 (by decide) (fun c => absurd rfl c) (fun _ => ?_)
        refine lv_sipush (v := 1000) hx hb dX3_highestOf_34 (by decide) ?_
        refine lv_goto (tgt := 42) hx hb dX3_highestOf_37 (by decide) ?_
        exact W.iret (v := 1000) hx hb hr (fun t ht hW => ⟨⟨1000, st, rfl, ⟨(by simp only [fX3_highestOf_0, if_neg c_1, if_neg c_2, if_pos c_3]), rfl⟩, ow_Bi ht hP⟩, hS.F ht⟩) hS.2.2 dX3_highestOf_42

theorem ln_X3_wrongItem_0_0 : (.fieldLinkNest RX3 173 "RecordLabels$Table" "items" "I" "RecordLabels" : Cond) ∈ ow_nest := by decide +kernel
theorem li_X3_wrongItem_0_X2 : ∀ w ∈ u_ws RX2 TX2 5, w ∈ wsX3_wrongItem := by decide +kernel
theorem li_X3_wrongItem_0_X3 : ∀ w ∈ u_ws RX3 TX3 14, w ∈ wsX3_wrongItem := by decide +kernel
theorem lk_X3_wrongItem_0_3 : (.fieldLink RX3 63 "RecordLabels" "draft" "[I" : Cond) ∈ wsX3_wrongItem := by decide +kernel
theorem lk_X3_wrongItem_0_4 : (.fieldLink RX3 49 "RecordLabels" "arcTable" "LRecordLabels$Table;" : Cond) ∈ wsX3_wrongItem := by decide +kernel
def fX3_wrongItem_0 (st : ow_St) : Int32 := (if (fX3_isFromTo st (st.1 103 0) 0 (fX3_highestOf_0 st 0)) = 0 then 0 else (if (fX3_isFromTo st (st.1 103 1) 0 (fX3_highestOf_0 st 1)) = 0 then 1 else (if (fX3_isFromTo st (st.1 103 2) 0 (fX3_highestOf_0 st 2)) = 0 then 2 else (-1))))
set_option maxHeartbeats 4000000 in
set_option maxRecDepth 100000 in
theorem kX3_wrongItem_0 (l : Launch) (D : va_G) (ca : Nat → ClassId) (ad : ow_Ad) (A : Nat → Prop) (st : ow_St)  : Met l yX3_wrongItem wsX3_wrongItem ({ frames := 2, cells := 0, slots := 0, locals := 45 }) (va_Pc [.ref (ad 0 0), .ref (ad 6 0)] (ow_W D ca ad A st)) (va_Qi (fun r st' => r = (fX3_wrongItem_0 st) ∧ st' = st) (ow_B D ca ad) A) 0 0 A := by
  refine Met.ofW (cc := cX3_wrongItem) (maxL := 3) (ret := (some .int)) (by decide) rfl ?_
  intro p e s m args below meth c s₁ B hml hv
  obtain ⟨rfl, hP, hC⟩ := hv
  have hx := B.exec
  have hb := B.bytes
  have hr := B.returns
  have hts := atoms_spec (ws := wsX3_wrongItem) B.pre
  have hown : s.vm.findClass RX3 = some m.cls := findClass_of_methodNamed B.named
  have hlocks := B.notSynchronized
  have hS : va_S A s.heap s.heap [] := va_S.rf
  have hl := lv_entry ([.ref (ad 0 0), .ref (ad 6 0)]) (n := 3) (Nat.le_of_ble_eq_true rfl)
  rw [lg_entry_eq]
  generalize (lg_sl ([.ref (ad 0 0), .ref (ad 6 0)]) ++ List.replicate (3 - (lg_sl ([.ref (ad 0 0), .ref (ad 6 0)])).length) Slot.unset).toArray = ls at hl ⊢
  have hl : lv_has ls 3 [(0, .ref (ad 0 0)), (1, .ref (ad 6 0))] := hl
  refine lv_iconst (v := 0) hx hb dX3_wrongItem_0 (by decide) ?_
  refine lv_istore_n (lv' := [(2, .int 0), (0, .ref (ad 0 0)), (1, .ref (ad 6 0))]) hx hb dX3_wrongItem_1 rfl hl (by decide) rfl (fun ls hl => ?_)
  refine lv_iload_n hx hb dX3_wrongItem_2 rfl (lv_at hl 0 rfl) ?_
  refine lv_aload_n hx hb dX3_wrongItem_3 rfl (lv_at hl 2 rfl) ?_
  refine og_getN (C := RX2) (T := TX2) (N := 5) (g := 6) (i := 0) (v := .int 3) hx hb hts li_X3_wrongItem_0_X2 hown hC hP (ow_q6_0) rfl rfl 1 (by decide) ln_X3_wrongItem_0_0 rfl rfl dX3_wrongItem_4 ?_
  refine lv_icmp_ge (tgt := 37) hx hb dX3_wrongItem_7 (by decide) (fun c => absurd c (by decide)) (fun _ => ?_)
  refine lv_aload_n hx hb dX3_wrongItem_10 rfl (lv_at hl 1 rfl) ?_
  refine og_get (C := RX3) (T := TX3) (N := 14) (g := 0) (i := 0) (v := .ref (ad 9 0)) hx hb hts li_X3_wrongItem_0_X3 hown hC hP (ow_q0_0) rfl rfl 9 (by decide) (hts _ lk_X3_wrongItem_0_3) rfl rfl dX3_wrongItem_11 ?_
  refine lv_iload_n hx hb dX3_wrongItem_14 rfl (lv_at hl 0 rfl) ?_
  refine og_iald (g := 9) (i := 0) (j := 0) (v := (st.1 103 0)) hx hb hC hP (ow_q9_0) rfl (by unfold vp_in; decide) rfl rfl dX3_wrongItem_15 ?_
  refine lv_iconst (v := 0) hx hb dX3_wrongItem_16 (by decide) ?_
  refine lv_aload_n hx hb dX3_wrongItem_17 rfl (lv_at hl 1 rfl) ?_
  refine lv_aload_n hx hb dX3_wrongItem_18 rfl (lv_at hl 2 rfl) ?_
  refine lv_iload_n hx hb dX3_wrongItem_19 rfl (lv_at hl 0 rfl) ?_
  refine og_ciP (og_runV (C := RX3) (T := TX3) (N := 14) (g := 0) (i := 0) (As := [.ref (ad 6 0), .int 0]) (rest := [.int 0, .int (st.1 103 0)]) ⟨hx, hb, hml, hown, hts⟩ (kX3_highestOf_0 l D ca ad A st 0) (cwV 2 hts gX3_wrongItem_X3_highestOf rfl rfl rfl (by decide +kernel) ⟨Nat.le_of_ble_eq_true rfl, Nat.le_of_ble_eq_true rfl⟩) hC hP hS (ow_q0_0) rfl rfl rfl hl.1 rfl (Nat.le_of_ble_eq_true rfl) dX3_wrongItem_20 ⟨Nat.zero_le _, Nat.zero_le _⟩) hS (fun H locs hP hS => ?_)
  refine og_ciP (og_runS (As := [.int (st.1 103 0), .int 0, .int (fX3_highestOf_0 st 0)]) (rest := []) ⟨hx, hb, hml, hown, hts⟩ (kX3_isFromTo l D ca ad A st (st.1 103 0) 0 (fX3_highestOf_0 st 0)) (va_cwS 3 hts gX3_wrongItem_X3_isFromTo rfl rfl rfl (by decide +kernel) ⟨Nat.le_of_ble_eq_true rfl, Nat.le_of_ble_eq_true rfl⟩) hC hP hS rfl hl.1 rfl (Nat.le_of_ble_eq_true rfl) dX3_wrongItem_23 ⟨Nat.zero_le _, Nat.zero_le _⟩) hS (fun H locs hP hS => ?_)
  refine lv_if_ne (tgt := 31) hx hb dX3_wrongItem_26 (by decide) (fun c_1 => ?_) (fun c_1 => ?_)
  · refine lv_iinc (v := 1) (lv' := [(2, .int 1), (0, .ref (ad 0 0)), (1, .ref (ad 6 0))]) hx hb dX3_wrongItem_31 hl (k := 0) rfl (by decide) (by decide) rfl (fun ls hl => ?_)
    refine lv_goto (tgt := 2) hx hb dX3_wrongItem_34 (by decide) ?_
    refine lv_iload_n hx hb dX3_wrongItem_2 rfl (lv_at hl 0 rfl) ?_
    refine lv_aload_n hx hb dX3_wrongItem_3 rfl (lv_at hl 2 rfl) ?_
    refine og_getN (C := RX2) (T := TX2) (N := 5) (g := 6) (i := 0) (v := .int 3) hx hb hts li_X3_wrongItem_0_X2 hown hC hP (ow_q6_0) rfl rfl 1 (by decide) ln_X3_wrongItem_0_0 rfl rfl dX3_wrongItem_4 ?_
    refine lv_icmp_ge (tgt := 37) hx hb dX3_wrongItem_7 (by decide) (fun c => absurd c (by decide)) (fun _ => ?_)
    refine lv_aload_n hx hb dX3_wrongItem_10 rfl (lv_at hl 1 rfl) ?_
    refine og_get (C := RX3) (T := TX3) (N := 14) (g := 0) (i := 0) (v := .ref (ad 9 0)) hx hb hts li_X3_wrongItem_0_X3 hown hC hP (ow_q0_0) rfl rfl 9 (by decide) (hts _ lk_X3_wrongItem_0_3) rfl rfl dX3_wrongItem_11 ?_
    refine lv_iload_n hx hb dX3_wrongItem_14 rfl (lv_at hl 0 rfl) ?_
    refine og_iald (g := 9) (i := 0) (j := 1) (v := (st.1 103 1)) hx hb hC hP (ow_q9_0) rfl (by unfold vp_in; decide) rfl rfl dX3_wrongItem_15 ?_
    refine lv_iconst (v := 0) hx hb dX3_wrongItem_16 (by decide) ?_
    refine lv_aload_n hx hb dX3_wrongItem_17 rfl (lv_at hl 1 rfl) ?_
    refine lv_aload_n hx hb dX3_wrongItem_18 rfl (lv_at hl 2 rfl) ?_
    refine lv_iload_n hx hb dX3_wrongItem_19 rfl (lv_at hl 0 rfl) ?_
    refine og_ciP (og_runV (C := RX3) (T := TX3) (N := 14) (g := 0) (i := 0) (As := [.ref (ad 6 0), .int 1]) (rest := [.int 0, .int (st.1 103 1)]) ⟨hx, hb, hml, hown, hts⟩ (kX3_highestOf_0 l D ca ad A st 1) (cwV 2 hts gX3_wrongItem_X3_highestOf rfl rfl rfl (by decide +kernel) ⟨Nat.le_of_ble_eq_true rfl, Nat.le_of_ble_eq_true rfl⟩) hC hP hS (ow_q0_0) rfl rfl rfl hl.1 rfl (Nat.le_of_ble_eq_true rfl) dX3_wrongItem_20 ⟨Nat.zero_le _, Nat.zero_le _⟩) hS (fun H locs hP hS => ?_)
    refine og_ciP (og_runS (As := [.int (st.1 103 1), .int 0, .int (fX3_highestOf_0 st 1)]) (rest := []) ⟨hx, hb, hml, hown, hts⟩ (kX3_isFromTo l D ca ad A st (st.1 103 1) 0 (fX3_highestOf_0 st 1)) (va_cwS 3 hts gX3_wrongItem_X3_isFromTo rfl rfl rfl (by decide +kernel) ⟨Nat.le_of_ble_eq_true rfl, Nat.le_of_ble_eq_true rfl⟩) hC hP hS rfl hl.1 rfl (Nat.le_of_ble_eq_true rfl) dX3_wrongItem_23 ⟨Nat.zero_le _, Nat.zero_le _⟩) hS (fun H locs hP hS => ?_)
    refine lv_if_ne (tgt := 31) hx hb dX3_wrongItem_26 (by decide) (fun c_2 => ?_) (fun c_2 => ?_)
    · refine lv_iinc (v := 2) (lv' := [(2, .int 2), (0, .ref (ad 0 0)), (1, .ref (ad 6 0))]) hx hb dX3_wrongItem_31 hl (k := 0) rfl (by decide) (by decide) rfl (fun ls hl => ?_)
      refine lv_goto (tgt := 2) hx hb dX3_wrongItem_34 (by decide) ?_
      refine lv_iload_n hx hb dX3_wrongItem_2 rfl (lv_at hl 0 rfl) ?_
      refine lv_aload_n hx hb dX3_wrongItem_3 rfl (lv_at hl 2 rfl) ?_
      refine og_getN (C := RX2) (T := TX2) (N := 5) (g := 6) (i := 0) (v := .int 3) hx hb hts li_X3_wrongItem_0_X2 hown hC hP (ow_q6_0) rfl rfl 1 (by decide) ln_X3_wrongItem_0_0 rfl rfl dX3_wrongItem_4 ?_
      refine lv_icmp_ge (tgt := 37) hx hb dX3_wrongItem_7 (by decide) (fun c => absurd c (by decide)) (fun _ => ?_)
      refine lv_aload_n hx hb dX3_wrongItem_10 rfl (lv_at hl 1 rfl) ?_
      refine og_get (C := RX3) (T := TX3) (N := 14) (g := 0) (i := 0) (v := .ref (ad 9 0)) hx hb hts li_X3_wrongItem_0_X3 hown hC hP (ow_q0_0) rfl rfl 9 (by decide) (hts _ lk_X3_wrongItem_0_3) rfl rfl dX3_wrongItem_11 ?_
      refine lv_iload_n hx hb dX3_wrongItem_14 rfl (lv_at hl 0 rfl) ?_
      refine og_iald (g := 9) (i := 0) (j := 2) (v := (st.1 103 2)) hx hb hC hP (ow_q9_0) rfl (by unfold vp_in; decide) rfl rfl dX3_wrongItem_15 ?_
      refine lv_iconst (v := 0) hx hb dX3_wrongItem_16 (by decide) ?_
      refine lv_aload_n hx hb dX3_wrongItem_17 rfl (lv_at hl 1 rfl) ?_
      refine lv_aload_n hx hb dX3_wrongItem_18 rfl (lv_at hl 2 rfl) ?_
      refine lv_iload_n hx hb dX3_wrongItem_19 rfl (lv_at hl 0 rfl) ?_
      refine og_ciP (og_runV (C := RX3) (T := TX3) (N := 14) (g := 0) (i := 0) (As := [.ref (ad 6 0), .int 2]) (rest := [.int 0, .int (st.1 103 2)]) ⟨hx, hb, hml, hown, hts⟩ (kX3_highestOf_0 l D ca ad A st 2) (cwV 2 hts gX3_wrongItem_X3_highestOf rfl rfl rfl (by decide +kernel) ⟨Nat.le_of_ble_eq_true rfl, Nat.le_of_ble_eq_true rfl⟩) hC hP hS (ow_q0_0) rfl rfl rfl hl.1 rfl (Nat.le_of_ble_eq_true rfl) dX3_wrongItem_20 ⟨Nat.zero_le _, Nat.zero_le _⟩) hS (fun H locs hP hS => ?_)
      refine og_ciP (og_runS (As := [.int (st.1 103 2), .int 0, .int (fX3_highestOf_0 st 2)]) (rest := []) ⟨hx, hb, hml, hown, hts⟩ (kX3_isFromTo l D ca ad A st (st.1 103 2) 0 (fX3_highestOf_0 st 2)) (va_cwS 3 hts gX3_wrongItem_X3_isFromTo rfl rfl rfl (by decide +kernel) ⟨Nat.le_of_ble_eq_true rfl, Nat.le_of_ble_eq_true rfl⟩) hC hP hS rfl hl.1 rfl (Nat.le_of_ble_eq_true rfl) dX3_wrongItem_23 ⟨Nat.zero_le _, Nat.zero_le _⟩) hS (fun H locs hP hS => ?_)
      refine lv_if_ne (tgt := 31) hx hb dX3_wrongItem_26 (by decide) (fun c_3 => ?_) (fun c_3 => ?_)
      · refine lv_iinc (v := 3) (lv' := [(2, .int 3), (0, .ref (ad 0 0)), (1, .ref (ad 6 0))]) hx hb dX3_wrongItem_31 hl (k := 0) rfl (by decide) (by decide) rfl (fun ls hl => ?_)
        refine lv_goto (tgt := 2) hx hb dX3_wrongItem_34 (by decide) ?_
        refine lv_iload_n hx hb dX3_wrongItem_2 rfl (lv_at hl 0 rfl) ?_
        refine lv_aload_n hx hb dX3_wrongItem_3 rfl (lv_at hl 2 rfl) ?_
        refine og_getN (C := RX2) (T := TX2) (N := 5) (g := 6) (i := 0) (v := .int 3) hx hb hts li_X3_wrongItem_0_X2 hown hC hP (ow_q6_0) rfl rfl 1 (by decide) ln_X3_wrongItem_0_0 rfl rfl dX3_wrongItem_4 ?_
        refine lv_icmp_ge (tgt := 37) hx hb dX3_wrongItem_7 (by decide) (fun _ => ?_) (fun c => absurd (by decide) c)
        refine lv_aload_n hx hb dX3_wrongItem_37 rfl (lv_at hl 2 rfl) ?_
        refine lv_aload_n hx hb dX3_wrongItem_38 rfl (lv_at hl 1 rfl) ?_
        refine og_get (C := RX3) (T := TX3) (N := 14) (g := 0) (i := 0) (v := .ref (ad 6 1)) hx hb hts li_X3_wrongItem_0_X3 hown hC hP (ow_q0_0) rfl rfl 5 (by decide) (hts _ lk_X3_wrongItem_0_4) rfl rfl dX3_wrongItem_39 ?_
        refine lv_acmp_ne (rx := some (ad 6 0)) (ry := some (ad 6 1)) (tgt := 64) hx hb dX3_wrongItem_42 (by decide) (fun _ => ?_) (fun c => absurd c (fun h => absurd (ow_inj hC.2.1 (ow_q6_0) (ow_q6_1) (Option.some.inj h)).2 (by decide)))
        refine lv_iconst (v := (-1)) hx hb dX3_wrongItem_64 (by decide) ?_
        exact W.iret (v := (-1)) hx hb hr (fun t ht hW => ⟨⟨(-1), st, rfl, ⟨(by simp only [fX3_wrongItem_0, if_neg c_1, if_neg c_2, if_neg c_3]), rfl⟩, ow_Bi ht hP⟩, hS.F ht⟩) hS.2.2 dX3_wrongItem_65
      · refine lv_iload_n hx hb dX3_wrongItem_29 rfl (lv_at hl 0 rfl) ?_
        exact W.iret (v := 2) hx hb hr (fun t ht hW => ⟨⟨2, st, rfl, ⟨(by simp only [fX3_wrongItem_0, if_neg c_1, if_neg c_2, if_pos c_3]), rfl⟩, ow_Bi ht hP⟩, hS.F ht⟩) hS.2.2 dX3_wrongItem_30
    · refine lv_iload_n hx hb dX3_wrongItem_29 rfl (lv_at hl 0 rfl) ?_
      exact W.iret (v := 1) hx hb hr (fun t ht hW => ⟨⟨1, st, rfl, ⟨(by simp only [fX3_wrongItem_0, if_neg c_1, if_pos c_2]), rfl⟩, ow_Bi ht hP⟩, hS.F ht⟩) hS.2.2 dX3_wrongItem_30
  · refine lv_iload_n hx hb dX3_wrongItem_29 rfl (lv_at hl 0 rfl) ?_
    exact W.iret (v := 0) hx hb hr (fun t ht hW => ⟨⟨0, st, rfl, ⟨(by simp only [fX3_wrongItem_0, if_pos c_1]), rfl⟩, ow_Bi ht hP⟩, hS.F ht⟩) hS.2.2 dX3_wrongItem_30

theorem ln_X3_kindOfItem_1_0 : (.fieldLinkNest RX3 194 "RecordLabels$Table" "kind" "LRecordLabels$Kind;" "RecordLabels" : Cond) ∈ ow_nest := by decide +kernel
theorem li_X3_kindOfItem_1_X2 : ∀ w ∈ u_ws RX2 TX2 5, w ∈ wsX3_kindOfItem := by decide +kernel
theorem li_X3_kindOfItem_1_X3 : ∀ w ∈ u_ws RX3 TX3 14, w ∈ wsX3_kindOfItem := by decide +kernel
theorem lk_X3_kindOfItem_1_3 : (.fieldLink RX3 45 "RecordLabels" "nodeTable" "LRecordLabels$Table;" : Cond) ∈ wsX3_kindOfItem := by decide +kernel
def fX3_kindOfItem_1 (ad : ow_Ad) (st : ow_St) (x2 : Int32) : Option Nat := (if x2 = 0 then some (ad 1 1) else none)
set_option maxHeartbeats 4000000 in
set_option maxRecDepth 100000 in
theorem kX3_kindOfItem_1 (l : Launch) (D : va_G) (ca : Nat → ClassId) (ad : ow_Ad) (A : Nat → Prop) (st : ow_St) (x2 : Int32) : Met l yX3_kindOfItem wsX3_kindOfItem ({ frames := 0, cells := 0, slots := 0, locals := 0 }) (va_Pc [.ref (ad 0 0), .ref (ad 6 1), .int x2] (ow_W D ca ad A st)) (va_Qq (fun r st' => r = (fX3_kindOfItem_1 ad st x2) ∧ st' = st) (ow_B D ca ad) A) 0 0 A := by
  refine Met.ofW (cc := cX3_kindOfItem) (maxL := 3) (ret := (some (.object "RecordLabels$Kind"))) (by decide) rfl ?_
  intro p e s m args below meth c s₁ B hml hv
  obtain ⟨rfl, hP, hC⟩ := hv
  have hx := B.exec
  have hb := B.bytes
  have hr := B.returns
  have hts := atoms_spec (ws := wsX3_kindOfItem) B.pre
  have hown : s.vm.findClass RX3 = some m.cls := findClass_of_methodNamed B.named
  have hlocks := B.notSynchronized
  have hS : va_S A s.heap s.heap [] := va_S.rf
  have hl := lv_entry ([.ref (ad 0 0), .ref (ad 6 1), .int x2]) (n := 3) (Nat.le_of_ble_eq_true rfl)
  rw [lg_entry_eq]
  generalize (lg_sl ([.ref (ad 0 0), .ref (ad 6 1), .int x2]) ++ List.replicate (3 - (lg_sl ([.ref (ad 0 0), .ref (ad 6 1), .int x2])).length) Slot.unset).toArray = ls at hl ⊢
  have hl : lv_has ls 3 [(0, .ref (ad 0 0)), (1, .ref (ad 6 1)), (2, .int x2)] := hl
  refine lv_iload_n hx hb dX3_kindOfItem_0 rfl (lv_at hl 2 rfl) ?_
  refine lv_if_ne (tgt := 9) hx hb dX3_kindOfItem_1 (by decide) (fun c_1 => ?_) (fun c_1 => ?_)
  · refine lv_aload_n hx hb dX3_kindOfItem_9 rfl (lv_at hl 1 rfl) ?_
    refine lv_aload_n hx hb dX3_kindOfItem_10 rfl (lv_at hl 0 rfl) ?_
    refine og_get (C := RX3) (T := TX3) (N := 14) (g := 0) (i := 0) (v := .ref (ad 6 0)) hx hb hts li_X3_kindOfItem_1_X3 hown hC hP (ow_q0_0) rfl rfl 4 (by decide) (hts _ lk_X3_kindOfItem_1_3) rfl rfl dX3_kindOfItem_11 ?_
    refine lv_acmp_ne (rx := some (ad 6 1)) (ry := some (ad 6 0)) (tgt := 29) hx hb dX3_kindOfItem_14 (by decide) (fun _ => ?_) (fun c => absurd c (fun h => absurd (ow_inj hC.2.1 (ow_q6_1) (ow_q6_0) (Option.some.inj h)).2 (by decide)))
    refine lv_null hx hb dX3_kindOfItem_29 ?_
    exact W.aret (v := va_rf none) hx hb hr (Or.inl ⟨_, rfl⟩) (Or.inl rfl) (fun t ht hW => ⟨⟨none, st, rfl, ⟨(by simp only [fX3_kindOfItem_1, if_neg c_1]), rfl⟩, ow_Bi ht hP⟩, hS.F ht⟩) hS.2.2 dX3_kindOfItem_30
  · refine lv_aload_n hx hb dX3_kindOfItem_4 rfl (lv_at hl 1 rfl) ?_
    refine og_getN (C := RX2) (T := TX2) (N := 5) (g := 6) (i := 1) (v := .ref (ad 1 1)) hx hb hts li_X3_kindOfItem_1_X2 hown hC hP (ow_q6_1) rfl rfl 0 (by decide) ln_X3_kindOfItem_1_0 rfl rfl dX3_kindOfItem_5 ?_
    exact W.aret (v := va_rf (some (ad 1 1))) hx hb hr (Or.inl ⟨_, rfl⟩) (Or.inr ⟨_, rfl⟩) (fun t ht hW => ⟨⟨(some (ad 1 1)), st, rfl, ⟨(by simp only [fX3_kindOfItem_1, if_pos c_1]), rfl⟩, ow_Bi ht hP⟩, hS.F ht⟩) hS.2.2 dX3_kindOfItem_8

theorem ln_X3_toCell_1_0 : (.methodLinkNest RX3 108 yX0_constantOf "RecordLabels" : Cond) ∈ ow_nest := by decide +kernel
theorem lk_X3_toCell_1_1 : (.initialized RX0 : Cond) ∈ wsX3_toCell := by decide +kernel
theorem lk_X3_toCell_1_2 : (.instanceMethod yX0_constantOf : Cond) ∈ wsX3_toCell := by decide +kernel
theorem lk_X3_toCell_1_3 : (.selects RX0 yX0_constantOf yX0_constantOf : Cond) ∈ wsX3_toCell := by decide +kernel
def fX3_toCell_1 (st : ow_St) (x2 x3 : Int32) : Int32 := (if x2 = 0 then (fX0_constantOf st 1 x3) else x3)
set_option maxHeartbeats 4000000 in
set_option maxRecDepth 100000 in
theorem kX3_toCell_1 (l : Launch) (D : va_G) (ca : Nat → ClassId) (ad : ow_Ad) (A : Nat → Prop) (st : ow_St) (x2 : Int32) (x3 : Int32) : Met l yX3_toCell wsX3_toCell ({ frames := 2, cells := 0, slots := 0, locals := 42 }) (va_Pc [.ref (ad 0 0), .ref (ad 6 1), .int x2, .int x3] (ow_W D ca ad A st)) (va_Qi (fun r st' => r = (fX3_toCell_1 st x2 x3) ∧ st' = st) (ow_B D ca ad) A) 0 0 A := by
  refine Met.ofW (cc := cX3_toCell) (maxL := 5) (ret := (some .int)) (by decide) rfl ?_
  intro p e s m args below meth c s₁ B hml hv
  obtain ⟨rfl, hP, hC⟩ := hv
  have hx := B.exec
  have hb := B.bytes
  have hr := B.returns
  have hts := atoms_spec (ws := wsX3_toCell) B.pre
  have hown : s.vm.findClass RX3 = some m.cls := findClass_of_methodNamed B.named
  have hlocks := B.notSynchronized
  have hS : va_S A s.heap s.heap [] := va_S.rf
  have hl := lv_entry ([.ref (ad 0 0), .ref (ad 6 1), .int x2, .int x3]) (n := 5) (Nat.le_of_ble_eq_true rfl)
  rw [lg_entry_eq]
  generalize (lg_sl ([.ref (ad 0 0), .ref (ad 6 1), .int x2, .int x3]) ++ List.replicate (5 - (lg_sl ([.ref (ad 0 0), .ref (ad 6 1), .int x2, .int x3])).length) Slot.unset).toArray = ls at hl ⊢
  have hl : lv_has ls 5 [(0, .ref (ad 0 0)), (1, .ref (ad 6 1)), (2, .int x2), (3, .int x3)] := hl
  refine lv_aload_n hx hb dX3_toCell_0 rfl (lv_at hl 0 rfl) ?_
  refine lv_aload_n hx hb dX3_toCell_1 rfl (lv_at hl 1 rfl) ?_
  refine lv_iload_n hx hb dX3_toCell_2 rfl (lv_at hl 2 rfl) ?_
  by_cases c_1 : x2 = 0
  · refine og_cqS (q := ad 1 1) (og_runV (C := RX3) (T := TX3) (N := 14) (g := 0) (i := 0) (As := [.ref (ad 6 1), .int x2]) (rest := []) ⟨hx, hb, hml, hown, hts⟩ (kX3_kindOfItem_1 l D ca ad A st x2) (cwV 2 hts gX3_toCell_X3_kindOfItem rfl rfl rfl (by decide +kernel) ⟨Nat.le_of_ble_eq_true rfl, Nat.le_of_ble_eq_true rfl⟩) hC hP hS (ow_q0_0) rfl rfl rfl hl.1 rfl (Nat.le_of_ble_eq_true rfl) dX3_toCell_3 ⟨Nat.zero_le _, Nat.zero_le _⟩) hS (by simp only [fX3_kindOfItem_1, if_pos c_1]) (fun H locs hP hS => ?_)
    refine lv_astore (lv' := [(4, .ref (ad 1 1)), (0, .ref (ad 0 0)), (1, .ref (ad 6 1)), (2, .int x2), (3, .int x3)]) hx hb dX3_toCell_6 hl (by decide) rfl (fun ls hl => ?_)
    refine lv_aload hx hb dX3_toCell_8 (lv_at hl 0 rfl) ?_
    refine lv_ifnonnull (tgt := 17) hx hb dX3_toCell_10 (by decide) ?_
    refine lv_aload hx hb dX3_toCell_17 (lv_at hl 0 rfl) ?_
    refine lv_iload_n hx hb dX3_toCell_19 rfl (lv_at hl 4 rfl) ?_
    refine og_ciP (og_runVN (C := RX0) (T := TX0) (N := 7) (g := 1) (i := 1) (As := [.int x3]) (rest := []) ⟨hx, hb, hml, hown, hts⟩ (kX0_constantOf l D ca ad A st 1 (by decide) x3) ⟨va_cnB 1 hts gX3_toCell_X0_constantOf_n108 rfl rfl rfl (hC.2.2.1 _ ln_X3_toCell_1_0) (hts _ lk_X3_toCell_1_1) (by decide +kernel) ⟨Nat.le_of_ble_eq_true rfl, Nat.le_of_ble_eq_true rfl⟩, (hts _ lk_X3_toCell_1_2), (hts _ lk_X3_toCell_1_3)⟩ hC hP hS (ow_q1_1) rfl rfl rfl hl.1 rfl (Nat.le_of_ble_eq_true rfl) dX3_toCell_20 ⟨Nat.zero_le _, Nat.zero_le _⟩) hS (fun H locs hP hS => ?_)
    exact W.iret (v := (fX0_constantOf st 1 x3)) hx hb hr (fun t ht hW => ⟨⟨(fX0_constantOf st 1 x3), st, rfl, ⟨(by simp only [fX3_toCell_1, if_pos c_1]), rfl⟩, ow_Bi ht hP⟩, hS.F ht⟩) hS.2.2 dX3_toCell_23
  · refine og_cqN (og_runV (C := RX3) (T := TX3) (N := 14) (g := 0) (i := 0) (As := [.ref (ad 6 1), .int x2]) (rest := []) ⟨hx, hb, hml, hown, hts⟩ (kX3_kindOfItem_1 l D ca ad A st x2) (cwV 2 hts gX3_toCell_X3_kindOfItem rfl rfl rfl (by decide +kernel) ⟨Nat.le_of_ble_eq_true rfl, Nat.le_of_ble_eq_true rfl⟩) hC hP hS (ow_q0_0) rfl rfl rfl hl.1 rfl (Nat.le_of_ble_eq_true rfl) dX3_toCell_3 ⟨Nat.zero_le _, Nat.zero_le _⟩) hS (by simp only [fX3_kindOfItem_1, if_neg c_1]) (fun H locs hP hS => ?_)
    refine lv_astoreN (lv' := [(4, .null), (0, .ref (ad 0 0)), (1, .ref (ad 6 1)), (2, .int x2), (3, .int x3)]) hx hb dX3_toCell_6 hl (by decide) rfl (fun ls hl => ?_)
    refine lv_aloadN hx hb dX3_toCell_8 (lv_at hl 0 rfl) ?_
    refine lv_ifnonnullN hx hb dX3_toCell_10 ?_
    refine lv_iload_n hx hb dX3_toCell_13 rfl (lv_at hl 4 rfl) ?_
    refine lv_goto (tgt := 23) hx hb dX3_toCell_14 (by decide) ?_
    exact W.iret (v := x3) hx hb hr (fun t ht hW => ⟨⟨x3, st, rfl, ⟨(by simp only [fX3_toCell_1, if_neg c_1]), rfl⟩, ow_Bi ht hP⟩, hS.F ht⟩) hS.2.2 dX3_toCell_23

theorem ln_X3_fromCell_1_0 : (.methodLinkNest RX3 90 yX0_codeOf "RecordLabels" : Cond) ∈ ow_nest := by decide +kernel
theorem lk_X3_fromCell_1_1 : (.initialized RX0 : Cond) ∈ wsX3_fromCell := by decide +kernel
theorem lk_X3_fromCell_1_2 : (.instanceMethod yX0_codeOf : Cond) ∈ wsX3_fromCell := by decide +kernel
theorem lk_X3_fromCell_1_3 : (.selects RX0 yX0_codeOf yX0_codeOf : Cond) ∈ wsX3_fromCell := by decide +kernel
def fX3_fromCell_1 (st : ow_St) (x2 x3 : Int32) : Int32 := (if x2 = 0 then (fX0_codeOf st 1 x3) else x3)
set_option maxHeartbeats 4000000 in
set_option maxRecDepth 100000 in
theorem kX3_fromCell_1 (l : Launch) (D : va_G) (ca : Nat → ClassId) (ad : ow_Ad) (A : Nat → Prop) (st : ow_St) (x2 : Int32) (x3 : Int32) : Met l yX3_fromCell wsX3_fromCell ({ frames := 2, cells := 0, slots := 0, locals := 42 }) (va_Pc [.ref (ad 0 0), .ref (ad 6 1), .int x2, .int x3] (ow_W D ca ad A st)) (va_Qi (fun r st' => r = (fX3_fromCell_1 st x2 x3) ∧ st' = st) (ow_B D ca ad) A) 0 0 A := by
  refine Met.ofW (cc := cX3_fromCell) (maxL := 5) (ret := (some .int)) (by decide) rfl ?_
  intro p e s m args below meth c s₁ B hml hv
  obtain ⟨rfl, hP, hC⟩ := hv
  have hx := B.exec
  have hb := B.bytes
  have hr := B.returns
  have hts := atoms_spec (ws := wsX3_fromCell) B.pre
  have hown : s.vm.findClass RX3 = some m.cls := findClass_of_methodNamed B.named
  have hlocks := B.notSynchronized
  have hS : va_S A s.heap s.heap [] := va_S.rf
  have hl := lv_entry ([.ref (ad 0 0), .ref (ad 6 1), .int x2, .int x3]) (n := 5) (Nat.le_of_ble_eq_true rfl)
  rw [lg_entry_eq]
  generalize (lg_sl ([.ref (ad 0 0), .ref (ad 6 1), .int x2, .int x3]) ++ List.replicate (5 - (lg_sl ([.ref (ad 0 0), .ref (ad 6 1), .int x2, .int x3])).length) Slot.unset).toArray = ls at hl ⊢
  have hl : lv_has ls 5 [(0, .ref (ad 0 0)), (1, .ref (ad 6 1)), (2, .int x2), (3, .int x3)] := hl
  refine lv_aload_n hx hb dX3_fromCell_0 rfl (lv_at hl 0 rfl) ?_
  refine lv_aload_n hx hb dX3_fromCell_1 rfl (lv_at hl 1 rfl) ?_
  refine lv_iload_n hx hb dX3_fromCell_2 rfl (lv_at hl 2 rfl) ?_
  by_cases c_1 : x2 = 0
  · refine og_cqS (q := ad 1 1) (og_runV (C := RX3) (T := TX3) (N := 14) (g := 0) (i := 0) (As := [.ref (ad 6 1), .int x2]) (rest := []) ⟨hx, hb, hml, hown, hts⟩ (kX3_kindOfItem_1 l D ca ad A st x2) (cwV 2 hts gX3_fromCell_X3_kindOfItem rfl rfl rfl (by decide +kernel) ⟨Nat.le_of_ble_eq_true rfl, Nat.le_of_ble_eq_true rfl⟩) hC hP hS (ow_q0_0) rfl rfl rfl hl.1 rfl (Nat.le_of_ble_eq_true rfl) dX3_fromCell_3 ⟨Nat.zero_le _, Nat.zero_le _⟩) hS (by simp only [fX3_kindOfItem_1, if_pos c_1]) (fun H locs hP hS => ?_)
    refine lv_astore (lv' := [(4, .ref (ad 1 1)), (0, .ref (ad 0 0)), (1, .ref (ad 6 1)), (2, .int x2), (3, .int x3)]) hx hb dX3_fromCell_6 hl (by decide) rfl (fun ls hl => ?_)
    refine lv_aload hx hb dX3_fromCell_8 (lv_at hl 0 rfl) ?_
    refine lv_ifnonnull (tgt := 17) hx hb dX3_fromCell_10 (by decide) ?_
    refine lv_aload hx hb dX3_fromCell_17 (lv_at hl 0 rfl) ?_
    refine lv_iload_n hx hb dX3_fromCell_19 rfl (lv_at hl 4 rfl) ?_
    refine og_ciP (og_runVN (C := RX0) (T := TX0) (N := 7) (g := 1) (i := 1) (As := [.int x3]) (rest := []) ⟨hx, hb, hml, hown, hts⟩ (kX0_codeOf l D ca ad A st 1 (by decide) x3) ⟨va_cnB 1 hts gX3_fromCell_X0_codeOf_n90 rfl rfl rfl (hC.2.2.1 _ ln_X3_fromCell_1_0) (hts _ lk_X3_fromCell_1_1) (by decide +kernel) ⟨Nat.le_of_ble_eq_true rfl, Nat.le_of_ble_eq_true rfl⟩, (hts _ lk_X3_fromCell_1_2), (hts _ lk_X3_fromCell_1_3)⟩ hC hP hS (ow_q1_1) rfl rfl rfl hl.1 rfl (Nat.le_of_ble_eq_true rfl) dX3_fromCell_20 ⟨Nat.zero_le _, Nat.zero_le _⟩) hS (fun H locs hP hS => ?_)
    exact W.iret (v := (fX0_codeOf st 1 x3)) hx hb hr (fun t ht hW => ⟨⟨(fX0_codeOf st 1 x3), st, rfl, ⟨(by simp only [fX3_fromCell_1, if_pos c_1]), rfl⟩, ow_Bi ht hP⟩, hS.F ht⟩) hS.2.2 dX3_fromCell_23
  · refine og_cqN (og_runV (C := RX3) (T := TX3) (N := 14) (g := 0) (i := 0) (As := [.ref (ad 6 1), .int x2]) (rest := []) ⟨hx, hb, hml, hown, hts⟩ (kX3_kindOfItem_1 l D ca ad A st x2) (cwV 2 hts gX3_fromCell_X3_kindOfItem rfl rfl rfl (by decide +kernel) ⟨Nat.le_of_ble_eq_true rfl, Nat.le_of_ble_eq_true rfl⟩) hC hP hS (ow_q0_0) rfl rfl rfl hl.1 rfl (Nat.le_of_ble_eq_true rfl) dX3_fromCell_3 ⟨Nat.zero_le _, Nat.zero_le _⟩) hS (by simp only [fX3_kindOfItem_1, if_neg c_1]) (fun H locs hP hS => ?_)
    refine lv_astoreN (lv' := [(4, .null), (0, .ref (ad 0 0)), (1, .ref (ad 6 1)), (2, .int x2), (3, .int x3)]) hx hb dX3_fromCell_6 hl (by decide) rfl (fun ls hl => ?_)
    refine lv_aloadN hx hb dX3_fromCell_8 (lv_at hl 0 rfl) ?_
    refine lv_ifnonnullN hx hb dX3_fromCell_10 ?_
    refine lv_iload_n hx hb dX3_fromCell_13 rfl (lv_at hl 4 rfl) ?_
    refine lv_goto (tgt := 23) hx hb dX3_fromCell_14 (by decide) ?_
    exact W.iret (v := x3) hx hb hr (fun t ht hW => ⟨⟨x3, st, rfl, ⟨(by simp only [fX3_fromCell_1, if_neg c_1]), rfl⟩, ow_Bi ht hP⟩, hS.F ht⟩) hS.2.2 dX3_fromCell_23

theorem ln_X3_highestOf_1_0 : (.fieldLinkNest RX3 155 "RecordLabels$Kind" "size" "I" "RecordLabels" : Cond) ∈ ow_nest := by decide +kernel
theorem li_X3_highestOf_1_X0 : ∀ w ∈ u_ws RX0 TX0 7, w ∈ wsX3_highestOf := by decide +kernel
theorem ln_X3_highestOf_1_2 : (.fieldLinkNest RX3 204 "RecordLabels$Table" "measure" "I" "RecordLabels" : Cond) ∈ ow_nest := by decide +kernel
theorem li_X3_highestOf_1_X2 : ∀ w ∈ u_ws RX2 TX2 5, w ∈ wsX3_highestOf := by decide +kernel
theorem li_X3_highestOf_1_X3 : ∀ w ∈ u_ws RX3 TX3 14, w ∈ wsX3_highestOf := by decide +kernel
theorem lk_X3_highestOf_1_5 : (.fieldLink RX3 45 "RecordLabels" "nodeTable" "LRecordLabels$Table;" : Cond) ∈ wsX3_highestOf := by decide +kernel
theorem lk_X3_highestOf_1_6 : (.constant RX3 238 (1000000) : Cond) ∈ wsX3_highestOf := by decide +kernel
theorem ln_X3_highestOf_1_7 : (.fieldLinkNest RX3 164 "RecordLabels$Table" "size" "I" "RecordLabels" : Cond) ∈ ow_nest := by decide +kernel
def fX3_highestOf_1 (st : ow_St) (x2 : Int32) : Int32 := (if x2 = 0 then 6 else (if x2 = 3 then 1000000 else ((st.1 4 0) - 1)))
set_option maxHeartbeats 4000000 in
set_option maxRecDepth 100000 in
theorem kX3_highestOf_1 (l : Launch) (D : va_G) (ca : Nat → ClassId) (ad : ow_Ad) (A : Nat → Prop) (st : ow_St) (x2 : Int32) : Met l yX3_highestOf wsX3_highestOf ({ frames := 1, cells := 0, slots := 0, locals := 22 }) (va_Pc [.ref (ad 0 0), .ref (ad 6 1), .int x2] (ow_W D ca ad A st)) (va_Qi (fun r st' => r = (fX3_highestOf_1 st x2) ∧ st' = st) (ow_B D ca ad) A) 0 0 A := by
  refine Met.ofW (cc := cX3_highestOf) (maxL := 4) (ret := (some .int)) (by decide) rfl ?_
  intro p e s m args below meth c s₁ B hml hv
  obtain ⟨rfl, hP, hC⟩ := hv
  have hx := B.exec
  have hb := B.bytes
  have hr := B.returns
  have hts := atoms_spec (ws := wsX3_highestOf) B.pre
  have hown : s.vm.findClass RX3 = some m.cls := findClass_of_methodNamed B.named
  have hlocks := B.notSynchronized
  have hS : va_S A s.heap s.heap [] := va_S.rf
  have hl := lv_entry ([.ref (ad 0 0), .ref (ad 6 1), .int x2]) (n := 4) (Nat.le_of_ble_eq_true rfl)
  rw [lg_entry_eq]
  generalize (lg_sl ([.ref (ad 0 0), .ref (ad 6 1), .int x2]) ++ List.replicate (4 - (lg_sl ([.ref (ad 0 0), .ref (ad 6 1), .int x2])).length) Slot.unset).toArray = ls at hl ⊢
  have hl : lv_has ls 4 [(0, .ref (ad 0 0)), (1, .ref (ad 6 1)), (2, .int x2)] := hl
  refine lv_aload_n hx hb dX3_highestOf_0 rfl (lv_at hl 0 rfl) ?_
  refine lv_aload_n hx hb dX3_highestOf_1 rfl (lv_at hl 1 rfl) ?_
  refine lv_iload_n hx hb dX3_highestOf_2 rfl (lv_at hl 2 rfl) ?_
  by_cases c_1 : x2 = 0
  · refine og_cqS (q := ad 1 1) (og_runV (C := RX3) (T := TX3) (N := 14) (g := 0) (i := 0) (As := [.ref (ad 6 1), .int x2]) (rest := []) ⟨hx, hb, hml, hown, hts⟩ (kX3_kindOfItem_1 l D ca ad A st x2) (cwV 2 hts gX3_highestOf_X3_kindOfItem rfl rfl rfl (by decide +kernel) ⟨Nat.le_of_ble_eq_true rfl, Nat.le_of_ble_eq_true rfl⟩) hC hP hS (ow_q0_0) rfl rfl rfl hl.1 rfl (Nat.le_of_ble_eq_true rfl) dX3_highestOf_3 ⟨Nat.zero_le _, Nat.zero_le _⟩) hS (by simp only [fX3_kindOfItem_1, if_pos c_1]) (fun H locs hP hS => ?_)
    refine lv_astore_n (lv' := [(3, .ref (ad 1 1)), (0, .ref (ad 0 0)), (1, .ref (ad 6 1)), (2, .int x2)]) hx hb dX3_highestOf_6 rfl hl (by decide) rfl (fun ls hl => ?_)
    refine lv_aload_n hx hb dX3_highestOf_7 rfl (lv_at hl 0 rfl) ?_
    refine lv_ifnull hx hb dX3_highestOf_8 ?_
    refine lv_aload_n hx hb dX3_highestOf_11 rfl (lv_at hl 0 rfl) ?_
    refine og_getN (C := RX0) (T := TX0) (N := 7) (g := 1) (i := 1) (v := .int 7) hx hb hts li_X3_highestOf_1_X0 hown hC hP (ow_q1_1) rfl rfl 2 (by decide) ln_X3_highestOf_1_0 rfl rfl dX3_highestOf_12 ?_
    refine lv_iconst (v := 1) hx hb dX3_highestOf_15 (by decide) ?_
    refine lv_isub hx hb dX3_highestOf_16 ?_
    rw [show (7 : Int32) - 1 = (6 : Int32) from rfl]
    exact W.iret (v := 6) hx hb hr (fun t ht hW => ⟨⟨6, st, rfl, ⟨(by simp only [fX3_highestOf_1, if_pos c_1]), rfl⟩, ow_Bi ht hP⟩, hS.F ht⟩) hS.2.2 dX3_highestOf_17
  · refine og_cqN (og_runV (C := RX3) (T := TX3) (N := 14) (g := 0) (i := 0) (As := [.ref (ad 6 1), .int x2]) (rest := []) ⟨hx, hb, hml, hown, hts⟩ (kX3_kindOfItem_1 l D ca ad A st x2) (cwV 2 hts gX3_highestOf_X3_kindOfItem rfl rfl rfl (by decide +kernel) ⟨Nat.le_of_ble_eq_true rfl, Nat.le_of_ble_eq_true rfl⟩) hC hP hS (ow_q0_0) rfl rfl rfl hl.1 rfl (Nat.le_of_ble_eq_true rfl) dX3_highestOf_3 ⟨Nat.zero_le _, Nat.zero_le _⟩) hS (by simp only [fX3_kindOfItem_1, if_neg c_1]) (fun H locs hP hS => ?_)
    refine lv_astore_nN (lv' := [(3, .null), (0, .ref (ad 0 0)), (1, .ref (ad 6 1)), (2, .int x2)]) hx hb dX3_highestOf_6 rfl hl (by decide) rfl (fun ls hl => ?_)
    refine lv_aload_nN hx hb dX3_highestOf_7 rfl (lv_at hl 0 rfl) ?_
    refine lv_ifnullN (tgt := 18) hx hb dX3_highestOf_8 (by decide) ?_
    refine lv_iload_n hx hb dX3_highestOf_18 rfl (lv_at hl 3 rfl) ?_
    refine lv_aload_n hx hb dX3_highestOf_19 rfl (lv_at hl 2 rfl) ?_
    refine og_getN (C := RX2) (T := TX2) (N := 5) (g := 6) (i := 1) (v := .int 3) hx hb hts li_X3_highestOf_1_X2 hown hC hP (ow_q6_1) rfl rfl 2 (by decide) ln_X3_highestOf_1_2 rfl rfl dX3_highestOf_20 ?_
    refine lv_icmp_ne (tgt := 43) hx hb dX3_highestOf_23 (by decide) (fun c_2 => ?_) (fun c_2 => ?_)
    · refine lv_aload_n hx hb dX3_highestOf_43 rfl (lv_at hl 1 rfl) ?_
      refine og_get (C := RX3) (T := TX3) (N := 14) (g := 0) (i := 0) (v := .ref (ad 6 0)) hx hb hts li_X3_highestOf_1_X3 hown hC hP (ow_q0_0) rfl rfl 4 (by decide) (hts _ lk_X3_highestOf_1_5) rfl rfl dX3_highestOf_44 ?_
      refine og_getN (C := RX2) (T := TX2) (N := 5) (g := 6) (i := 0) (v := .int (st.1 4 0)) hx hb hts li_X3_highestOf_1_X2 hown hC hP (ow_q6_0) rfl rfl 4 (by decide) ln_X3_highestOf_1_7 rfl rfl dX3_highestOf_47 ?_
      refine lv_iconst (v := 1) hx hb dX3_highestOf_50 (by decide) ?_
      refine lv_isub hx hb dX3_highestOf_51 ?_
      exact W.iret (v := ((st.1 4 0) - 1)) hx hb hr (fun t ht hW => ⟨⟨((st.1 4 0) - 1), st, rfl, ⟨(by simp only [fX3_highestOf_1, if_neg c_1, if_neg c_2]), rfl⟩, ow_Bi ht hP⟩, hS.F ht⟩) hS.2.2 dX3_highestOf_52
    · refine lv_aload_n hx hb dX3_highestOf_26 rfl (lv_at hl 2 rfl) ?_
      refine lv_aload_n hx hb dX3_highestOf_27 rfl (lv_at hl 1 rfl) ?_
      refine og_get (C := RX3) (T := TX3) (N := 14) (g := 0) (i := 0) (v := .ref (ad 6 0)) hx hb hts li_X3_highestOf_1_X3 hown hC hP (ow_q0_0) rfl rfl 4 (by decide) (hts _ lk_X3_highestOf_1_5) rfl rfl dX3_highestOf_28 ?_
      refine lv_acmp_ne (rx := some (ad 6 1)) (ry := some (ad 6 0)) (tgt := 40) hx hb dX3_highestOf_31 (by decide) (fun _ => ?_) (fun c => absurd c (fun h => absurd (ow_inj hC.2.1 (ow_q6_1) (ow_q6_0) (Option.some.inj h)).2 (by decide)))
      refine lv_ldc (v := 1000000) hx hb hown (hts _ lk_X3_highestOf_1_6) dX3_highestOf_40 ?_
      exact W.iret (v := 1000000) hx hb hr (fun t ht hW => ⟨⟨1000000, st, rfl, ⟨(by simp only [fX3_highestOf_1, if_neg c_1, if_pos c_2]), rfl⟩, ow_Bi ht hP⟩, hS.F ht⟩) hS.2.2 dX3_highestOf_42

theorem ln_X3_wrongItem_1_0 : (.fieldLinkNest RX3 173 "RecordLabels$Table" "items" "I" "RecordLabels" : Cond) ∈ ow_nest := by decide +kernel
theorem li_X3_wrongItem_1_X2 : ∀ w ∈ u_ws RX2 TX2 5, w ∈ wsX3_wrongItem := by decide +kernel
theorem li_X3_wrongItem_1_X3 : ∀ w ∈ u_ws RX3 TX3 14, w ∈ wsX3_wrongItem := by decide +kernel
theorem lk_X3_wrongItem_1_3 : (.fieldLink RX3 63 "RecordLabels" "draft" "[I" : Cond) ∈ wsX3_wrongItem := by decide +kernel
theorem lk_X3_wrongItem_1_4 : (.fieldLink RX3 49 "RecordLabels" "arcTable" "LRecordLabels$Table;" : Cond) ∈ wsX3_wrongItem := by decide +kernel
def fX3_wrongItem_1 (st : ow_St) : Int32 := (if (fX3_isFromTo st (st.1 103 0) 0 (fX3_highestOf_1 st 0)) = 0 then 0 else (if (fX3_isFromTo st (st.1 103 1) 0 (fX3_highestOf_1 st 1)) = 0 then 1 else (if (fX3_isFromTo st (st.1 103 2) 0 (fX3_highestOf_1 st 2)) = 0 then 2 else (if (fX3_isFromTo st (st.1 103 3) 0 (fX3_highestOf_1 st 3)) = 0 then 3 else (if (st.1 103 1) = (st.1 103 2) then 2 else (-1))))))
set_option maxHeartbeats 4000000 in
set_option maxRecDepth 100000 in
theorem kX3_wrongItem_1 (l : Launch) (D : va_G) (ca : Nat → ClassId) (ad : ow_Ad) (A : Nat → Prop) (st : ow_St)  : Met l yX3_wrongItem wsX3_wrongItem ({ frames := 2, cells := 0, slots := 0, locals := 45 }) (va_Pc [.ref (ad 0 0), .ref (ad 6 1)] (ow_W D ca ad A st)) (va_Qi (fun r st' => r = (fX3_wrongItem_1 st) ∧ st' = st) (ow_B D ca ad) A) 0 0 A := by
  refine Met.ofW (cc := cX3_wrongItem) (maxL := 3) (ret := (some .int)) (by decide) rfl ?_
  intro p e s m args below meth c s₁ B hml hv
  obtain ⟨rfl, hP, hC⟩ := hv
  have hx := B.exec
  have hb := B.bytes
  have hr := B.returns
  have hts := atoms_spec (ws := wsX3_wrongItem) B.pre
  have hown : s.vm.findClass RX3 = some m.cls := findClass_of_methodNamed B.named
  have hlocks := B.notSynchronized
  have hS : va_S A s.heap s.heap [] := va_S.rf
  have hl := lv_entry ([.ref (ad 0 0), .ref (ad 6 1)]) (n := 3) (Nat.le_of_ble_eq_true rfl)
  rw [lg_entry_eq]
  generalize (lg_sl ([.ref (ad 0 0), .ref (ad 6 1)]) ++ List.replicate (3 - (lg_sl ([.ref (ad 0 0), .ref (ad 6 1)])).length) Slot.unset).toArray = ls at hl ⊢
  have hl : lv_has ls 3 [(0, .ref (ad 0 0)), (1, .ref (ad 6 1))] := hl
  refine lv_iconst (v := 0) hx hb dX3_wrongItem_0 (by decide) ?_
  refine lv_istore_n (lv' := [(2, .int 0), (0, .ref (ad 0 0)), (1, .ref (ad 6 1))]) hx hb dX3_wrongItem_1 rfl hl (by decide) rfl (fun ls hl => ?_)
  refine lv_iload_n hx hb dX3_wrongItem_2 rfl (lv_at hl 0 rfl) ?_
  refine lv_aload_n hx hb dX3_wrongItem_3 rfl (lv_at hl 2 rfl) ?_
  refine og_getN (C := RX2) (T := TX2) (N := 5) (g := 6) (i := 1) (v := .int 4) hx hb hts li_X3_wrongItem_1_X2 hown hC hP (ow_q6_1) rfl rfl 1 (by decide) ln_X3_wrongItem_1_0 rfl rfl dX3_wrongItem_4 ?_
  refine lv_icmp_ge (tgt := 37) hx hb dX3_wrongItem_7 (by decide) (fun c => absurd c (by decide)) (fun _ => ?_)
  refine lv_aload_n hx hb dX3_wrongItem_10 rfl (lv_at hl 1 rfl) ?_
  refine og_get (C := RX3) (T := TX3) (N := 14) (g := 0) (i := 0) (v := .ref (ad 9 0)) hx hb hts li_X3_wrongItem_1_X3 hown hC hP (ow_q0_0) rfl rfl 9 (by decide) (hts _ lk_X3_wrongItem_1_3) rfl rfl dX3_wrongItem_11 ?_
  refine lv_iload_n hx hb dX3_wrongItem_14 rfl (lv_at hl 0 rfl) ?_
  refine og_iald (g := 9) (i := 0) (j := 0) (v := (st.1 103 0)) hx hb hC hP (ow_q9_0) rfl (by unfold vp_in; decide) rfl rfl dX3_wrongItem_15 ?_
  refine lv_iconst (v := 0) hx hb dX3_wrongItem_16 (by decide) ?_
  refine lv_aload_n hx hb dX3_wrongItem_17 rfl (lv_at hl 1 rfl) ?_
  refine lv_aload_n hx hb dX3_wrongItem_18 rfl (lv_at hl 2 rfl) ?_
  refine lv_iload_n hx hb dX3_wrongItem_19 rfl (lv_at hl 0 rfl) ?_
  refine og_ciP (og_runV (C := RX3) (T := TX3) (N := 14) (g := 0) (i := 0) (As := [.ref (ad 6 1), .int 0]) (rest := [.int 0, .int (st.1 103 0)]) ⟨hx, hb, hml, hown, hts⟩ (kX3_highestOf_1 l D ca ad A st 0) (cwV 2 hts gX3_wrongItem_X3_highestOf rfl rfl rfl (by decide +kernel) ⟨Nat.le_of_ble_eq_true rfl, Nat.le_of_ble_eq_true rfl⟩) hC hP hS (ow_q0_0) rfl rfl rfl hl.1 rfl (Nat.le_of_ble_eq_true rfl) dX3_wrongItem_20 ⟨Nat.zero_le _, Nat.zero_le _⟩) hS (fun H locs hP hS => ?_)
  refine og_ciP (og_runS (As := [.int (st.1 103 0), .int 0, .int (fX3_highestOf_1 st 0)]) (rest := []) ⟨hx, hb, hml, hown, hts⟩ (kX3_isFromTo l D ca ad A st (st.1 103 0) 0 (fX3_highestOf_1 st 0)) (va_cwS 3 hts gX3_wrongItem_X3_isFromTo rfl rfl rfl (by decide +kernel) ⟨Nat.le_of_ble_eq_true rfl, Nat.le_of_ble_eq_true rfl⟩) hC hP hS rfl hl.1 rfl (Nat.le_of_ble_eq_true rfl) dX3_wrongItem_23 ⟨Nat.zero_le _, Nat.zero_le _⟩) hS (fun H locs hP hS => ?_)
  refine lv_if_ne (tgt := 31) hx hb dX3_wrongItem_26 (by decide) (fun c_1 => ?_) (fun c_1 => ?_)
  · refine lv_iinc (v := 1) (lv' := [(2, .int 1), (0, .ref (ad 0 0)), (1, .ref (ad 6 1))]) hx hb dX3_wrongItem_31 hl (k := 0) rfl (by decide) (by decide) rfl (fun ls hl => ?_)
    refine lv_goto (tgt := 2) hx hb dX3_wrongItem_34 (by decide) ?_
    refine lv_iload_n hx hb dX3_wrongItem_2 rfl (lv_at hl 0 rfl) ?_
    refine lv_aload_n hx hb dX3_wrongItem_3 rfl (lv_at hl 2 rfl) ?_
    refine og_getN (C := RX2) (T := TX2) (N := 5) (g := 6) (i := 1) (v := .int 4) hx hb hts li_X3_wrongItem_1_X2 hown hC hP (ow_q6_1) rfl rfl 1 (by decide) ln_X3_wrongItem_1_0 rfl rfl dX3_wrongItem_4 ?_
    refine lv_icmp_ge (tgt := 37) hx hb dX3_wrongItem_7 (by decide) (fun c => absurd c (by decide)) (fun _ => ?_)
    refine lv_aload_n hx hb dX3_wrongItem_10 rfl (lv_at hl 1 rfl) ?_
    refine og_get (C := RX3) (T := TX3) (N := 14) (g := 0) (i := 0) (v := .ref (ad 9 0)) hx hb hts li_X3_wrongItem_1_X3 hown hC hP (ow_q0_0) rfl rfl 9 (by decide) (hts _ lk_X3_wrongItem_1_3) rfl rfl dX3_wrongItem_11 ?_
    refine lv_iload_n hx hb dX3_wrongItem_14 rfl (lv_at hl 0 rfl) ?_
    refine og_iald (g := 9) (i := 0) (j := 1) (v := (st.1 103 1)) hx hb hC hP (ow_q9_0) rfl (by unfold vp_in; decide) rfl rfl dX3_wrongItem_15 ?_
    refine lv_iconst (v := 0) hx hb dX3_wrongItem_16 (by decide) ?_
    refine lv_aload_n hx hb dX3_wrongItem_17 rfl (lv_at hl 1 rfl) ?_
    refine lv_aload_n hx hb dX3_wrongItem_18 rfl (lv_at hl 2 rfl) ?_
    refine lv_iload_n hx hb dX3_wrongItem_19 rfl (lv_at hl 0 rfl) ?_
    refine og_ciP (og_runV (C := RX3) (T := TX3) (N := 14) (g := 0) (i := 0) (As := [.ref (ad 6 1), .int 1]) (rest := [.int 0, .int (st.1 103 1)]) ⟨hx, hb, hml, hown, hts⟩ (kX3_highestOf_1 l D ca ad A st 1) (cwV 2 hts gX3_wrongItem_X3_highestOf rfl rfl rfl (by decide +kernel) ⟨Nat.le_of_ble_eq_true rfl, Nat.le_of_ble_eq_true rfl⟩) hC hP hS (ow_q0_0) rfl rfl rfl hl.1 rfl (Nat.le_of_ble_eq_true rfl) dX3_wrongItem_20 ⟨Nat.zero_le _, Nat.zero_le _⟩) hS (fun H locs hP hS => ?_)
    refine og_ciP (og_runS (As := [.int (st.1 103 1), .int 0, .int (fX3_highestOf_1 st 1)]) (rest := []) ⟨hx, hb, hml, hown, hts⟩ (kX3_isFromTo l D ca ad A st (st.1 103 1) 0 (fX3_highestOf_1 st 1)) (va_cwS 3 hts gX3_wrongItem_X3_isFromTo rfl rfl rfl (by decide +kernel) ⟨Nat.le_of_ble_eq_true rfl, Nat.le_of_ble_eq_true rfl⟩) hC hP hS rfl hl.1 rfl (Nat.le_of_ble_eq_true rfl) dX3_wrongItem_23 ⟨Nat.zero_le _, Nat.zero_le _⟩) hS (fun H locs hP hS => ?_)
    refine lv_if_ne (tgt := 31) hx hb dX3_wrongItem_26 (by decide) (fun c_2 => ?_) (fun c_2 => ?_)
    · refine lv_iinc (v := 2) (lv' := [(2, .int 2), (0, .ref (ad 0 0)), (1, .ref (ad 6 1))]) hx hb dX3_wrongItem_31 hl (k := 0) rfl (by decide) (by decide) rfl (fun ls hl => ?_)
      refine lv_goto (tgt := 2) hx hb dX3_wrongItem_34 (by decide) ?_
      refine lv_iload_n hx hb dX3_wrongItem_2 rfl (lv_at hl 0 rfl) ?_
      refine lv_aload_n hx hb dX3_wrongItem_3 rfl (lv_at hl 2 rfl) ?_
      refine og_getN (C := RX2) (T := TX2) (N := 5) (g := 6) (i := 1) (v := .int 4) hx hb hts li_X3_wrongItem_1_X2 hown hC hP (ow_q6_1) rfl rfl 1 (by decide) ln_X3_wrongItem_1_0 rfl rfl dX3_wrongItem_4 ?_
      refine lv_icmp_ge (tgt := 37) hx hb dX3_wrongItem_7 (by decide) (fun c => absurd c (by decide)) (fun _ => ?_)
      refine lv_aload_n hx hb dX3_wrongItem_10 rfl (lv_at hl 1 rfl) ?_
      refine og_get (C := RX3) (T := TX3) (N := 14) (g := 0) (i := 0) (v := .ref (ad 9 0)) hx hb hts li_X3_wrongItem_1_X3 hown hC hP (ow_q0_0) rfl rfl 9 (by decide) (hts _ lk_X3_wrongItem_1_3) rfl rfl dX3_wrongItem_11 ?_
      refine lv_iload_n hx hb dX3_wrongItem_14 rfl (lv_at hl 0 rfl) ?_
      refine og_iald (g := 9) (i := 0) (j := 2) (v := (st.1 103 2)) hx hb hC hP (ow_q9_0) rfl (by unfold vp_in; decide) rfl rfl dX3_wrongItem_15 ?_
      refine lv_iconst (v := 0) hx hb dX3_wrongItem_16 (by decide) ?_
      refine lv_aload_n hx hb dX3_wrongItem_17 rfl (lv_at hl 1 rfl) ?_
      refine lv_aload_n hx hb dX3_wrongItem_18 rfl (lv_at hl 2 rfl) ?_
      refine lv_iload_n hx hb dX3_wrongItem_19 rfl (lv_at hl 0 rfl) ?_
      refine og_ciP (og_runV (C := RX3) (T := TX3) (N := 14) (g := 0) (i := 0) (As := [.ref (ad 6 1), .int 2]) (rest := [.int 0, .int (st.1 103 2)]) ⟨hx, hb, hml, hown, hts⟩ (kX3_highestOf_1 l D ca ad A st 2) (cwV 2 hts gX3_wrongItem_X3_highestOf rfl rfl rfl (by decide +kernel) ⟨Nat.le_of_ble_eq_true rfl, Nat.le_of_ble_eq_true rfl⟩) hC hP hS (ow_q0_0) rfl rfl rfl hl.1 rfl (Nat.le_of_ble_eq_true rfl) dX3_wrongItem_20 ⟨Nat.zero_le _, Nat.zero_le _⟩) hS (fun H locs hP hS => ?_)
      refine og_ciP (og_runS (As := [.int (st.1 103 2), .int 0, .int (fX3_highestOf_1 st 2)]) (rest := []) ⟨hx, hb, hml, hown, hts⟩ (kX3_isFromTo l D ca ad A st (st.1 103 2) 0 (fX3_highestOf_1 st 2)) (va_cwS 3 hts gX3_wrongItem_X3_isFromTo rfl rfl rfl (by decide +kernel) ⟨Nat.le_of_ble_eq_true rfl, Nat.le_of_ble_eq_true rfl⟩) hC hP hS rfl hl.1 rfl (Nat.le_of_ble_eq_true rfl) dX3_wrongItem_23 ⟨Nat.zero_le _, Nat.zero_le _⟩) hS (fun H locs hP hS => ?_)
      refine lv_if_ne (tgt := 31) hx hb dX3_wrongItem_26 (by decide) (fun c_3 => ?_) (fun c_3 => ?_)
      · refine lv_iinc (v := 3) (lv' := [(2, .int 3), (0, .ref (ad 0 0)), (1, .ref (ad 6 1))]) hx hb dX3_wrongItem_31 hl (k := 0) rfl (by decide) (by decide) rfl (fun ls hl => ?_)
        refine lv_goto (tgt := 2) hx hb dX3_wrongItem_34 (by decide) ?_
        refine lv_iload_n hx hb dX3_wrongItem_2 rfl (lv_at hl 0 rfl) ?_
        refine lv_aload_n hx hb dX3_wrongItem_3 rfl (lv_at hl 2 rfl) ?_
        refine og_getN (C := RX2) (T := TX2) (N := 5) (g := 6) (i := 1) (v := .int 4) hx hb hts li_X3_wrongItem_1_X2 hown hC hP (ow_q6_1) rfl rfl 1 (by decide) ln_X3_wrongItem_1_0 rfl rfl dX3_wrongItem_4 ?_
        refine lv_icmp_ge (tgt := 37) hx hb dX3_wrongItem_7 (by decide) (fun c => absurd c (by decide)) (fun _ => ?_)
        refine lv_aload_n hx hb dX3_wrongItem_10 rfl (lv_at hl 1 rfl) ?_
        refine og_get (C := RX3) (T := TX3) (N := 14) (g := 0) (i := 0) (v := .ref (ad 9 0)) hx hb hts li_X3_wrongItem_1_X3 hown hC hP (ow_q0_0) rfl rfl 9 (by decide) (hts _ lk_X3_wrongItem_1_3) rfl rfl dX3_wrongItem_11 ?_
        refine lv_iload_n hx hb dX3_wrongItem_14 rfl (lv_at hl 0 rfl) ?_
        refine og_iald (g := 9) (i := 0) (j := 3) (v := (st.1 103 3)) hx hb hC hP (ow_q9_0) rfl (by unfold vp_in; decide) rfl rfl dX3_wrongItem_15 ?_
        refine lv_iconst (v := 0) hx hb dX3_wrongItem_16 (by decide) ?_
        refine lv_aload_n hx hb dX3_wrongItem_17 rfl (lv_at hl 1 rfl) ?_
        refine lv_aload_n hx hb dX3_wrongItem_18 rfl (lv_at hl 2 rfl) ?_
        refine lv_iload_n hx hb dX3_wrongItem_19 rfl (lv_at hl 0 rfl) ?_
        refine og_ciP (og_runV (C := RX3) (T := TX3) (N := 14) (g := 0) (i := 0) (As := [.ref (ad 6 1), .int 3]) (rest := [.int 0, .int (st.1 103 3)]) ⟨hx, hb, hml, hown, hts⟩ (kX3_highestOf_1 l D ca ad A st 3) (cwV 2 hts gX3_wrongItem_X3_highestOf rfl rfl rfl (by decide +kernel) ⟨Nat.le_of_ble_eq_true rfl, Nat.le_of_ble_eq_true rfl⟩) hC hP hS (ow_q0_0) rfl rfl rfl hl.1 rfl (Nat.le_of_ble_eq_true rfl) dX3_wrongItem_20 ⟨Nat.zero_le _, Nat.zero_le _⟩) hS (fun H locs hP hS => ?_)
        refine og_ciP (og_runS (As := [.int (st.1 103 3), .int 0, .int (fX3_highestOf_1 st 3)]) (rest := []) ⟨hx, hb, hml, hown, hts⟩ (kX3_isFromTo l D ca ad A st (st.1 103 3) 0 (fX3_highestOf_1 st 3)) (va_cwS 3 hts gX3_wrongItem_X3_isFromTo rfl rfl rfl (by decide +kernel) ⟨Nat.le_of_ble_eq_true rfl, Nat.le_of_ble_eq_true rfl⟩) hC hP hS rfl hl.1 rfl (Nat.le_of_ble_eq_true rfl) dX3_wrongItem_23 ⟨Nat.zero_le _, Nat.zero_le _⟩) hS (fun H locs hP hS => ?_)
        refine lv_if_ne (tgt := 31) hx hb dX3_wrongItem_26 (by decide) (fun c_4 => ?_) (fun c_4 => ?_)
        · refine lv_iinc (v := 4) (lv' := [(2, .int 4), (0, .ref (ad 0 0)), (1, .ref (ad 6 1))]) hx hb dX3_wrongItem_31 hl (k := 0) rfl (by decide) (by decide) rfl (fun ls hl => ?_)
          refine lv_goto (tgt := 2) hx hb dX3_wrongItem_34 (by decide) ?_
          refine lv_iload_n hx hb dX3_wrongItem_2 rfl (lv_at hl 0 rfl) ?_
          refine lv_aload_n hx hb dX3_wrongItem_3 rfl (lv_at hl 2 rfl) ?_
          refine og_getN (C := RX2) (T := TX2) (N := 5) (g := 6) (i := 1) (v := .int 4) hx hb hts li_X3_wrongItem_1_X2 hown hC hP (ow_q6_1) rfl rfl 1 (by decide) ln_X3_wrongItem_1_0 rfl rfl dX3_wrongItem_4 ?_
          refine lv_icmp_ge (tgt := 37) hx hb dX3_wrongItem_7 (by decide) (fun _ => ?_) (fun c => absurd (by decide) c)
          refine lv_aload_n hx hb dX3_wrongItem_37 rfl (lv_at hl 2 rfl) ?_
          refine lv_aload_n hx hb dX3_wrongItem_38 rfl (lv_at hl 1 rfl) ?_
          refine og_get (C := RX3) (T := TX3) (N := 14) (g := 0) (i := 0) (v := .ref (ad 6 1)) hx hb hts li_X3_wrongItem_1_X3 hown hC hP (ow_q0_0) rfl rfl 5 (by decide) (hts _ lk_X3_wrongItem_1_4) rfl rfl dX3_wrongItem_39 ?_
          refine lv_acmp_ne (rx := some (ad 6 1)) (ry := some (ad 6 1)) (tgt := 64) hx hb dX3_wrongItem_42 (by decide) (fun c => absurd rfl c) (fun _ => ?_)
          refine lv_aload_n hx hb dX3_wrongItem_45 rfl (lv_at hl 1 rfl) ?_
          refine og_get (C := RX3) (T := TX3) (N := 14) (g := 0) (i := 0) (v := .ref (ad 9 0)) hx hb hts li_X3_wrongItem_1_X3 hown hC hP (ow_q0_0) rfl rfl 9 (by decide) (hts _ lk_X3_wrongItem_1_3) rfl rfl dX3_wrongItem_46 ?_
          refine lv_iconst (v := 1) hx hb dX3_wrongItem_49 (by decide) ?_
          refine og_iald (g := 9) (i := 0) (j := 1) (v := (st.1 103 1)) hx hb hC hP (ow_q9_0) rfl (by unfold vp_in; decide) rfl rfl dX3_wrongItem_50 ?_
          refine lv_aload_n hx hb dX3_wrongItem_51 rfl (lv_at hl 1 rfl) ?_
          refine og_get (C := RX3) (T := TX3) (N := 14) (g := 0) (i := 0) (v := .ref (ad 9 0)) hx hb hts li_X3_wrongItem_1_X3 hown hC hP (ow_q0_0) rfl rfl 9 (by decide) (hts _ lk_X3_wrongItem_1_3) rfl rfl dX3_wrongItem_52 ?_
          refine lv_iconst (v := 2) hx hb dX3_wrongItem_55 (by decide) ?_
          refine og_iald (g := 9) (i := 0) (j := 2) (v := (st.1 103 2)) hx hb hC hP (ow_q9_0) rfl (by unfold vp_in; decide) rfl rfl dX3_wrongItem_56 ?_
          refine lv_icmp_ne (tgt := 64) hx hb dX3_wrongItem_57 (by decide) (fun c_5 => ?_) (fun c_5 => ?_)
          · refine lv_iconst (v := (-1)) hx hb dX3_wrongItem_64 (by decide) ?_
            exact W.iret (v := (-1)) hx hb hr (fun t ht hW => ⟨⟨(-1), st, rfl, ⟨(by simp only [fX3_wrongItem_1, if_neg c_1, if_neg c_2, if_neg c_3, if_neg c_4, if_neg c_5]), rfl⟩, ow_Bi ht hP⟩, hS.F ht⟩) hS.2.2 dX3_wrongItem_65
          · refine lv_iconst (v := 2) hx hb dX3_wrongItem_60 (by decide) ?_
            refine lv_goto (tgt := 65) hx hb dX3_wrongItem_61 (by decide) ?_
            exact W.iret (v := 2) hx hb hr (fun t ht hW => ⟨⟨2, st, rfl, ⟨(by simp only [fX3_wrongItem_1, if_neg c_1, if_neg c_2, if_neg c_3, if_neg c_4, if_pos c_5]), rfl⟩, ow_Bi ht hP⟩, hS.F ht⟩) hS.2.2 dX3_wrongItem_65
        · refine lv_iload_n hx hb dX3_wrongItem_29 rfl (lv_at hl 0 rfl) ?_
          exact W.iret (v := 3) hx hb hr (fun t ht hW => ⟨⟨3, st, rfl, ⟨(by simp only [fX3_wrongItem_1, if_neg c_1, if_neg c_2, if_neg c_3, if_pos c_4]), rfl⟩, ow_Bi ht hP⟩, hS.F ht⟩) hS.2.2 dX3_wrongItem_30
      · refine lv_iload_n hx hb dX3_wrongItem_29 rfl (lv_at hl 0 rfl) ?_
        exact W.iret (v := 2) hx hb hr (fun t ht hW => ⟨⟨2, st, rfl, ⟨(by simp only [fX3_wrongItem_1, if_neg c_1, if_neg c_2, if_pos c_3]), rfl⟩, ow_Bi ht hP⟩, hS.F ht⟩) hS.2.2 dX3_wrongItem_30
    · refine lv_iload_n hx hb dX3_wrongItem_29 rfl (lv_at hl 0 rfl) ?_
      exact W.iret (v := 1) hx hb hr (fun t ht hW => ⟨⟨1, st, rfl, ⟨(by simp only [fX3_wrongItem_1, if_neg c_1, if_pos c_2]), rfl⟩, ow_Bi ht hP⟩, hS.F ht⟩) hS.2.2 dX3_wrongItem_30
  · refine lv_iload_n hx hb dX3_wrongItem_29 rfl (lv_at hl 0 rfl) ?_
    exact W.iret (v := 0) hx hb hr (fun t ht hW => ⟨⟨0, st, rfl, ⟨(by simp only [fX3_wrongItem_1, if_pos c_1]), rfl⟩, ow_Bi ht hP⟩, hS.F ht⟩) hS.2.2 dX3_wrongItem_30
end
section
set_option maxRecDepth 20000 in
theorem ggX3_draftOf_X2_hasRecord : GoodIn wsX3_draftOf wsX2_hasRecord := goodIn_r _ [5, 6, 7, 8, 9, 10, 11] (by decide +kernel) (by decide +kernel)
set_option maxRecDepth 20000 in
theorem gX3_draftOf_X2_hasRecord_n180 : GoodIn wsX3_draftOf (wsX2_hasRecord) := ggX3_draftOf_X2_hasRecord
theorem dX3_draftOf_0 : decode cX3_draftOf 0 = .ok (.aload_n 1, 1) := by decide +kernel
theorem dX3_draftOf_1 : decode cX3_draftOf 1 = .ok (.iload_n 2, 1) := by decide +kernel
theorem dX3_draftOf_2 : decode cX3_draftOf 2 = .ok (.invokevirtual 180, 3) := by decide +kernel
theorem dX3_draftOf_5 : decode cX3_draftOf 5 = .ok (.ifCond .ne 4, 3) := by decide +kernel
theorem dX3_draftOf_8 : decode cX3_draftOf 8 = .ok (.return_, 1) := by decide +kernel
theorem dX3_draftOf_9 : decode cX3_draftOf 9 = .ok (.iconst 0, 1) := by decide +kernel
theorem dX3_draftOf_10 : decode cX3_draftOf 10 = .ok (.istore_n 3, 1) := by decide +kernel
theorem dX3_draftOf_11 : decode cX3_draftOf 11 = .ok (.iload_n 3, 1) := by decide +kernel
theorem dX3_draftOf_12 : decode cX3_draftOf 12 = .ok (.aload_n 1, 1) := by decide +kernel
theorem dX3_draftOf_13 : decode cX3_draftOf 13 = .ok (.getfield 173, 3) := by decide +kernel
theorem dX3_draftOf_16 : decode cX3_draftOf 16 = .ok (.if_icmp .ge 23, 3) := by decide +kernel
theorem dX3_draftOf_19 : decode cX3_draftOf 19 = .ok (.aload_n 0, 1) := by decide +kernel
theorem dX3_draftOf_20 : decode cX3_draftOf 20 = .ok (.getfield 63, 3) := by decide +kernel
theorem dX3_draftOf_23 : decode cX3_draftOf 23 = .ok (.iload_n 3, 1) := by decide +kernel
theorem dX3_draftOf_24 : decode cX3_draftOf 24 = .ok (.aload_n 1, 1) := by decide +kernel
theorem dX3_draftOf_25 : decode cX3_draftOf 25 = .ok (.getfield 176, 3) := by decide +kernel
theorem dX3_draftOf_28 : decode cX3_draftOf 28 = .ok (.iload_n 3, 1) := by decide +kernel
theorem dX3_draftOf_29 : decode cX3_draftOf 29 = .ok (.aaload, 1) := by decide +kernel
theorem dX3_draftOf_30 : decode cX3_draftOf 30 = .ok (.iload_n 2, 1) := by decide +kernel
theorem dX3_draftOf_31 : decode cX3_draftOf 31 = .ok (.iaload, 1) := by decide +kernel
theorem dX3_draftOf_32 : decode cX3_draftOf 32 = .ok (.iastore, 1) := by decide +kernel
theorem dX3_draftOf_33 : decode cX3_draftOf 33 = .ok (.iinc 3 1, 3) := by decide +kernel
theorem dX3_draftOf_36 : decode cX3_draftOf 36 = .ok (.goto (-25), 3) := by decide +kernel
theorem dX3_draftOf_39 : decode cX3_draftOf 39 = .ok (.return_, 1) := by decide +kernel
set_option maxRecDepth 20000 in
theorem ggX3_putTogether_X3_wrongItem : GoodIn wsX3_putTogether wsX3_wrongItem := goodIn_r _ [9, 3, 10, 11, 12, 13, 8, 14, 15, 16, 17, 18, 19, 20, 21, 22, 23, 24, 39, 40, 41, 42, 43, 25, 26, 27, 28, 29, 30, 31, 32, 33, 34, 35, 36, 37, 38, 44, 45, 46, 47, 48, 49, 50] (by decide +kernel) (by decide +kernel)
set_option maxRecDepth 20000 in
theorem gX3_putTogether_X3_wrongItem : GoodIn wsX3_putTogether (wsV RX3 195 RX3 yX3_wrongItem wsX3_wrongItem) := goodIn_app (goodIn_of _ (by decide +kernel)) ggX3_putTogether_X3_wrongItem
theorem dX3_putTogether_0 : decode cX3_putTogether 0 = .ok (.aload_n 0, 1) := by decide +kernel
theorem dX3_putTogether_1 : decode cX3_putTogether 1 = .ok (.aload_n 1, 1) := by decide +kernel
theorem dX3_putTogether_2 : decode cX3_putTogether 2 = .ok (.invokevirtual 195, 3) := by decide +kernel
theorem dX3_putTogether_5 : decode cX3_putTogether 5 = .ok (.istore_n 2, 1) := by decide +kernel
theorem dX3_putTogether_6 : decode cX3_putTogether 6 = .ok (.iload_n 2, 1) := by decide +kernel
theorem dX3_putTogether_7 : decode cX3_putTogether 7 = .ok (.iconst (-1), 1) := by decide +kernel
theorem dX3_putTogether_8 : decode cX3_putTogether 8 = .ok (.if_icmp .eq 18, 3) := by decide +kernel
theorem dX3_putTogether_11 : decode cX3_putTogether 11 = .ok (.aload_n 0, 1) := by decide +kernel
theorem dX3_putTogether_12 : decode cX3_putTogether 12 = .ok (.dup, 1) := by decide +kernel
theorem dX3_putTogether_13 : decode cX3_putTogether 13 = .ok (.getfield 60, 3) := by decide +kernel
theorem dX3_putTogether_16 : decode cX3_putTogether 16 = .ok (.iconst 1, 1) := by decide +kernel
theorem dX3_putTogether_17 : decode cX3_putTogether 17 = .ok (.iadd, 1) := by decide +kernel
theorem dX3_putTogether_18 : decode cX3_putTogether 18 = .ok (.putfield 60, 3) := by decide +kernel
theorem dX3_putTogether_21 : decode cX3_putTogether 21 = .ok (.bipush (-10), 2) := by decide +kernel
theorem dX3_putTogether_23 : decode cX3_putTogether 23 = .ok (.iload_n 2, 1) := by decide +kernel
theorem dX3_putTogether_24 : decode cX3_putTogether 24 = .ok (.isub, 1) := by decide +kernel
theorem dX3_putTogether_25 : decode cX3_putTogether 25 = .ok (.ireturn, 1) := by decide +kernel
theorem dX3_putTogether_26 : decode cX3_putTogether 26 = .ok (.iconst 0, 1) := by decide +kernel
theorem dX3_putTogether_27 : decode cX3_putTogether 27 = .ok (.istore_n 3, 1) := by decide +kernel
theorem dX3_putTogether_28 : decode cX3_putTogether 28 = .ok (.iload_n 3, 1) := by decide +kernel
theorem dX3_putTogether_29 : decode cX3_putTogether 29 = .ok (.aload_n 1, 1) := by decide +kernel
theorem dX3_putTogether_30 : decode cX3_putTogether 30 = .ok (.getfield 173, 3) := by decide +kernel
theorem dX3_putTogether_33 : decode cX3_putTogether 33 = .ok (.if_icmp .ge 21, 3) := by decide +kernel
theorem dX3_putTogether_36 : decode cX3_putTogether 36 = .ok (.aload_n 0, 1) := by decide +kernel
theorem dX3_putTogether_37 : decode cX3_putTogether 37 = .ok (.getfield 67, 3) := by decide +kernel
theorem dX3_putTogether_40 : decode cX3_putTogether 40 = .ok (.iload_n 3, 1) := by decide +kernel
theorem dX3_putTogether_41 : decode cX3_putTogether 41 = .ok (.aload_n 0, 1) := by decide +kernel
theorem dX3_putTogether_42 : decode cX3_putTogether 42 = .ok (.getfield 63, 3) := by decide +kernel
theorem dX3_putTogether_45 : decode cX3_putTogether 45 = .ok (.iload_n 3, 1) := by decide +kernel
theorem dX3_putTogether_46 : decode cX3_putTogether 46 = .ok (.iaload, 1) := by decide +kernel
theorem dX3_putTogether_47 : decode cX3_putTogether 47 = .ok (.iastore, 1) := by decide +kernel
theorem dX3_putTogether_48 : decode cX3_putTogether 48 = .ok (.iinc 3 1, 3) := by decide +kernel
theorem dX3_putTogether_51 : decode cX3_putTogether 51 = .ok (.goto (-23), 3) := by decide +kernel
theorem dX3_putTogether_54 : decode cX3_putTogether 54 = .ok (.aload_n 0, 1) := by decide +kernel
theorem dX3_putTogether_55 : decode cX3_putTogether 55 = .ok (.aload_n 1, 1) := by decide +kernel
theorem dX3_putTogether_56 : decode cX3_putTogether 56 = .ok (.putfield 70, 3) := by decide +kernel
theorem dX3_putTogether_59 : decode cX3_putTogether 59 = .ok (.iconst 1, 1) := by decide +kernel
theorem dX3_putTogether_60 : decode cX3_putTogether 60 = .ok (.ireturn, 1) := by decide +kernel
end
section
def iv_con (st : ow_St) : Prop := ∀ k, k < 3 → ∀ j, j < mn k → vp_in (st.1 (100 + 4 * k) j) (mn k)
def iv_sk (st : ow_St) : Prop := ∀ j, j < 10 → st.2.2 (j + 1) < 3
def iv_sz (st : ow_St) (t : Nat) : Prop := ∃ n, n ≤ 30 ∧ st.1 4 t = nI n
def iv_fs (st : ow_St) : Prop := ∃ n, n ≤ 30 ∧ st.1 0 2 = nI n
theorem in_le {x : Int32} {n N : Nat} (h1 : ¬ x < 0) (h2 : ¬ nI n ≤ x) (hn : n ≤ N) (hN : N < 2 ^ 31) : vp_in x N := by
  obtain ⟨j, hj, rfl⟩ := nI_of h1
  exact vp_in_nI (by
    rcases Nat.lt_or_ge j n with h | h
    · omega
    · exact absurd (nI_le h hj) h2) hN
theorem rec_in_0 {st : ow_St} {x : Int32} (hz : iv_sz st 0) (h : ¬ fX2_hasRecord_0 st x = 0) : vp_in x 30 := by
  obtain ⟨n, hn, e⟩ := hz
  unfold fX2_hasRecord_0 at h
  rw [e] at h
  by_cases c1 : x < 0
  · rw [if_pos c1] at h
    exact absurd rfl h
  · rw [if_neg c1] at h
    by_cases c2 : nI n ≤ x
    · rw [if_pos c2] at h
      exact absurd rfl h
    · exact in_le c1 c2 hn (by decide)
theorem rec_in_1 {st : ow_St} {x : Int32} (hz : iv_sz st 1) (h : ¬ fX2_hasRecord_1 st x = 0) : vp_in x 30 := by
  obtain ⟨n, hn, e⟩ := hz
  unfold fX2_hasRecord_1 at h
  rw [e] at h
  by_cases c1 : x < 0
  · rw [if_pos c1] at h
    exact absurd rfl h
  · rw [if_neg c1] at h
    by_cases c2 : nI n ≤ x
    · rw [if_pos c2] at h
      exact absurd rfl h
    · exact in_le c1 c2 hn (by decide)
theorem itm_in_0 {st : ow_St} {x : Int32} (h : ¬ fX2_hasItem_0 st x = 0) : vp_in x 4 := by
  unfold fX2_hasItem_0 at h
  by_cases c1 : x < 0
  · rw [if_pos c1] at h
    exact absurd rfl h
  · rw [if_neg c1] at h
    by_cases c2 : 3 ≤ x
    · rw [if_pos c2] at h
      exact absurd rfl h
    · exact in_le (n := 3) c1 c2 (by decide) (by decide)
theorem itm_in_1 {st : ow_St} {x : Int32} (h : ¬ fX2_hasItem_1 st x = 0) : vp_in x 4 := by
  unfold fX2_hasItem_1 at h
  by_cases c1 : x < 0
  · rw [if_pos c1] at h
    exact absurd rfl h
  · rw [if_neg c1] at h
    by_cases c2 : 4 ≤ x
    · rw [if_pos c2] at h
      exact absurd rfl h
    · exact in_le (n := 4) c1 c2 (by decide) (by decide)
theorem itm_b8_0 {st : ow_St} {x : Int32} (h : ¬ fX2_hasItem_0 st x = 0) : 4 * 0 + x.toNatClampNeg < 8 := by
  have := vp_lt (itm_in_0 h)
  omega
theorem itm_b8_1 {st : ow_St} {x : Int32} (h : ¬ fX2_hasItem_1 st x = 0) : 4 * 1 + x.toNatClampNeg < 8 := by
  have := vp_lt (itm_in_1 h)
  omega
theorem sz_at {st st' : ow_St} {t : Nat} (h : iv_sz st t) (e : st'.1 4 t = st.1 4 t) : iv_sz st' t := by
  obtain ⟨n, hn, e1⟩ := h
  exact ⟨n, hn, e.trans e1⟩
theorem sz_in {st : ow_St} {t : Nat} (h : iv_sz st t) (h2 : st.1 4 t < 30) : vp_in (st.1 4 t) 30 := by
  obtain ⟨n, hn, e1⟩ := h
  rw [e1] at h2 ⊢
  exact vp_in_nI ((nI_ltI (by omega) (by decide)).mp (show nI n < nI 30 from h2)) (by decide)
theorem fs_in {st : ow_St} {x : Int32} (h : iv_fs st) (c1 : ¬ x < 0) (c2 : ¬ st.1 0 2 ≤ x) : vp_in x 30 := by
  obtain ⟨n, hn, e⟩ := h
  rw [e] at c2
  exact in_le c1 c2 hn (by decide)
theorem fs_at {st : ow_St} {i : Nat} (h : ∃ m, m ≤ i ∧ st.1 0 2 = nI m) (hi : i < 30) : vp_in (st.1 0 2) 30 := by
  obtain ⟨n, hn, e⟩ := h
  rw [e]
  exact vp_in_nI (by omega) (by decide)

theorem ln_X3_draftOf_0_0 : (.methodLinkNest RX3 180 yX2_hasRecord "RecordLabels" : Cond) ∈ ow_nest := by decide +kernel
theorem lk_X3_draftOf_0_1 : (.initialized RX2 : Cond) ∈ wsX3_draftOf := by decide +kernel
theorem lk_X3_draftOf_0_2 : (.instanceMethod yX2_hasRecord : Cond) ∈ wsX3_draftOf := by decide +kernel
theorem lk_X3_draftOf_0_3 : (.selects RX2 yX2_hasRecord yX2_hasRecord : Cond) ∈ wsX3_draftOf := by decide +kernel
theorem ln_X3_draftOf_0_4 : (.fieldLinkNest RX3 173 "RecordLabels$Table" "items" "I" "RecordLabels" : Cond) ∈ ow_nest := by decide +kernel
theorem li_X3_draftOf_0_X2 : ∀ w ∈ u_ws RX2 TX2 5, w ∈ wsX3_draftOf := by decide +kernel
theorem li_X3_draftOf_0_X3 : ∀ w ∈ u_ws RX3 TX3 14, w ∈ wsX3_draftOf := by decide +kernel
theorem lk_X3_draftOf_0_7 : (.fieldLink RX3 63 "RecordLabels" "draft" "[I" : Cond) ∈ wsX3_draftOf := by decide +kernel
theorem ln_X3_draftOf_0_8 : (.fieldLinkNest RX3 176 "RecordLabels$Table" "columns" "[[I" "RecordLabels" : Cond) ∈ ow_nest := by decide +kernel
def fX3_draftOf_0 (st : ow_St) (x2 : Int32) : ow_St := (if (fX2_hasRecord_0 st x2) = 0 then st else (let st2 := (ow_si st 103 0 (st.1 102 x2.toNatClampNeg)); (let st3 := (ow_si st2 103 1 (st2.1 106 x2.toNatClampNeg)); (let st4 := (ow_si st3 103 2 (st3.1 110 x2.toNatClampNeg)); st4))))
set_option maxHeartbeats 4000000 in
set_option maxRecDepth 100000 in
theorem kX3_draftOf_0 (l : Launch) (D : va_G) (ca : Nat → ClassId) (ad : ow_Ad) (A : Nat → Prop) (st : ow_St) (x2 : Int32) (hz0 : iv_sz st 0) : Met l yX3_draftOf wsX3_draftOf ({ frames := 1, cells := 0, slots := 0, locals := 21 }) (va_Pc [.ref (ad 0 0), .ref (ad 6 0), .int x2] (ow_W D ca ad A st)) (va_Qv (fun st' => st' = (fX3_draftOf_0 st x2)) (ow_B D ca ad) A) 0 0 A := by
  refine Met.ofW (cc := cX3_draftOf) (maxL := 4) (ret := none) (by decide) rfl ?_
  intro p e s m args below meth c s₁ B hml hv
  obtain ⟨rfl, hP, hC⟩ := hv
  have hx := B.exec
  have hb := B.bytes
  have hr := B.returns
  have hts := atoms_spec (ws := wsX3_draftOf) B.pre
  have hown : s.vm.findClass RX3 = some m.cls := findClass_of_methodNamed B.named
  have hlocks := B.notSynchronized
  have hS : va_S A s.heap s.heap [] := va_S.rf
  have hl := lv_entry ([.ref (ad 0 0), .ref (ad 6 0), .int x2]) (n := 4) (Nat.le_of_ble_eq_true rfl)
  rw [lg_entry_eq]
  generalize (lg_sl ([.ref (ad 0 0), .ref (ad 6 0), .int x2]) ++ List.replicate (4 - (lg_sl ([.ref (ad 0 0), .ref (ad 6 0), .int x2])).length) Slot.unset).toArray = ls at hl ⊢
  have hl : lv_has ls 4 [(0, .ref (ad 0 0)), (1, .ref (ad 6 0)), (2, .int x2)] := hl
  refine lv_aload_n hx hb dX3_draftOf_0 rfl (lv_at hl 1 rfl) ?_
  refine lv_iload_n hx hb dX3_draftOf_1 rfl (lv_at hl 2 rfl) ?_
  refine og_ciP (og_runVN (C := RX2) (T := TX2) (N := 5) (g := 6) (i := 0) (As := [.int x2]) (rest := []) ⟨hx, hb, hml, hown, hts⟩ (kX2_hasRecord_0 l D ca ad A st x2) ⟨va_cnB 1 hts gX3_draftOf_X2_hasRecord_n180 rfl rfl rfl (hC.2.2.1 _ ln_X3_draftOf_0_0) (hts _ lk_X3_draftOf_0_1) (by decide +kernel) ⟨Nat.le_of_ble_eq_true rfl, Nat.le_of_ble_eq_true rfl⟩, (hts _ lk_X3_draftOf_0_2), (hts _ lk_X3_draftOf_0_3)⟩ hC hP hS (ow_q6_0) rfl rfl rfl hl.1 rfl (Nat.le_of_ble_eq_true rfl) dX3_draftOf_2 ⟨Nat.zero_le _, Nat.zero_le _⟩) hS (fun H locs hP hS => ?_)
  refine lv_if_ne (tgt := 9) hx hb dX3_draftOf_5 (by decide) (fun c_1 => ?_) (fun c_1 => ?_)
  · refine lv_iconst (v := 0) hx hb dX3_draftOf_9 (by decide) ?_
    refine lv_istore_n (lv' := [(3, .int 0), (0, .ref (ad 0 0)), (1, .ref (ad 6 0)), (2, .int x2)]) hx hb dX3_draftOf_10 rfl hl (by decide) rfl (fun ls hl => ?_)
    refine lv_iload_n hx hb dX3_draftOf_11 rfl (lv_at hl 0 rfl) ?_
    refine lv_aload_n hx hb dX3_draftOf_12 rfl (lv_at hl 2 rfl) ?_
    refine og_getN (C := RX2) (T := TX2) (N := 5) (g := 6) (i := 0) (v := .int 3) hx hb hts li_X3_draftOf_0_X2 hown hC hP (ow_q6_0) rfl rfl 1 (by decide) ln_X3_draftOf_0_4 rfl rfl dX3_draftOf_13 ?_
    refine lv_icmp_ge (tgt := 39) hx hb dX3_draftOf_16 (by decide) (fun c => absurd c (by decide)) (fun _ => ?_)
    refine lv_aload_n hx hb dX3_draftOf_19 rfl (lv_at hl 1 rfl) ?_
    refine og_get (C := RX3) (T := TX3) (N := 14) (g := 0) (i := 0) (v := .ref (ad 9 0)) hx hb hts li_X3_draftOf_0_X3 hown hC hP (ow_q0_0) rfl rfl 9 (by decide) (hts _ lk_X3_draftOf_0_7) rfl rfl dX3_draftOf_20 ?_
    refine lv_iload_n hx hb dX3_draftOf_23 rfl (lv_at hl 0 rfl) ?_
    refine lv_aload_n hx hb dX3_draftOf_24 rfl (lv_at hl 2 rfl) ?_
    refine og_getN (C := RX2) (T := TX2) (N := 5) (g := 6) (i := 0) (v := .ref (ad 7 0)) hx hb hts li_X3_draftOf_0_X2 hown hC hP (ow_q6_0) rfl rfl 3 (by decide) ln_X3_draftOf_0_8 rfl rfl dX3_draftOf_25 ?_
    refine lv_iload_n hx hb dX3_draftOf_28 rfl (lv_at hl 0 rfl) ?_
    refine og_aaldI (g := 7) (i := 0) (v := ad 8 0) hx hb hC hP ow_q7_0 rfl (by unfold vp_in; decide) rfl dX3_draftOf_29 ?_
    refine lv_iload_n hx hb dX3_draftOf_30 rfl (lv_at hl 3 rfl) ?_
    refine og_iald (g := 8) (i := 0) (j := x2.toNatClampNeg) (v := (st.1 102 x2.toNatClampNeg)) hx hb hC hP (ow_q8_0) rfl (rec_in_0 hz0 c_1) rfl rfl dX3_draftOf_31 ?_
    refine og_iast (g := 9) (i := 0) (j := 0) (v := (st.1 102 x2.toNatClampNeg)) hx hb hC hP hS (ow_q9_0) rfl (by unfold vp_in; decide) rfl (we_9_0 st 0 (st.1 102 x2.toNatClampNeg)) dX3_draftOf_32 (fun H locs hP hS => ?_)
    obtain ⟨st2, e2⟩ : ∃ z, z = (ow_si st 103 0 (st.1 102 x2.toNatClampNeg)) := ⟨_, rfl⟩
    rw [← e2] at hP
    refine lv_iinc (v := 1) (lv' := [(3, .int 1), (0, .ref (ad 0 0)), (1, .ref (ad 6 0)), (2, .int x2)]) hx hb dX3_draftOf_33 hl (k := 0) rfl (by decide) (by decide) rfl (fun ls hl => ?_)
    refine lv_goto (tgt := 11) hx hb dX3_draftOf_36 (by decide) ?_
    refine lv_iload_n hx hb dX3_draftOf_11 rfl (lv_at hl 0 rfl) ?_
    refine lv_aload_n hx hb dX3_draftOf_12 rfl (lv_at hl 2 rfl) ?_
    refine og_getN (C := RX2) (T := TX2) (N := 5) (g := 6) (i := 0) (v := .int 3) hx hb hts li_X3_draftOf_0_X2 hown hC hP (ow_q6_0) rfl rfl 1 (by decide) ln_X3_draftOf_0_4 rfl rfl dX3_draftOf_13 ?_
    refine lv_icmp_ge (tgt := 39) hx hb dX3_draftOf_16 (by decide) (fun c => absurd c (by decide)) (fun _ => ?_)
    refine lv_aload_n hx hb dX3_draftOf_19 rfl (lv_at hl 1 rfl) ?_
    refine og_get (C := RX3) (T := TX3) (N := 14) (g := 0) (i := 0) (v := .ref (ad 9 0)) hx hb hts li_X3_draftOf_0_X3 hown hC hP (ow_q0_0) rfl rfl 9 (by decide) (hts _ lk_X3_draftOf_0_7) rfl rfl dX3_draftOf_20 ?_
    refine lv_iload_n hx hb dX3_draftOf_23 rfl (lv_at hl 0 rfl) ?_
    refine lv_aload_n hx hb dX3_draftOf_24 rfl (lv_at hl 2 rfl) ?_
    refine og_getN (C := RX2) (T := TX2) (N := 5) (g := 6) (i := 0) (v := .ref (ad 7 0)) hx hb hts li_X3_draftOf_0_X2 hown hC hP (ow_q6_0) rfl rfl 3 (by decide) ln_X3_draftOf_0_8 rfl rfl dX3_draftOf_25 ?_
    refine lv_iload_n hx hb dX3_draftOf_28 rfl (lv_at hl 0 rfl) ?_
    refine og_aaldI (g := 7) (i := 0) (v := ad 8 1) hx hb hC hP ow_q7_0 rfl (by unfold vp_in; decide) rfl dX3_draftOf_29 ?_
    refine lv_iload_n hx hb dX3_draftOf_30 rfl (lv_at hl 3 rfl) ?_
    refine og_iald (g := 8) (i := 1) (j := x2.toNatClampNeg) (v := (st2.1 106 x2.toNatClampNeg)) hx hb hC hP (ow_q8_1) rfl (rec_in_0 hz0 c_1) rfl rfl dX3_draftOf_31 ?_
    refine og_iast (g := 9) (i := 0) (j := 1) (v := (st2.1 106 x2.toNatClampNeg)) hx hb hC hP hS (ow_q9_0) rfl (by unfold vp_in; decide) rfl (we_9_0 st2 1 (st2.1 106 x2.toNatClampNeg)) dX3_draftOf_32 (fun H locs hP hS => ?_)
    obtain ⟨st3, e3⟩ : ∃ z, z = (ow_si st2 103 1 (st2.1 106 x2.toNatClampNeg)) := ⟨_, rfl⟩
    rw [← e3] at hP
    refine lv_iinc (v := 2) (lv' := [(3, .int 2), (0, .ref (ad 0 0)), (1, .ref (ad 6 0)), (2, .int x2)]) hx hb dX3_draftOf_33 hl (k := 0) rfl (by decide) (by decide) rfl (fun ls hl => ?_)
    refine lv_goto (tgt := 11) hx hb dX3_draftOf_36 (by decide) ?_
    refine lv_iload_n hx hb dX3_draftOf_11 rfl (lv_at hl 0 rfl) ?_
    refine lv_aload_n hx hb dX3_draftOf_12 rfl (lv_at hl 2 rfl) ?_
    refine og_getN (C := RX2) (T := TX2) (N := 5) (g := 6) (i := 0) (v := .int 3) hx hb hts li_X3_draftOf_0_X2 hown hC hP (ow_q6_0) rfl rfl 1 (by decide) ln_X3_draftOf_0_4 rfl rfl dX3_draftOf_13 ?_
    refine lv_icmp_ge (tgt := 39) hx hb dX3_draftOf_16 (by decide) (fun c => absurd c (by decide)) (fun _ => ?_)
    refine lv_aload_n hx hb dX3_draftOf_19 rfl (lv_at hl 1 rfl) ?_
    refine og_get (C := RX3) (T := TX3) (N := 14) (g := 0) (i := 0) (v := .ref (ad 9 0)) hx hb hts li_X3_draftOf_0_X3 hown hC hP (ow_q0_0) rfl rfl 9 (by decide) (hts _ lk_X3_draftOf_0_7) rfl rfl dX3_draftOf_20 ?_
    refine lv_iload_n hx hb dX3_draftOf_23 rfl (lv_at hl 0 rfl) ?_
    refine lv_aload_n hx hb dX3_draftOf_24 rfl (lv_at hl 2 rfl) ?_
    refine og_getN (C := RX2) (T := TX2) (N := 5) (g := 6) (i := 0) (v := .ref (ad 7 0)) hx hb hts li_X3_draftOf_0_X2 hown hC hP (ow_q6_0) rfl rfl 3 (by decide) ln_X3_draftOf_0_8 rfl rfl dX3_draftOf_25 ?_
    refine lv_iload_n hx hb dX3_draftOf_28 rfl (lv_at hl 0 rfl) ?_
    refine og_aaldI (g := 7) (i := 0) (v := ad 8 2) hx hb hC hP ow_q7_0 rfl (by unfold vp_in; decide) rfl dX3_draftOf_29 ?_
    refine lv_iload_n hx hb dX3_draftOf_30 rfl (lv_at hl 3 rfl) ?_
    refine og_iald (g := 8) (i := 2) (j := x2.toNatClampNeg) (v := (st3.1 110 x2.toNatClampNeg)) hx hb hC hP (ow_q8_2) rfl (rec_in_0 hz0 c_1) rfl rfl dX3_draftOf_31 ?_
    refine og_iast (g := 9) (i := 0) (j := 2) (v := (st3.1 110 x2.toNatClampNeg)) hx hb hC hP hS (ow_q9_0) rfl (by unfold vp_in; decide) rfl (we_9_0 st3 2 (st3.1 110 x2.toNatClampNeg)) dX3_draftOf_32 (fun H locs hP hS => ?_)
    obtain ⟨st4, e4⟩ : ∃ z, z = (ow_si st3 103 2 (st3.1 110 x2.toNatClampNeg)) := ⟨_, rfl⟩
    rw [← e4] at hP
    refine lv_iinc (v := 3) (lv' := [(3, .int 3), (0, .ref (ad 0 0)), (1, .ref (ad 6 0)), (2, .int x2)]) hx hb dX3_draftOf_33 hl (k := 0) rfl (by decide) (by decide) rfl (fun ls hl => ?_)
    refine lv_goto (tgt := 11) hx hb dX3_draftOf_36 (by decide) ?_
    refine lv_iload_n hx hb dX3_draftOf_11 rfl (lv_at hl 0 rfl) ?_
    refine lv_aload_n hx hb dX3_draftOf_12 rfl (lv_at hl 2 rfl) ?_
    refine og_getN (C := RX2) (T := TX2) (N := 5) (g := 6) (i := 0) (v := .int 3) hx hb hts li_X3_draftOf_0_X2 hown hC hP (ow_q6_0) rfl rfl 1 (by decide) ln_X3_draftOf_0_4 rfl rfl dX3_draftOf_13 ?_
    refine lv_icmp_ge (tgt := 39) hx hb dX3_draftOf_16 (by decide) (fun _ => ?_) (fun c => absurd (by decide) c)
    exact W.vret hx hb hr (fun t ht hW => ⟨⟨st4, rfl, (by subst e4; subst e3; subst e2; simp only [fX3_draftOf_0, if_neg c_1]), ow_Bi ht hP⟩, hS.F ht⟩) hS.2.2 dX3_draftOf_39
  · exact W.vret hx hb hr (fun t ht hW => ⟨⟨st, rfl, (by simp only [fX3_draftOf_0, if_pos c_1]), ow_Bi ht hP⟩, hS.F ht⟩) hS.2.2 dX3_draftOf_8

theorem ln_X3_putTogether_0_0 : (.fieldLinkNest RX3 173 "RecordLabels$Table" "items" "I" "RecordLabels" : Cond) ∈ ow_nest := by decide +kernel
theorem li_X3_putTogether_0_X2 : ∀ w ∈ u_ws RX2 TX2 5, w ∈ wsX3_putTogether := by decide +kernel
theorem li_X3_putTogether_0_X3 : ∀ w ∈ u_ws RX3 TX3 14, w ∈ wsX3_putTogether := by decide +kernel
theorem lk_X3_putTogether_0_3 : (.fieldLink RX3 67 "RecordLabels" "parts" "[I" : Cond) ∈ wsX3_putTogether := by decide +kernel
theorem lk_X3_putTogether_0_4 : (.fieldLink RX3 63 "RecordLabels" "draft" "[I" : Cond) ∈ wsX3_putTogether := by decide +kernel
theorem lk_X3_putTogether_0_5 : (.fieldLink RX3 70 "RecordLabels" "partsTable" "LRecordLabels$Table;" : Cond) ∈ wsX3_putTogether := by decide +kernel
theorem lk_X3_putTogether_0_6 : (.fieldLink RX3 60 "RecordLabels" "wrongRecords" "I" : Cond) ∈ wsX3_putTogether := by decide +kernel
def fX3_putTogether_0 (st : ow_St) : Int32 × ow_St := (if (fX3_wrongItem_0 st) = (-1) then (let st2 := (ow_si st 107 0 (st.1 103 0)); (let st3 := (ow_si st2 107 1 (st2.1 103 1)); (let st4 := (ow_si st3 107 2 (st3.1 103 2)); (let st5 := (ow_sr st4 0 1); (1, st5))))) else (let st6 := (ow_si st 0 1 ((st.1 0 1) + 1)); (((-10) - (fX3_wrongItem_0 st)), st6)))
set_option maxHeartbeats 4000000 in
set_option maxRecDepth 100000 in
theorem kX3_putTogether_0 (l : Launch) (D : va_G) (ca : Nat → ClassId) (ad : ow_Ad) (A : Nat → Prop) (st : ow_St)  : Met l yX3_putTogether wsX3_putTogether ({ frames := 3, cells := 0, slots := 0, locals := 67 }) (va_Pc [.ref (ad 0 0), .ref (ad 6 0)] (ow_W D ca ad A st)) (va_Qi (fun r st' => (r, st') = (fX3_putTogether_0 st)) (ow_B D ca ad) A) 0 0 A := by
  refine Met.ofW (cc := cX3_putTogether) (maxL := 4) (ret := (some .int)) (by decide) rfl ?_
  intro p e s m args below meth c s₁ B hml hv
  obtain ⟨rfl, hP, hC⟩ := hv
  have hx := B.exec
  have hb := B.bytes
  have hr := B.returns
  have hts := atoms_spec (ws := wsX3_putTogether) B.pre
  have hown : s.vm.findClass RX3 = some m.cls := findClass_of_methodNamed B.named
  have hlocks := B.notSynchronized
  have hS : va_S A s.heap s.heap [] := va_S.rf
  have hl := lv_entry ([.ref (ad 0 0), .ref (ad 6 0)]) (n := 4) (Nat.le_of_ble_eq_true rfl)
  rw [lg_entry_eq]
  generalize (lg_sl ([.ref (ad 0 0), .ref (ad 6 0)]) ++ List.replicate (4 - (lg_sl ([.ref (ad 0 0), .ref (ad 6 0)])).length) Slot.unset).toArray = ls at hl ⊢
  have hl : lv_has ls 4 [(0, .ref (ad 0 0)), (1, .ref (ad 6 0))] := hl
  refine lv_aload_n hx hb dX3_putTogether_0 rfl (lv_at hl 0 rfl) ?_
  refine lv_aload_n hx hb dX3_putTogether_1 rfl (lv_at hl 1 rfl) ?_
  refine og_ciP (og_runV (C := RX3) (T := TX3) (N := 14) (g := 0) (i := 0) (As := [.ref (ad 6 0)]) (rest := []) ⟨hx, hb, hml, hown, hts⟩ (kX3_wrongItem_0 l D ca ad A st) (cwV 1 hts gX3_putTogether_X3_wrongItem rfl rfl rfl (by decide +kernel) ⟨Nat.le_of_ble_eq_true rfl, Nat.le_of_ble_eq_true rfl⟩) hC hP hS (ow_q0_0) rfl rfl rfl hl.1 rfl (Nat.le_of_ble_eq_true rfl) dX3_putTogether_2 ⟨Nat.zero_le _, Nat.zero_le _⟩) hS (fun H locs hP hS => ?_)
  refine lv_istore_n (lv' := [(2, .int (fX3_wrongItem_0 st)), (0, .ref (ad 0 0)), (1, .ref (ad 6 0))]) hx hb dX3_putTogether_5 rfl hl (by decide) rfl (fun ls hl => ?_)
  refine lv_iload_n hx hb dX3_putTogether_6 rfl (lv_at hl 0 rfl) ?_
  refine lv_iconst (v := (-1)) hx hb dX3_putTogether_7 (by decide) ?_
  refine lv_icmp_eq (tgt := 26) hx hb dX3_putTogether_8 (by decide) (fun c_1 => ?_) (fun c_1 => ?_)
  · refine lv_iconst (v := 0) hx hb dX3_putTogether_26 (by decide) ?_
    refine lv_istore_n (lv' := [(3, .int 0), (2, .int (fX3_wrongItem_0 st)), (0, .ref (ad 0 0)), (1, .ref (ad 6 0))]) hx hb dX3_putTogether_27 rfl hl (by decide) rfl (fun ls hl => ?_)
    refine lv_iload_n hx hb dX3_putTogether_28 rfl (lv_at hl 0 rfl) ?_
    refine lv_aload_n hx hb dX3_putTogether_29 rfl (lv_at hl 3 rfl) ?_
    refine og_getN (C := RX2) (T := TX2) (N := 5) (g := 6) (i := 0) (v := .int 3) hx hb hts li_X3_putTogether_0_X2 hown hC hP (ow_q6_0) rfl rfl 1 (by decide) ln_X3_putTogether_0_0 rfl rfl dX3_putTogether_30 ?_
    refine lv_icmp_ge (tgt := 54) hx hb dX3_putTogether_33 (by decide) (fun c => absurd c (by decide)) (fun _ => ?_)
    refine lv_aload_n hx hb dX3_putTogether_36 rfl (lv_at hl 2 rfl) ?_
    refine og_get (C := RX3) (T := TX3) (N := 14) (g := 0) (i := 0) (v := .ref (ad 9 1)) hx hb hts li_X3_putTogether_0_X3 hown hC hP (ow_q0_0) rfl rfl 10 (by decide) (hts _ lk_X3_putTogether_0_3) rfl rfl dX3_putTogether_37 ?_
    refine lv_iload_n hx hb dX3_putTogether_40 rfl (lv_at hl 0 rfl) ?_
    refine lv_aload_n hx hb dX3_putTogether_41 rfl (lv_at hl 2 rfl) ?_
    refine og_get (C := RX3) (T := TX3) (N := 14) (g := 0) (i := 0) (v := .ref (ad 9 0)) hx hb hts li_X3_putTogether_0_X3 hown hC hP (ow_q0_0) rfl rfl 9 (by decide) (hts _ lk_X3_putTogether_0_4) rfl rfl dX3_putTogether_42 ?_
    refine lv_iload_n hx hb dX3_putTogether_45 rfl (lv_at hl 0 rfl) ?_
    refine og_iald (g := 9) (i := 0) (j := 0) (v := (st.1 103 0)) hx hb hC hP (ow_q9_0) rfl (by unfold vp_in; decide) rfl rfl dX3_putTogether_46 ?_
    refine og_iast (g := 9) (i := 1) (j := 0) (v := (st.1 103 0)) hx hb hC hP hS (ow_q9_1) rfl (by unfold vp_in; decide) rfl (we_9_1 st 0 (st.1 103 0)) dX3_putTogether_47 (fun H locs hP hS => ?_)
    obtain ⟨st2, e2⟩ : ∃ z, z = (ow_si st 107 0 (st.1 103 0)) := ⟨_, rfl⟩
    rw [← e2] at hP
    refine lv_iinc (v := 1) (lv' := [(3, .int 1), (2, .int (fX3_wrongItem_0 st)), (0, .ref (ad 0 0)), (1, .ref (ad 6 0))]) hx hb dX3_putTogether_48 hl (k := 0) rfl (by decide) (by decide) rfl (fun ls hl => ?_)
    refine lv_goto (tgt := 28) hx hb dX3_putTogether_51 (by decide) ?_
    refine lv_iload_n hx hb dX3_putTogether_28 rfl (lv_at hl 0 rfl) ?_
    refine lv_aload_n hx hb dX3_putTogether_29 rfl (lv_at hl 3 rfl) ?_
    refine og_getN (C := RX2) (T := TX2) (N := 5) (g := 6) (i := 0) (v := .int 3) hx hb hts li_X3_putTogether_0_X2 hown hC hP (ow_q6_0) rfl rfl 1 (by decide) ln_X3_putTogether_0_0 rfl rfl dX3_putTogether_30 ?_
    refine lv_icmp_ge (tgt := 54) hx hb dX3_putTogether_33 (by decide) (fun c => absurd c (by decide)) (fun _ => ?_)
    refine lv_aload_n hx hb dX3_putTogether_36 rfl (lv_at hl 2 rfl) ?_
    refine og_get (C := RX3) (T := TX3) (N := 14) (g := 0) (i := 0) (v := .ref (ad 9 1)) hx hb hts li_X3_putTogether_0_X3 hown hC hP (ow_q0_0) rfl rfl 10 (by decide) (hts _ lk_X3_putTogether_0_3) rfl rfl dX3_putTogether_37 ?_
    refine lv_iload_n hx hb dX3_putTogether_40 rfl (lv_at hl 0 rfl) ?_
    refine lv_aload_n hx hb dX3_putTogether_41 rfl (lv_at hl 2 rfl) ?_
    refine og_get (C := RX3) (T := TX3) (N := 14) (g := 0) (i := 0) (v := .ref (ad 9 0)) hx hb hts li_X3_putTogether_0_X3 hown hC hP (ow_q0_0) rfl rfl 9 (by decide) (hts _ lk_X3_putTogether_0_4) rfl rfl dX3_putTogether_42 ?_
    refine lv_iload_n hx hb dX3_putTogether_45 rfl (lv_at hl 0 rfl) ?_
    refine og_iald (g := 9) (i := 0) (j := 1) (v := (st2.1 103 1)) hx hb hC hP (ow_q9_0) rfl (by unfold vp_in; decide) rfl rfl dX3_putTogether_46 ?_
    refine og_iast (g := 9) (i := 1) (j := 1) (v := (st2.1 103 1)) hx hb hC hP hS (ow_q9_1) rfl (by unfold vp_in; decide) rfl (we_9_1 st2 1 (st2.1 103 1)) dX3_putTogether_47 (fun H locs hP hS => ?_)
    obtain ⟨st3, e3⟩ : ∃ z, z = (ow_si st2 107 1 (st2.1 103 1)) := ⟨_, rfl⟩
    rw [← e3] at hP
    refine lv_iinc (v := 2) (lv' := [(3, .int 2), (2, .int (fX3_wrongItem_0 st)), (0, .ref (ad 0 0)), (1, .ref (ad 6 0))]) hx hb dX3_putTogether_48 hl (k := 0) rfl (by decide) (by decide) rfl (fun ls hl => ?_)
    refine lv_goto (tgt := 28) hx hb dX3_putTogether_51 (by decide) ?_
    refine lv_iload_n hx hb dX3_putTogether_28 rfl (lv_at hl 0 rfl) ?_
    refine lv_aload_n hx hb dX3_putTogether_29 rfl (lv_at hl 3 rfl) ?_
    refine og_getN (C := RX2) (T := TX2) (N := 5) (g := 6) (i := 0) (v := .int 3) hx hb hts li_X3_putTogether_0_X2 hown hC hP (ow_q6_0) rfl rfl 1 (by decide) ln_X3_putTogether_0_0 rfl rfl dX3_putTogether_30 ?_
    refine lv_icmp_ge (tgt := 54) hx hb dX3_putTogether_33 (by decide) (fun c => absurd c (by decide)) (fun _ => ?_)
    refine lv_aload_n hx hb dX3_putTogether_36 rfl (lv_at hl 2 rfl) ?_
    refine og_get (C := RX3) (T := TX3) (N := 14) (g := 0) (i := 0) (v := .ref (ad 9 1)) hx hb hts li_X3_putTogether_0_X3 hown hC hP (ow_q0_0) rfl rfl 10 (by decide) (hts _ lk_X3_putTogether_0_3) rfl rfl dX3_putTogether_37 ?_
    refine lv_iload_n hx hb dX3_putTogether_40 rfl (lv_at hl 0 rfl) ?_
    refine lv_aload_n hx hb dX3_putTogether_41 rfl (lv_at hl 2 rfl) ?_
    refine og_get (C := RX3) (T := TX3) (N := 14) (g := 0) (i := 0) (v := .ref (ad 9 0)) hx hb hts li_X3_putTogether_0_X3 hown hC hP (ow_q0_0) rfl rfl 9 (by decide) (hts _ lk_X3_putTogether_0_4) rfl rfl dX3_putTogether_42 ?_
    refine lv_iload_n hx hb dX3_putTogether_45 rfl (lv_at hl 0 rfl) ?_
    refine og_iald (g := 9) (i := 0) (j := 2) (v := (st3.1 103 2)) hx hb hC hP (ow_q9_0) rfl (by unfold vp_in; decide) rfl rfl dX3_putTogether_46 ?_
    refine og_iast (g := 9) (i := 1) (j := 2) (v := (st3.1 103 2)) hx hb hC hP hS (ow_q9_1) rfl (by unfold vp_in; decide) rfl (we_9_1 st3 2 (st3.1 103 2)) dX3_putTogether_47 (fun H locs hP hS => ?_)
    obtain ⟨st4, e4⟩ : ∃ z, z = (ow_si st3 107 2 (st3.1 103 2)) := ⟨_, rfl⟩
    rw [← e4] at hP
    refine lv_iinc (v := 3) (lv' := [(3, .int 3), (2, .int (fX3_wrongItem_0 st)), (0, .ref (ad 0 0)), (1, .ref (ad 6 0))]) hx hb dX3_putTogether_48 hl (k := 0) rfl (by decide) (by decide) rfl (fun ls hl => ?_)
    refine lv_goto (tgt := 28) hx hb dX3_putTogether_51 (by decide) ?_
    refine lv_iload_n hx hb dX3_putTogether_28 rfl (lv_at hl 0 rfl) ?_
    refine lv_aload_n hx hb dX3_putTogether_29 rfl (lv_at hl 3 rfl) ?_
    refine og_getN (C := RX2) (T := TX2) (N := 5) (g := 6) (i := 0) (v := .int 3) hx hb hts li_X3_putTogether_0_X2 hown hC hP (ow_q6_0) rfl rfl 1 (by decide) ln_X3_putTogether_0_0 rfl rfl dX3_putTogether_30 ?_
    refine lv_icmp_ge (tgt := 54) hx hb dX3_putTogether_33 (by decide) (fun _ => ?_) (fun c => absurd (by decide) c)
    refine lv_aload_n hx hb dX3_putTogether_54 rfl (lv_at hl 2 rfl) ?_
    refine lv_aload_n hx hb dX3_putTogether_55 rfl (lv_at hl 3 rfl) ?_
    refine og_put (C := RX3) (T := TX3) (N := 14) (g := 0) (i := 0) (v := .ref (ad 6 0)) (ty := .object "RecordLabels$Table") hx hb hts li_X3_putTogether_0_X3 tyX3 tyX3_ok nmX3 hown hC hP hS (ow_q0_0) rfl rfl 11 (by decide) (hts _ lk_X3_putTogether_0_5) rfl rfl (by decide +kernel) rfl rfl (Nat.le_of_ble_eq_true rfl) (we_0_p st4 0) dX3_putTogether_56 (fun H locs hP hS => ?_)
    obtain ⟨st5, e5⟩ : ∃ z, z = (ow_sr st4 0 1) := ⟨_, rfl⟩
    rw [← e5] at hP
    refine lv_iconst (v := 1) hx hb dX3_putTogether_59 (by decide) ?_
    exact W.iret (v := 1) hx hb hr (fun t ht hW => ⟨⟨1, st5, rfl, (by subst e5; subst e4; subst e3; subst e2; simp only [fX3_putTogether_0, if_pos c_1]), ow_Bi ht hP⟩, hS.F ht⟩) hS.2.2 dX3_putTogether_60
  · refine lv_aload_n hx hb dX3_putTogether_11 rfl (lv_at hl 1 rfl) ?_
    refine lv_dup hx hb dX3_putTogether_12 rfl ?_
    refine og_get (C := RX3) (T := TX3) (N := 14) (g := 0) (i := 0) (v := .int (st.1 0 1)) hx hb hts li_X3_putTogether_0_X3 hown hC hP (ow_q0_0) rfl rfl 8 (by decide) (hts _ lk_X3_putTogether_0_6) rfl rfl dX3_putTogether_13 ?_
    refine lv_iconst (v := 1) hx hb dX3_putTogether_16 (by decide) ?_
    refine lv_iadd hx hb dX3_putTogether_17 ?_
    refine og_put (C := RX3) (T := TX3) (N := 14) (g := 0) (i := 0) (v := .int ((st.1 0 1) + 1)) (ty := .int) hx hb hts li_X3_putTogether_0_X3 tyX3 tyX3_ok nmX3 hown hC hP hS (ow_q0_0) rfl rfl 8 (by decide) (hts _ lk_X3_putTogether_0_6) rfl rfl (by decide +kernel) rfl rfl (Nat.le_of_ble_eq_true rfl) (we_0_1 st ((st.1 0 1) + 1)) dX3_putTogether_18 (fun H locs hP hS => ?_)
    obtain ⟨st6, e6⟩ : ∃ z, z = (ow_si st 0 1 ((st.1 0 1) + 1)) := ⟨_, rfl⟩
    rw [← e6] at hP
    refine lv_bipush (v := (-10)) hx hb dX3_putTogether_21 (by decide) ?_
    refine lv_iload_n hx hb dX3_putTogether_23 rfl (lv_at hl 0 rfl) ?_
    refine lv_isub hx hb dX3_putTogether_24 ?_
    exact W.iret (v := ((-10) - (fX3_wrongItem_0 st))) hx hb hr (fun t ht hW => ⟨⟨((-10) - (fX3_wrongItem_0 st)), st6, rfl, (by subst e6; simp only [fX3_putTogether_0, if_neg c_1]), ow_Bi ht hP⟩, hS.F ht⟩) hS.2.2 dX3_putTogether_25

theorem ln_X3_draftOf_1_0 : (.methodLinkNest RX3 180 yX2_hasRecord "RecordLabels" : Cond) ∈ ow_nest := by decide +kernel
theorem lk_X3_draftOf_1_1 : (.initialized RX2 : Cond) ∈ wsX3_draftOf := by decide +kernel
theorem lk_X3_draftOf_1_2 : (.instanceMethod yX2_hasRecord : Cond) ∈ wsX3_draftOf := by decide +kernel
theorem lk_X3_draftOf_1_3 : (.selects RX2 yX2_hasRecord yX2_hasRecord : Cond) ∈ wsX3_draftOf := by decide +kernel
theorem ln_X3_draftOf_1_4 : (.fieldLinkNest RX3 173 "RecordLabels$Table" "items" "I" "RecordLabels" : Cond) ∈ ow_nest := by decide +kernel
theorem li_X3_draftOf_1_X2 : ∀ w ∈ u_ws RX2 TX2 5, w ∈ wsX3_draftOf := by decide +kernel
theorem li_X3_draftOf_1_X3 : ∀ w ∈ u_ws RX3 TX3 14, w ∈ wsX3_draftOf := by decide +kernel
theorem lk_X3_draftOf_1_7 : (.fieldLink RX3 63 "RecordLabels" "draft" "[I" : Cond) ∈ wsX3_draftOf := by decide +kernel
theorem ln_X3_draftOf_1_8 : (.fieldLinkNest RX3 176 "RecordLabels$Table" "columns" "[[I" "RecordLabels" : Cond) ∈ ow_nest := by decide +kernel
def fX3_draftOf_1 (st : ow_St) (x2 : Int32) : ow_St := (if (fX2_hasRecord_1 st x2) = 0 then st else (let st2 := (ow_si st 103 0 (st.1 118 x2.toNatClampNeg)); (let st3 := (ow_si st2 103 1 (st2.1 122 x2.toNatClampNeg)); (let st4 := (ow_si st3 103 2 (st3.1 126 x2.toNatClampNeg)); (let st5 := (ow_si st4 103 3 (st4.1 130 x2.toNatClampNeg)); st5)))))
set_option maxHeartbeats 4000000 in
set_option maxRecDepth 100000 in
theorem kX3_draftOf_1 (l : Launch) (D : va_G) (ca : Nat → ClassId) (ad : ow_Ad) (A : Nat → Prop) (st : ow_St) (x2 : Int32) (hz1 : iv_sz st 1) : Met l yX3_draftOf wsX3_draftOf ({ frames := 1, cells := 0, slots := 0, locals := 21 }) (va_Pc [.ref (ad 0 0), .ref (ad 6 1), .int x2] (ow_W D ca ad A st)) (va_Qv (fun st' => st' = (fX3_draftOf_1 st x2)) (ow_B D ca ad) A) 0 0 A := by
  refine Met.ofW (cc := cX3_draftOf) (maxL := 4) (ret := none) (by decide) rfl ?_
  intro p e s m args below meth c s₁ B hml hv
  obtain ⟨rfl, hP, hC⟩ := hv
  have hx := B.exec
  have hb := B.bytes
  have hr := B.returns
  have hts := atoms_spec (ws := wsX3_draftOf) B.pre
  have hown : s.vm.findClass RX3 = some m.cls := findClass_of_methodNamed B.named
  have hlocks := B.notSynchronized
  have hS : va_S A s.heap s.heap [] := va_S.rf
  have hl := lv_entry ([.ref (ad 0 0), .ref (ad 6 1), .int x2]) (n := 4) (Nat.le_of_ble_eq_true rfl)
  rw [lg_entry_eq]
  generalize (lg_sl ([.ref (ad 0 0), .ref (ad 6 1), .int x2]) ++ List.replicate (4 - (lg_sl ([.ref (ad 0 0), .ref (ad 6 1), .int x2])).length) Slot.unset).toArray = ls at hl ⊢
  have hl : lv_has ls 4 [(0, .ref (ad 0 0)), (1, .ref (ad 6 1)), (2, .int x2)] := hl
  refine lv_aload_n hx hb dX3_draftOf_0 rfl (lv_at hl 1 rfl) ?_
  refine lv_iload_n hx hb dX3_draftOf_1 rfl (lv_at hl 2 rfl) ?_
  refine og_ciP (og_runVN (C := RX2) (T := TX2) (N := 5) (g := 6) (i := 1) (As := [.int x2]) (rest := []) ⟨hx, hb, hml, hown, hts⟩ (kX2_hasRecord_1 l D ca ad A st x2) ⟨va_cnB 1 hts gX3_draftOf_X2_hasRecord_n180 rfl rfl rfl (hC.2.2.1 _ ln_X3_draftOf_1_0) (hts _ lk_X3_draftOf_1_1) (by decide +kernel) ⟨Nat.le_of_ble_eq_true rfl, Nat.le_of_ble_eq_true rfl⟩, (hts _ lk_X3_draftOf_1_2), (hts _ lk_X3_draftOf_1_3)⟩ hC hP hS (ow_q6_1) rfl rfl rfl hl.1 rfl (Nat.le_of_ble_eq_true rfl) dX3_draftOf_2 ⟨Nat.zero_le _, Nat.zero_le _⟩) hS (fun H locs hP hS => ?_)
  refine lv_if_ne (tgt := 9) hx hb dX3_draftOf_5 (by decide) (fun c_1 => ?_) (fun c_1 => ?_)
  · refine lv_iconst (v := 0) hx hb dX3_draftOf_9 (by decide) ?_
    refine lv_istore_n (lv' := [(3, .int 0), (0, .ref (ad 0 0)), (1, .ref (ad 6 1)), (2, .int x2)]) hx hb dX3_draftOf_10 rfl hl (by decide) rfl (fun ls hl => ?_)
    refine lv_iload_n hx hb dX3_draftOf_11 rfl (lv_at hl 0 rfl) ?_
    refine lv_aload_n hx hb dX3_draftOf_12 rfl (lv_at hl 2 rfl) ?_
    refine og_getN (C := RX2) (T := TX2) (N := 5) (g := 6) (i := 1) (v := .int 4) hx hb hts li_X3_draftOf_1_X2 hown hC hP (ow_q6_1) rfl rfl 1 (by decide) ln_X3_draftOf_1_4 rfl rfl dX3_draftOf_13 ?_
    refine lv_icmp_ge (tgt := 39) hx hb dX3_draftOf_16 (by decide) (fun c => absurd c (by decide)) (fun _ => ?_)
    refine lv_aload_n hx hb dX3_draftOf_19 rfl (lv_at hl 1 rfl) ?_
    refine og_get (C := RX3) (T := TX3) (N := 14) (g := 0) (i := 0) (v := .ref (ad 9 0)) hx hb hts li_X3_draftOf_1_X3 hown hC hP (ow_q0_0) rfl rfl 9 (by decide) (hts _ lk_X3_draftOf_1_7) rfl rfl dX3_draftOf_20 ?_
    refine lv_iload_n hx hb dX3_draftOf_23 rfl (lv_at hl 0 rfl) ?_
    refine lv_aload_n hx hb dX3_draftOf_24 rfl (lv_at hl 2 rfl) ?_
    refine og_getN (C := RX2) (T := TX2) (N := 5) (g := 6) (i := 1) (v := .ref (ad 7 1)) hx hb hts li_X3_draftOf_1_X2 hown hC hP (ow_q6_1) rfl rfl 3 (by decide) ln_X3_draftOf_1_8 rfl rfl dX3_draftOf_25 ?_
    refine lv_iload_n hx hb dX3_draftOf_28 rfl (lv_at hl 0 rfl) ?_
    refine og_aaldI (g := 7) (i := 1) (v := ad 8 4) hx hb hC hP ow_q7_1 rfl (by unfold vp_in; decide) rfl dX3_draftOf_29 ?_
    refine lv_iload_n hx hb dX3_draftOf_30 rfl (lv_at hl 3 rfl) ?_
    refine og_iald (g := 8) (i := 4) (j := x2.toNatClampNeg) (v := (st.1 118 x2.toNatClampNeg)) hx hb hC hP (ow_q8_4) rfl (rec_in_1 hz1 c_1) rfl rfl dX3_draftOf_31 ?_
    refine og_iast (g := 9) (i := 0) (j := 0) (v := (st.1 118 x2.toNatClampNeg)) hx hb hC hP hS (ow_q9_0) rfl (by unfold vp_in; decide) rfl (we_9_0 st 0 (st.1 118 x2.toNatClampNeg)) dX3_draftOf_32 (fun H locs hP hS => ?_)
    obtain ⟨st2, e2⟩ : ∃ z, z = (ow_si st 103 0 (st.1 118 x2.toNatClampNeg)) := ⟨_, rfl⟩
    rw [← e2] at hP
    refine lv_iinc (v := 1) (lv' := [(3, .int 1), (0, .ref (ad 0 0)), (1, .ref (ad 6 1)), (2, .int x2)]) hx hb dX3_draftOf_33 hl (k := 0) rfl (by decide) (by decide) rfl (fun ls hl => ?_)
    refine lv_goto (tgt := 11) hx hb dX3_draftOf_36 (by decide) ?_
    refine lv_iload_n hx hb dX3_draftOf_11 rfl (lv_at hl 0 rfl) ?_
    refine lv_aload_n hx hb dX3_draftOf_12 rfl (lv_at hl 2 rfl) ?_
    refine og_getN (C := RX2) (T := TX2) (N := 5) (g := 6) (i := 1) (v := .int 4) hx hb hts li_X3_draftOf_1_X2 hown hC hP (ow_q6_1) rfl rfl 1 (by decide) ln_X3_draftOf_1_4 rfl rfl dX3_draftOf_13 ?_
    refine lv_icmp_ge (tgt := 39) hx hb dX3_draftOf_16 (by decide) (fun c => absurd c (by decide)) (fun _ => ?_)
    refine lv_aload_n hx hb dX3_draftOf_19 rfl (lv_at hl 1 rfl) ?_
    refine og_get (C := RX3) (T := TX3) (N := 14) (g := 0) (i := 0) (v := .ref (ad 9 0)) hx hb hts li_X3_draftOf_1_X3 hown hC hP (ow_q0_0) rfl rfl 9 (by decide) (hts _ lk_X3_draftOf_1_7) rfl rfl dX3_draftOf_20 ?_
    refine lv_iload_n hx hb dX3_draftOf_23 rfl (lv_at hl 0 rfl) ?_
    refine lv_aload_n hx hb dX3_draftOf_24 rfl (lv_at hl 2 rfl) ?_
    refine og_getN (C := RX2) (T := TX2) (N := 5) (g := 6) (i := 1) (v := .ref (ad 7 1)) hx hb hts li_X3_draftOf_1_X2 hown hC hP (ow_q6_1) rfl rfl 3 (by decide) ln_X3_draftOf_1_8 rfl rfl dX3_draftOf_25 ?_
    refine lv_iload_n hx hb dX3_draftOf_28 rfl (lv_at hl 0 rfl) ?_
    refine og_aaldI (g := 7) (i := 1) (v := ad 8 5) hx hb hC hP ow_q7_1 rfl (by unfold vp_in; decide) rfl dX3_draftOf_29 ?_
    refine lv_iload_n hx hb dX3_draftOf_30 rfl (lv_at hl 3 rfl) ?_
    refine og_iald (g := 8) (i := 5) (j := x2.toNatClampNeg) (v := (st2.1 122 x2.toNatClampNeg)) hx hb hC hP (ow_q8_5) rfl (rec_in_1 hz1 c_1) rfl rfl dX3_draftOf_31 ?_
    refine og_iast (g := 9) (i := 0) (j := 1) (v := (st2.1 122 x2.toNatClampNeg)) hx hb hC hP hS (ow_q9_0) rfl (by unfold vp_in; decide) rfl (we_9_0 st2 1 (st2.1 122 x2.toNatClampNeg)) dX3_draftOf_32 (fun H locs hP hS => ?_)
    obtain ⟨st3, e3⟩ : ∃ z, z = (ow_si st2 103 1 (st2.1 122 x2.toNatClampNeg)) := ⟨_, rfl⟩
    rw [← e3] at hP
    refine lv_iinc (v := 2) (lv' := [(3, .int 2), (0, .ref (ad 0 0)), (1, .ref (ad 6 1)), (2, .int x2)]) hx hb dX3_draftOf_33 hl (k := 0) rfl (by decide) (by decide) rfl (fun ls hl => ?_)
    refine lv_goto (tgt := 11) hx hb dX3_draftOf_36 (by decide) ?_
    refine lv_iload_n hx hb dX3_draftOf_11 rfl (lv_at hl 0 rfl) ?_
    refine lv_aload_n hx hb dX3_draftOf_12 rfl (lv_at hl 2 rfl) ?_
    refine og_getN (C := RX2) (T := TX2) (N := 5) (g := 6) (i := 1) (v := .int 4) hx hb hts li_X3_draftOf_1_X2 hown hC hP (ow_q6_1) rfl rfl 1 (by decide) ln_X3_draftOf_1_4 rfl rfl dX3_draftOf_13 ?_
    refine lv_icmp_ge (tgt := 39) hx hb dX3_draftOf_16 (by decide) (fun c => absurd c (by decide)) (fun _ => ?_)
    refine lv_aload_n hx hb dX3_draftOf_19 rfl (lv_at hl 1 rfl) ?_
    refine og_get (C := RX3) (T := TX3) (N := 14) (g := 0) (i := 0) (v := .ref (ad 9 0)) hx hb hts li_X3_draftOf_1_X3 hown hC hP (ow_q0_0) rfl rfl 9 (by decide) (hts _ lk_X3_draftOf_1_7) rfl rfl dX3_draftOf_20 ?_
    refine lv_iload_n hx hb dX3_draftOf_23 rfl (lv_at hl 0 rfl) ?_
    refine lv_aload_n hx hb dX3_draftOf_24 rfl (lv_at hl 2 rfl) ?_
    refine og_getN (C := RX2) (T := TX2) (N := 5) (g := 6) (i := 1) (v := .ref (ad 7 1)) hx hb hts li_X3_draftOf_1_X2 hown hC hP (ow_q6_1) rfl rfl 3 (by decide) ln_X3_draftOf_1_8 rfl rfl dX3_draftOf_25 ?_
    refine lv_iload_n hx hb dX3_draftOf_28 rfl (lv_at hl 0 rfl) ?_
    refine og_aaldI (g := 7) (i := 1) (v := ad 8 6) hx hb hC hP ow_q7_1 rfl (by unfold vp_in; decide) rfl dX3_draftOf_29 ?_
    refine lv_iload_n hx hb dX3_draftOf_30 rfl (lv_at hl 3 rfl) ?_
    refine og_iald (g := 8) (i := 6) (j := x2.toNatClampNeg) (v := (st3.1 126 x2.toNatClampNeg)) hx hb hC hP (ow_q8_6) rfl (rec_in_1 hz1 c_1) rfl rfl dX3_draftOf_31 ?_
    refine og_iast (g := 9) (i := 0) (j := 2) (v := (st3.1 126 x2.toNatClampNeg)) hx hb hC hP hS (ow_q9_0) rfl (by unfold vp_in; decide) rfl (we_9_0 st3 2 (st3.1 126 x2.toNatClampNeg)) dX3_draftOf_32 (fun H locs hP hS => ?_)
    obtain ⟨st4, e4⟩ : ∃ z, z = (ow_si st3 103 2 (st3.1 126 x2.toNatClampNeg)) := ⟨_, rfl⟩
    rw [← e4] at hP
    refine lv_iinc (v := 3) (lv' := [(3, .int 3), (0, .ref (ad 0 0)), (1, .ref (ad 6 1)), (2, .int x2)]) hx hb dX3_draftOf_33 hl (k := 0) rfl (by decide) (by decide) rfl (fun ls hl => ?_)
    refine lv_goto (tgt := 11) hx hb dX3_draftOf_36 (by decide) ?_
    refine lv_iload_n hx hb dX3_draftOf_11 rfl (lv_at hl 0 rfl) ?_
    refine lv_aload_n hx hb dX3_draftOf_12 rfl (lv_at hl 2 rfl) ?_
    refine og_getN (C := RX2) (T := TX2) (N := 5) (g := 6) (i := 1) (v := .int 4) hx hb hts li_X3_draftOf_1_X2 hown hC hP (ow_q6_1) rfl rfl 1 (by decide) ln_X3_draftOf_1_4 rfl rfl dX3_draftOf_13 ?_
    refine lv_icmp_ge (tgt := 39) hx hb dX3_draftOf_16 (by decide) (fun c => absurd c (by decide)) (fun _ => ?_)
    refine lv_aload_n hx hb dX3_draftOf_19 rfl (lv_at hl 1 rfl) ?_
    refine og_get (C := RX3) (T := TX3) (N := 14) (g := 0) (i := 0) (v := .ref (ad 9 0)) hx hb hts li_X3_draftOf_1_X3 hown hC hP (ow_q0_0) rfl rfl 9 (by decide) (hts _ lk_X3_draftOf_1_7) rfl rfl dX3_draftOf_20 ?_
    refine lv_iload_n hx hb dX3_draftOf_23 rfl (lv_at hl 0 rfl) ?_
    refine lv_aload_n hx hb dX3_draftOf_24 rfl (lv_at hl 2 rfl) ?_
    refine og_getN (C := RX2) (T := TX2) (N := 5) (g := 6) (i := 1) (v := .ref (ad 7 1)) hx hb hts li_X3_draftOf_1_X2 hown hC hP (ow_q6_1) rfl rfl 3 (by decide) ln_X3_draftOf_1_8 rfl rfl dX3_draftOf_25 ?_
    refine lv_iload_n hx hb dX3_draftOf_28 rfl (lv_at hl 0 rfl) ?_
    refine og_aaldI (g := 7) (i := 1) (v := ad 8 7) hx hb hC hP ow_q7_1 rfl (by unfold vp_in; decide) rfl dX3_draftOf_29 ?_
    refine lv_iload_n hx hb dX3_draftOf_30 rfl (lv_at hl 3 rfl) ?_
    refine og_iald (g := 8) (i := 7) (j := x2.toNatClampNeg) (v := (st4.1 130 x2.toNatClampNeg)) hx hb hC hP (ow_q8_7) rfl (rec_in_1 hz1 c_1) rfl rfl dX3_draftOf_31 ?_
    refine og_iast (g := 9) (i := 0) (j := 3) (v := (st4.1 130 x2.toNatClampNeg)) hx hb hC hP hS (ow_q9_0) rfl (by unfold vp_in; decide) rfl (we_9_0 st4 3 (st4.1 130 x2.toNatClampNeg)) dX3_draftOf_32 (fun H locs hP hS => ?_)
    obtain ⟨st5, e5⟩ : ∃ z, z = (ow_si st4 103 3 (st4.1 130 x2.toNatClampNeg)) := ⟨_, rfl⟩
    rw [← e5] at hP
    refine lv_iinc (v := 4) (lv' := [(3, .int 4), (0, .ref (ad 0 0)), (1, .ref (ad 6 1)), (2, .int x2)]) hx hb dX3_draftOf_33 hl (k := 0) rfl (by decide) (by decide) rfl (fun ls hl => ?_)
    refine lv_goto (tgt := 11) hx hb dX3_draftOf_36 (by decide) ?_
    refine lv_iload_n hx hb dX3_draftOf_11 rfl (lv_at hl 0 rfl) ?_
    refine lv_aload_n hx hb dX3_draftOf_12 rfl (lv_at hl 2 rfl) ?_
    refine og_getN (C := RX2) (T := TX2) (N := 5) (g := 6) (i := 1) (v := .int 4) hx hb hts li_X3_draftOf_1_X2 hown hC hP (ow_q6_1) rfl rfl 1 (by decide) ln_X3_draftOf_1_4 rfl rfl dX3_draftOf_13 ?_
    refine lv_icmp_ge (tgt := 39) hx hb dX3_draftOf_16 (by decide) (fun _ => ?_) (fun c => absurd (by decide) c)
    exact W.vret hx hb hr (fun t ht hW => ⟨⟨st5, rfl, (by subst e5; subst e4; subst e3; subst e2; simp only [fX3_draftOf_1, if_neg c_1]), ow_Bi ht hP⟩, hS.F ht⟩) hS.2.2 dX3_draftOf_39
  · exact W.vret hx hb hr (fun t ht hW => ⟨⟨st, rfl, (by simp only [fX3_draftOf_1, if_pos c_1]), ow_Bi ht hP⟩, hS.F ht⟩) hS.2.2 dX3_draftOf_8

theorem ln_X3_putTogether_1_0 : (.fieldLinkNest RX3 173 "RecordLabels$Table" "items" "I" "RecordLabels" : Cond) ∈ ow_nest := by decide +kernel
theorem li_X3_putTogether_1_X2 : ∀ w ∈ u_ws RX2 TX2 5, w ∈ wsX3_putTogether := by decide +kernel
theorem li_X3_putTogether_1_X3 : ∀ w ∈ u_ws RX3 TX3 14, w ∈ wsX3_putTogether := by decide +kernel
theorem lk_X3_putTogether_1_3 : (.fieldLink RX3 67 "RecordLabels" "parts" "[I" : Cond) ∈ wsX3_putTogether := by decide +kernel
theorem lk_X3_putTogether_1_4 : (.fieldLink RX3 63 "RecordLabels" "draft" "[I" : Cond) ∈ wsX3_putTogether := by decide +kernel
theorem lk_X3_putTogether_1_5 : (.fieldLink RX3 70 "RecordLabels" "partsTable" "LRecordLabels$Table;" : Cond) ∈ wsX3_putTogether := by decide +kernel
theorem lk_X3_putTogether_1_6 : (.fieldLink RX3 60 "RecordLabels" "wrongRecords" "I" : Cond) ∈ wsX3_putTogether := by decide +kernel
def fX3_putTogether_1 (st : ow_St) : Int32 × ow_St := (if (fX3_wrongItem_1 st) = (-1) then (let st2 := (ow_si st 107 0 (st.1 103 0)); (let st3 := (ow_si st2 107 1 (st2.1 103 1)); (let st4 := (ow_si st3 107 2 (st3.1 103 2)); (let st5 := (ow_si st4 107 3 (st4.1 103 3)); (let st6 := (ow_sr st5 0 2); (1, st6)))))) else (let st7 := (ow_si st 0 1 ((st.1 0 1) + 1)); (((-10) - (fX3_wrongItem_1 st)), st7)))
set_option maxHeartbeats 4000000 in
set_option maxRecDepth 100000 in
theorem kX3_putTogether_1 (l : Launch) (D : va_G) (ca : Nat → ClassId) (ad : ow_Ad) (A : Nat → Prop) (st : ow_St)  : Met l yX3_putTogether wsX3_putTogether ({ frames := 3, cells := 0, slots := 0, locals := 67 }) (va_Pc [.ref (ad 0 0), .ref (ad 6 1)] (ow_W D ca ad A st)) (va_Qi (fun r st' => (r, st') = (fX3_putTogether_1 st)) (ow_B D ca ad) A) 0 0 A := by
  refine Met.ofW (cc := cX3_putTogether) (maxL := 4) (ret := (some .int)) (by decide) rfl ?_
  intro p e s m args below meth c s₁ B hml hv
  obtain ⟨rfl, hP, hC⟩ := hv
  have hx := B.exec
  have hb := B.bytes
  have hr := B.returns
  have hts := atoms_spec (ws := wsX3_putTogether) B.pre
  have hown : s.vm.findClass RX3 = some m.cls := findClass_of_methodNamed B.named
  have hlocks := B.notSynchronized
  have hS : va_S A s.heap s.heap [] := va_S.rf
  have hl := lv_entry ([.ref (ad 0 0), .ref (ad 6 1)]) (n := 4) (Nat.le_of_ble_eq_true rfl)
  rw [lg_entry_eq]
  generalize (lg_sl ([.ref (ad 0 0), .ref (ad 6 1)]) ++ List.replicate (4 - (lg_sl ([.ref (ad 0 0), .ref (ad 6 1)])).length) Slot.unset).toArray = ls at hl ⊢
  have hl : lv_has ls 4 [(0, .ref (ad 0 0)), (1, .ref (ad 6 1))] := hl
  refine lv_aload_n hx hb dX3_putTogether_0 rfl (lv_at hl 0 rfl) ?_
  refine lv_aload_n hx hb dX3_putTogether_1 rfl (lv_at hl 1 rfl) ?_
  refine og_ciP (og_runV (C := RX3) (T := TX3) (N := 14) (g := 0) (i := 0) (As := [.ref (ad 6 1)]) (rest := []) ⟨hx, hb, hml, hown, hts⟩ (kX3_wrongItem_1 l D ca ad A st) (cwV 1 hts gX3_putTogether_X3_wrongItem rfl rfl rfl (by decide +kernel) ⟨Nat.le_of_ble_eq_true rfl, Nat.le_of_ble_eq_true rfl⟩) hC hP hS (ow_q0_0) rfl rfl rfl hl.1 rfl (Nat.le_of_ble_eq_true rfl) dX3_putTogether_2 ⟨Nat.zero_le _, Nat.zero_le _⟩) hS (fun H locs hP hS => ?_)
  refine lv_istore_n (lv' := [(2, .int (fX3_wrongItem_1 st)), (0, .ref (ad 0 0)), (1, .ref (ad 6 1))]) hx hb dX3_putTogether_5 rfl hl (by decide) rfl (fun ls hl => ?_)
  refine lv_iload_n hx hb dX3_putTogether_6 rfl (lv_at hl 0 rfl) ?_
  refine lv_iconst (v := (-1)) hx hb dX3_putTogether_7 (by decide) ?_
  refine lv_icmp_eq (tgt := 26) hx hb dX3_putTogether_8 (by decide) (fun c_1 => ?_) (fun c_1 => ?_)
  · refine lv_iconst (v := 0) hx hb dX3_putTogether_26 (by decide) ?_
    refine lv_istore_n (lv' := [(3, .int 0), (2, .int (fX3_wrongItem_1 st)), (0, .ref (ad 0 0)), (1, .ref (ad 6 1))]) hx hb dX3_putTogether_27 rfl hl (by decide) rfl (fun ls hl => ?_)
    refine lv_iload_n hx hb dX3_putTogether_28 rfl (lv_at hl 0 rfl) ?_
    refine lv_aload_n hx hb dX3_putTogether_29 rfl (lv_at hl 3 rfl) ?_
    refine og_getN (C := RX2) (T := TX2) (N := 5) (g := 6) (i := 1) (v := .int 4) hx hb hts li_X3_putTogether_1_X2 hown hC hP (ow_q6_1) rfl rfl 1 (by decide) ln_X3_putTogether_1_0 rfl rfl dX3_putTogether_30 ?_
    refine lv_icmp_ge (tgt := 54) hx hb dX3_putTogether_33 (by decide) (fun c => absurd c (by decide)) (fun _ => ?_)
    refine lv_aload_n hx hb dX3_putTogether_36 rfl (lv_at hl 2 rfl) ?_
    refine og_get (C := RX3) (T := TX3) (N := 14) (g := 0) (i := 0) (v := .ref (ad 9 1)) hx hb hts li_X3_putTogether_1_X3 hown hC hP (ow_q0_0) rfl rfl 10 (by decide) (hts _ lk_X3_putTogether_1_3) rfl rfl dX3_putTogether_37 ?_
    refine lv_iload_n hx hb dX3_putTogether_40 rfl (lv_at hl 0 rfl) ?_
    refine lv_aload_n hx hb dX3_putTogether_41 rfl (lv_at hl 2 rfl) ?_
    refine og_get (C := RX3) (T := TX3) (N := 14) (g := 0) (i := 0) (v := .ref (ad 9 0)) hx hb hts li_X3_putTogether_1_X3 hown hC hP (ow_q0_0) rfl rfl 9 (by decide) (hts _ lk_X3_putTogether_1_4) rfl rfl dX3_putTogether_42 ?_
    refine lv_iload_n hx hb dX3_putTogether_45 rfl (lv_at hl 0 rfl) ?_
    refine og_iald (g := 9) (i := 0) (j := 0) (v := (st.1 103 0)) hx hb hC hP (ow_q9_0) rfl (by unfold vp_in; decide) rfl rfl dX3_putTogether_46 ?_
    refine og_iast (g := 9) (i := 1) (j := 0) (v := (st.1 103 0)) hx hb hC hP hS (ow_q9_1) rfl (by unfold vp_in; decide) rfl (we_9_1 st 0 (st.1 103 0)) dX3_putTogether_47 (fun H locs hP hS => ?_)
    obtain ⟨st2, e2⟩ : ∃ z, z = (ow_si st 107 0 (st.1 103 0)) := ⟨_, rfl⟩
    rw [← e2] at hP
    refine lv_iinc (v := 1) (lv' := [(3, .int 1), (2, .int (fX3_wrongItem_1 st)), (0, .ref (ad 0 0)), (1, .ref (ad 6 1))]) hx hb dX3_putTogether_48 hl (k := 0) rfl (by decide) (by decide) rfl (fun ls hl => ?_)
    refine lv_goto (tgt := 28) hx hb dX3_putTogether_51 (by decide) ?_
    refine lv_iload_n hx hb dX3_putTogether_28 rfl (lv_at hl 0 rfl) ?_
    refine lv_aload_n hx hb dX3_putTogether_29 rfl (lv_at hl 3 rfl) ?_
    refine og_getN (C := RX2) (T := TX2) (N := 5) (g := 6) (i := 1) (v := .int 4) hx hb hts li_X3_putTogether_1_X2 hown hC hP (ow_q6_1) rfl rfl 1 (by decide) ln_X3_putTogether_1_0 rfl rfl dX3_putTogether_30 ?_
    refine lv_icmp_ge (tgt := 54) hx hb dX3_putTogether_33 (by decide) (fun c => absurd c (by decide)) (fun _ => ?_)
    refine lv_aload_n hx hb dX3_putTogether_36 rfl (lv_at hl 2 rfl) ?_
    refine og_get (C := RX3) (T := TX3) (N := 14) (g := 0) (i := 0) (v := .ref (ad 9 1)) hx hb hts li_X3_putTogether_1_X3 hown hC hP (ow_q0_0) rfl rfl 10 (by decide) (hts _ lk_X3_putTogether_1_3) rfl rfl dX3_putTogether_37 ?_
    refine lv_iload_n hx hb dX3_putTogether_40 rfl (lv_at hl 0 rfl) ?_
    refine lv_aload_n hx hb dX3_putTogether_41 rfl (lv_at hl 2 rfl) ?_
    refine og_get (C := RX3) (T := TX3) (N := 14) (g := 0) (i := 0) (v := .ref (ad 9 0)) hx hb hts li_X3_putTogether_1_X3 hown hC hP (ow_q0_0) rfl rfl 9 (by decide) (hts _ lk_X3_putTogether_1_4) rfl rfl dX3_putTogether_42 ?_
    refine lv_iload_n hx hb dX3_putTogether_45 rfl (lv_at hl 0 rfl) ?_
    refine og_iald (g := 9) (i := 0) (j := 1) (v := (st2.1 103 1)) hx hb hC hP (ow_q9_0) rfl (by unfold vp_in; decide) rfl rfl dX3_putTogether_46 ?_
    refine og_iast (g := 9) (i := 1) (j := 1) (v := (st2.1 103 1)) hx hb hC hP hS (ow_q9_1) rfl (by unfold vp_in; decide) rfl (we_9_1 st2 1 (st2.1 103 1)) dX3_putTogether_47 (fun H locs hP hS => ?_)
    obtain ⟨st3, e3⟩ : ∃ z, z = (ow_si st2 107 1 (st2.1 103 1)) := ⟨_, rfl⟩
    rw [← e3] at hP
    refine lv_iinc (v := 2) (lv' := [(3, .int 2), (2, .int (fX3_wrongItem_1 st)), (0, .ref (ad 0 0)), (1, .ref (ad 6 1))]) hx hb dX3_putTogether_48 hl (k := 0) rfl (by decide) (by decide) rfl (fun ls hl => ?_)
    refine lv_goto (tgt := 28) hx hb dX3_putTogether_51 (by decide) ?_
    refine lv_iload_n hx hb dX3_putTogether_28 rfl (lv_at hl 0 rfl) ?_
    refine lv_aload_n hx hb dX3_putTogether_29 rfl (lv_at hl 3 rfl) ?_
    refine og_getN (C := RX2) (T := TX2) (N := 5) (g := 6) (i := 1) (v := .int 4) hx hb hts li_X3_putTogether_1_X2 hown hC hP (ow_q6_1) rfl rfl 1 (by decide) ln_X3_putTogether_1_0 rfl rfl dX3_putTogether_30 ?_
    refine lv_icmp_ge (tgt := 54) hx hb dX3_putTogether_33 (by decide) (fun c => absurd c (by decide)) (fun _ => ?_)
    refine lv_aload_n hx hb dX3_putTogether_36 rfl (lv_at hl 2 rfl) ?_
    refine og_get (C := RX3) (T := TX3) (N := 14) (g := 0) (i := 0) (v := .ref (ad 9 1)) hx hb hts li_X3_putTogether_1_X3 hown hC hP (ow_q0_0) rfl rfl 10 (by decide) (hts _ lk_X3_putTogether_1_3) rfl rfl dX3_putTogether_37 ?_
    refine lv_iload_n hx hb dX3_putTogether_40 rfl (lv_at hl 0 rfl) ?_
    refine lv_aload_n hx hb dX3_putTogether_41 rfl (lv_at hl 2 rfl) ?_
    refine og_get (C := RX3) (T := TX3) (N := 14) (g := 0) (i := 0) (v := .ref (ad 9 0)) hx hb hts li_X3_putTogether_1_X3 hown hC hP (ow_q0_0) rfl rfl 9 (by decide) (hts _ lk_X3_putTogether_1_4) rfl rfl dX3_putTogether_42 ?_
    refine lv_iload_n hx hb dX3_putTogether_45 rfl (lv_at hl 0 rfl) ?_
    refine og_iald (g := 9) (i := 0) (j := 2) (v := (st3.1 103 2)) hx hb hC hP (ow_q9_0) rfl (by unfold vp_in; decide) rfl rfl dX3_putTogether_46 ?_
    refine og_iast (g := 9) (i := 1) (j := 2) (v := (st3.1 103 2)) hx hb hC hP hS (ow_q9_1) rfl (by unfold vp_in; decide) rfl (we_9_1 st3 2 (st3.1 103 2)) dX3_putTogether_47 (fun H locs hP hS => ?_)
    obtain ⟨st4, e4⟩ : ∃ z, z = (ow_si st3 107 2 (st3.1 103 2)) := ⟨_, rfl⟩
    rw [← e4] at hP
    refine lv_iinc (v := 3) (lv' := [(3, .int 3), (2, .int (fX3_wrongItem_1 st)), (0, .ref (ad 0 0)), (1, .ref (ad 6 1))]) hx hb dX3_putTogether_48 hl (k := 0) rfl (by decide) (by decide) rfl (fun ls hl => ?_)
    refine lv_goto (tgt := 28) hx hb dX3_putTogether_51 (by decide) ?_
    refine lv_iload_n hx hb dX3_putTogether_28 rfl (lv_at hl 0 rfl) ?_
    refine lv_aload_n hx hb dX3_putTogether_29 rfl (lv_at hl 3 rfl) ?_
    refine og_getN (C := RX2) (T := TX2) (N := 5) (g := 6) (i := 1) (v := .int 4) hx hb hts li_X3_putTogether_1_X2 hown hC hP (ow_q6_1) rfl rfl 1 (by decide) ln_X3_putTogether_1_0 rfl rfl dX3_putTogether_30 ?_
    refine lv_icmp_ge (tgt := 54) hx hb dX3_putTogether_33 (by decide) (fun c => absurd c (by decide)) (fun _ => ?_)
    refine lv_aload_n hx hb dX3_putTogether_36 rfl (lv_at hl 2 rfl) ?_
    refine og_get (C := RX3) (T := TX3) (N := 14) (g := 0) (i := 0) (v := .ref (ad 9 1)) hx hb hts li_X3_putTogether_1_X3 hown hC hP (ow_q0_0) rfl rfl 10 (by decide) (hts _ lk_X3_putTogether_1_3) rfl rfl dX3_putTogether_37 ?_
    refine lv_iload_n hx hb dX3_putTogether_40 rfl (lv_at hl 0 rfl) ?_
    refine lv_aload_n hx hb dX3_putTogether_41 rfl (lv_at hl 2 rfl) ?_
    refine og_get (C := RX3) (T := TX3) (N := 14) (g := 0) (i := 0) (v := .ref (ad 9 0)) hx hb hts li_X3_putTogether_1_X3 hown hC hP (ow_q0_0) rfl rfl 9 (by decide) (hts _ lk_X3_putTogether_1_4) rfl rfl dX3_putTogether_42 ?_
    refine lv_iload_n hx hb dX3_putTogether_45 rfl (lv_at hl 0 rfl) ?_
    refine og_iald (g := 9) (i := 0) (j := 3) (v := (st4.1 103 3)) hx hb hC hP (ow_q9_0) rfl (by unfold vp_in; decide) rfl rfl dX3_putTogether_46 ?_
    refine og_iast (g := 9) (i := 1) (j := 3) (v := (st4.1 103 3)) hx hb hC hP hS (ow_q9_1) rfl (by unfold vp_in; decide) rfl (we_9_1 st4 3 (st4.1 103 3)) dX3_putTogether_47 (fun H locs hP hS => ?_)
    obtain ⟨st5, e5⟩ : ∃ z, z = (ow_si st4 107 3 (st4.1 103 3)) := ⟨_, rfl⟩
    rw [← e5] at hP
    refine lv_iinc (v := 4) (lv' := [(3, .int 4), (2, .int (fX3_wrongItem_1 st)), (0, .ref (ad 0 0)), (1, .ref (ad 6 1))]) hx hb dX3_putTogether_48 hl (k := 0) rfl (by decide) (by decide) rfl (fun ls hl => ?_)
    refine lv_goto (tgt := 28) hx hb dX3_putTogether_51 (by decide) ?_
    refine lv_iload_n hx hb dX3_putTogether_28 rfl (lv_at hl 0 rfl) ?_
    refine lv_aload_n hx hb dX3_putTogether_29 rfl (lv_at hl 3 rfl) ?_
    refine og_getN (C := RX2) (T := TX2) (N := 5) (g := 6) (i := 1) (v := .int 4) hx hb hts li_X3_putTogether_1_X2 hown hC hP (ow_q6_1) rfl rfl 1 (by decide) ln_X3_putTogether_1_0 rfl rfl dX3_putTogether_30 ?_
    refine lv_icmp_ge (tgt := 54) hx hb dX3_putTogether_33 (by decide) (fun _ => ?_) (fun c => absurd (by decide) c)
    refine lv_aload_n hx hb dX3_putTogether_54 rfl (lv_at hl 2 rfl) ?_
    refine lv_aload_n hx hb dX3_putTogether_55 rfl (lv_at hl 3 rfl) ?_
    refine og_put (C := RX3) (T := TX3) (N := 14) (g := 0) (i := 0) (v := .ref (ad 6 1)) (ty := .object "RecordLabels$Table") hx hb hts li_X3_putTogether_1_X3 tyX3 tyX3_ok nmX3 hown hC hP hS (ow_q0_0) rfl rfl 11 (by decide) (hts _ lk_X3_putTogether_1_5) rfl rfl (by decide +kernel) rfl rfl (Nat.le_of_ble_eq_true rfl) (we_0_p st5 1) dX3_putTogether_56 (fun H locs hP hS => ?_)
    obtain ⟨st6, e6⟩ : ∃ z, z = (ow_sr st5 0 2) := ⟨_, rfl⟩
    rw [← e6] at hP
    refine lv_iconst (v := 1) hx hb dX3_putTogether_59 (by decide) ?_
    exact W.iret (v := 1) hx hb hr (fun t ht hW => ⟨⟨1, st6, rfl, (by subst e6; subst e5; subst e4; subst e3; subst e2; simp only [fX3_putTogether_1, if_pos c_1]), ow_Bi ht hP⟩, hS.F ht⟩) hS.2.2 dX3_putTogether_60
  · refine lv_aload_n hx hb dX3_putTogether_11 rfl (lv_at hl 1 rfl) ?_
    refine lv_dup hx hb dX3_putTogether_12 rfl ?_
    refine og_get (C := RX3) (T := TX3) (N := 14) (g := 0) (i := 0) (v := .int (st.1 0 1)) hx hb hts li_X3_putTogether_1_X3 hown hC hP (ow_q0_0) rfl rfl 8 (by decide) (hts _ lk_X3_putTogether_1_6) rfl rfl dX3_putTogether_13 ?_
    refine lv_iconst (v := 1) hx hb dX3_putTogether_16 (by decide) ?_
    refine lv_iadd hx hb dX3_putTogether_17 ?_
    refine og_put (C := RX3) (T := TX3) (N := 14) (g := 0) (i := 0) (v := .int ((st.1 0 1) + 1)) (ty := .int) hx hb hts li_X3_putTogether_1_X3 tyX3 tyX3_ok nmX3 hown hC hP hS (ow_q0_0) rfl rfl 8 (by decide) (hts _ lk_X3_putTogether_1_6) rfl rfl (by decide +kernel) rfl rfl (Nat.le_of_ble_eq_true rfl) (we_0_1 st ((st.1 0 1) + 1)) dX3_putTogether_18 (fun H locs hP hS => ?_)
    obtain ⟨st7, e7⟩ : ∃ z, z = (ow_si st 0 1 ((st.1 0 1) + 1)) := ⟨_, rfl⟩
    rw [← e7] at hP
    refine lv_bipush (v := (-10)) hx hb dX3_putTogether_21 (by decide) ?_
    refine lv_iload_n hx hb dX3_putTogether_23 rfl (lv_at hl 0 rfl) ?_
    refine lv_isub hx hb dX3_putTogether_24 ?_
    exact W.iret (v := ((-10) - (fX3_wrongItem_1 st))) hx hb hr (fun t ht hW => ⟨⟨((-10) - (fX3_wrongItem_1 st)), st7, rfl, (by subst e7; simp only [fX3_putTogether_1, if_neg c_1]), ow_Bi ht hP⟩, hS.F ht⟩) hS.2.2 dX3_putTogether_25

theorem sf_fr {st : ow_St} {k i : Nat} : (fX0_startForRule st k).2.1 4 i = st.1 4 i := by
  unfold fX0_startForRule
  repeat' split
  all_goals (try simp (disch := decide) only [ow_si_ne])

theorem dr_fr_0 {st : ow_St} {x : Int32} {c i : Nat} (h : c ≠ 103) : (fX3_draftOf_0 st x).1 c i = st.1 c i := by
  unfold fX3_draftOf_0
  split
  · rfl
  · simp only [ow_si_ne h]
theorem dr_rf_0 {st : ow_St} {x : Int32} : (fX3_draftOf_0 st x).2 = st.2 := by
  unfold fX3_draftOf_0
  split
  · rfl
  · rfl
theorem pu_fr_0 {st : ow_St} {c i : Nat} (h : c ≠ 107) (h0 : c ≠ 0) : (fX3_putTogether_0 st).2.1 c i = st.1 c i := by
  unfold fX3_putTogether_0
  split
  · simp only [ow_sr_i, ow_si_ne h]
  · simp only [ow_si_ne h0]
theorem ak_fr_0 {st : ow_St} {a : Int32} {v : Int64} {i : Nat} : (fX3_askRule_0 st a v).2.1 4 i = st.1 4 i := by
  have h1 := sf_fr (st := st) (k := 0) (i := i)
  unfold fX3_askRule_0
  dsimp only
  generalize (fX0_startForRule st 0) = z at h1 ⊢
  repeat' split
  all_goals (try simp (disch := decide) only [ow_si_ne])
  all_goals exact h1


theorem dr_fr_1 {st : ow_St} {x : Int32} {c i : Nat} (h : c ≠ 103) : (fX3_draftOf_1 st x).1 c i = st.1 c i := by
  unfold fX3_draftOf_1
  split
  · rfl
  · simp only [ow_si_ne h]
theorem dr_rf_1 {st : ow_St} {x : Int32} : (fX3_draftOf_1 st x).2 = st.2 := by
  unfold fX3_draftOf_1
  split
  · rfl
  · rfl
theorem pu_fr_1 {st : ow_St} {c i : Nat} (h : c ≠ 107) (h0 : c ≠ 0) : (fX3_putTogether_1 st).2.1 c i = st.1 c i := by
  unfold fX3_putTogether_1
  split
  · simp only [ow_sr_i, ow_si_ne h]
  · simp only [ow_si_ne h0]
theorem ak_fr_1 {st : ow_St} {a : Int32} {v : Int64} {i : Nat} : (fX3_askRule_1 st a v).2.1 4 i = st.1 4 i := by
  have h1 := sf_fr (st := st) (k := 1) (i := i)
  unfold fX3_askRule_1
  dsimp only
  generalize (fX0_startForRule st 1) = z at h1 ⊢
  repeat' split
  all_goals (try simp (disch := decide) only [ow_si_ne])
  all_goals exact h1
end
section
set_option maxRecDepth 20000 in
theorem ggX3_code_X3_kindNumbered : GoodIn wsX3_code wsX3_kindNumbered := goodIn_r _ [5, 6, 7, 8, 23, 24, 25, 26, 27, 28, 29, 30, 31, 32, 33, 34, 35, 36] (by decide +kernel) (by decide +kernel)
set_option maxRecDepth 20000 in
theorem gX3_code_X3_kindNumbered : GoodIn wsX3_code (wsV RX3 82 RX3 yX3_kindNumbered wsX3_kindNumbered) := goodIn_app (goodIn_of _ (by decide +kernel)) ggX3_code_X3_kindNumbered
set_option maxRecDepth 20000 in
theorem ggX3_code_X0_constantNamed : GoodIn wsX3_code wsX0_constantNamed := goodIn_r _ [12, 13, 14, 37, 38, 39, 40, 41, 42, 43] (by decide +kernel) (by decide +kernel)
set_option maxRecDepth 20000 in
theorem gX3_code_X0_constantNamed_n86 : GoodIn wsX3_code (wsX0_constantNamed) := ggX3_code_X0_constantNamed
set_option maxRecDepth 20000 in
theorem ggX3_code_X0_codeOf : GoodIn wsX3_code wsX0_codeOf := goodIn_r _ [17, 18, 19, 20, 21, 10, 22, 13, 37, 38, 39, 40, 41, 42, 43] (by decide +kernel) (by decide +kernel)
set_option maxRecDepth 20000 in
theorem gX3_code_X0_codeOf_n90 : GoodIn wsX3_code (wsX0_codeOf) := ggX3_code_X0_codeOf
theorem dX3_code_0 : decode cX3_code 0 = .ok (.aload_n 0, 1) := by decide +kernel
theorem dX3_code_1 : decode cX3_code 1 = .ok (.iload_n 1, 1) := by decide +kernel
theorem dX3_code_2 : decode cX3_code 2 = .ok (.invokevirtual 82, 3) := by decide +kernel
theorem dX3_code_5 : decode cX3_code 5 = .ok (.astore 4, 2) := by decide +kernel
theorem dX3_code_7 : decode cX3_code 7 = .ok (.aload 4, 2) := by decide +kernel
theorem dX3_code_9 : decode cX3_code 9 = .ok (.ifnonnull 5, 3) := by decide +kernel
theorem dX3_code_12 : decode cX3_code 12 = .ok (.iconst (-1), 1) := by decide +kernel
theorem dX3_code_13 : decode cX3_code 13 = .ok (.ireturn, 1) := by decide +kernel
theorem dX3_code_14 : decode cX3_code 14 = .ok (.aload 4, 2) := by decide +kernel
theorem dX3_code_16 : decode cX3_code 16 = .ok (.lload_n 2, 1) := by decide +kernel
theorem dX3_code_17 : decode cX3_code 17 = .ok (.invokevirtual 86, 3) := by decide +kernel
theorem dX3_code_20 : decode cX3_code 20 = .ok (.istore 5, 2) := by decide +kernel
theorem dX3_code_22 : decode cX3_code 22 = .ok (.iload 5, 2) := by decide +kernel
theorem dX3_code_24 : decode cX3_code 24 = .ok (.iconst (-1), 1) := by decide +kernel
theorem dX3_code_25 : decode cX3_code 25 = .ok (.if_icmp .ne 8, 3) := by decide +kernel
theorem dX3_code_28 : decode cX3_code 28 = .ok (.bipush (-4), 2) := by decide +kernel
theorem dX3_code_30 : decode cX3_code 30 = .ok (.goto 10, 3) := by decide +kernel
theorem dX3_code_33 : decode cX3_code 33 = .ok (.aload 4, 2) := by decide +kernel
theorem dX3_code_35 : decode cX3_code 35 = .ok (.iload 5, 2) := by decide +kernel
theorem dX3_code_37 : decode cX3_code 37 = .ok (.invokevirtual 90, 3) := by decide +kernel
theorem dX3_code_40 : decode cX3_code 40 = .ok (.ireturn, 1) := by decide +kernel
set_option maxRecDepth 20000 in
theorem ggX3_name_X3_kindNumbered : GoodIn wsX3_name wsX3_kindNumbered := goodIn_r _ [5, 6, 7, 8, 21, 22, 23, 24, 25, 26, 27, 28, 29, 30, 31, 32, 33, 34] (by decide +kernel) (by decide +kernel)
set_option maxRecDepth 20000 in
theorem gX3_name_X3_kindNumbered : GoodIn wsX3_name (wsV RX3 82 RX3 yX3_kindNumbered wsX3_kindNumbered) := goodIn_app (goodIn_of _ (by decide +kernel)) ggX3_name_X3_kindNumbered
set_option maxRecDepth 20000 in
theorem ggX3_name_X0_has : GoodIn wsX3_name wsX0_has := goodIn_r _ [12, 13, 14, 15, 16, 17, 18, 19, 20] (by decide +kernel) (by decide +kernel)
set_option maxRecDepth 20000 in
theorem gX3_name_X0_has_n94 : GoodIn wsX3_name (wsX0_has) := ggX3_name_X0_has
theorem dX3_name_0 : decode cX3_name 0 = .ok (.aload_n 0, 1) := by decide +kernel
theorem dX3_name_1 : decode cX3_name 1 = .ok (.iload_n 1, 1) := by decide +kernel
theorem dX3_name_2 : decode cX3_name 2 = .ok (.invokevirtual 82, 3) := by decide +kernel
theorem dX3_name_5 : decode cX3_name 5 = .ok (.astore_n 3, 1) := by decide +kernel
theorem dX3_name_6 : decode cX3_name 6 = .ok (.aload_n 3, 1) := by decide +kernel
theorem dX3_name_7 : decode cX3_name 7 = .ok (.ifnull 11, 3) := by decide +kernel
theorem dX3_name_10 : decode cX3_name 10 = .ok (.aload_n 3, 1) := by decide +kernel
theorem dX3_name_11 : decode cX3_name 11 = .ok (.iload_n 2, 1) := by decide +kernel
theorem dX3_name_12 : decode cX3_name 12 = .ok (.invokevirtual 94, 3) := by decide +kernel
theorem dX3_name_15 : decode cX3_name 15 = .ok (.ifCond .ne 5, 3) := by decide +kernel
theorem dX3_name_18 : decode cX3_name 18 = .ok (.lconst 0, 1) := by decide +kernel
theorem dX3_name_19 : decode cX3_name 19 = .ok (.lreturn, 1) := by decide +kernel
theorem dX3_name_20 : decode cX3_name 20 = .ok (.aload_n 3, 1) := by decide +kernel
theorem dX3_name_21 : decode cX3_name 21 = .ok (.getfield 98, 3) := by decide +kernel
theorem dX3_name_24 : decode cX3_name 24 = .ok (.aload_n 3, 1) := by decide +kernel
theorem dX3_name_25 : decode cX3_name 25 = .ok (.getfield 101, 3) := by decide +kernel
theorem dX3_name_28 : decode cX3_name 28 = .ok (.iload_n 2, 1) := by decide +kernel
theorem dX3_name_29 : decode cX3_name 29 = .ok (.iaload, 1) := by decide +kernel
theorem dX3_name_30 : decode cX3_name 30 = .ok (.laload, 1) := by decide +kernel
theorem dX3_name_31 : decode cX3_name 31 = .ok (.lreturn, 1) := by decide +kernel
set_option maxRecDepth 20000 in
theorem ggX3_swap_X3_kindNumbered : GoodIn wsX3_swap wsX3_kindNumbered := goodIn_r _ [5, 6, 7, 8, 20, 21, 22, 23, 24, 25, 26, 27, 28, 29, 30, 31, 32, 33] (by decide +kernel) (by decide +kernel)
set_option maxRecDepth 20000 in
theorem gX3_swap_X3_kindNumbered : GoodIn wsX3_swap (wsV RX3 82 RX3 yX3_kindNumbered wsX3_kindNumbered) := goodIn_app (goodIn_of _ (by decide +kernel)) ggX3_swap_X3_kindNumbered
set_option maxRecDepth 20000 in
theorem ggX3_swap_X0_has : GoodIn wsX3_swap wsX0_has := goodIn_r _ [12, 13, 34, 35, 36, 37, 38, 39, 40] (by decide +kernel) (by decide +kernel)
set_option maxRecDepth 20000 in
theorem gX3_swap_X0_has_n94 : GoodIn wsX3_swap (wsX0_has) := ggX3_swap_X0_has
set_option maxRecDepth 20000 in
theorem ggX3_swap_X0_exchange : GoodIn wsX3_swap wsX0_exchange := goodIn_r _ [16, 17, 18, 19, 9, 11, 10, 12, 13, 34, 35, 36, 37, 38, 39, 40] (by decide +kernel) (by decide +kernel)
set_option maxRecDepth 20000 in
theorem gX3_swap_X0_exchange_n104 : GoodIn wsX3_swap (wsX0_exchange) := ggX3_swap_X0_exchange
theorem dX3_swap_0 : decode cX3_swap 0 = .ok (.aload_n 0, 1) := by decide +kernel
theorem dX3_swap_1 : decode cX3_swap 1 = .ok (.iload_n 1, 1) := by decide +kernel
theorem dX3_swap_2 : decode cX3_swap 2 = .ok (.invokevirtual 82, 3) := by decide +kernel
theorem dX3_swap_5 : decode cX3_swap 5 = .ok (.astore 4, 2) := by decide +kernel
theorem dX3_swap_7 : decode cX3_swap 7 = .ok (.aload 4, 2) := by decide +kernel
theorem dX3_swap_9 : decode cX3_swap 9 = .ok (.ifnull 21, 3) := by decide +kernel
theorem dX3_swap_12 : decode cX3_swap 12 = .ok (.aload 4, 2) := by decide +kernel
theorem dX3_swap_14 : decode cX3_swap 14 = .ok (.iload_n 2, 1) := by decide +kernel
theorem dX3_swap_15 : decode cX3_swap 15 = .ok (.invokevirtual 94, 3) := by decide +kernel
theorem dX3_swap_18 : decode cX3_swap 18 = .ok (.ifCond .eq 12, 3) := by decide +kernel
theorem dX3_swap_21 : decode cX3_swap 21 = .ok (.aload 4, 2) := by decide +kernel
theorem dX3_swap_23 : decode cX3_swap 23 = .ok (.iload_n 3, 1) := by decide +kernel
theorem dX3_swap_24 : decode cX3_swap 24 = .ok (.invokevirtual 94, 3) := by decide +kernel
theorem dX3_swap_27 : decode cX3_swap 27 = .ok (.ifCond .ne 5, 3) := by decide +kernel
theorem dX3_swap_30 : decode cX3_swap 30 = .ok (.iconst (-1), 1) := by decide +kernel
theorem dX3_swap_31 : decode cX3_swap 31 = .ok (.ireturn, 1) := by decide +kernel
theorem dX3_swap_32 : decode cX3_swap 32 = .ok (.aload 4, 2) := by decide +kernel
theorem dX3_swap_34 : decode cX3_swap 34 = .ok (.iload_n 2, 1) := by decide +kernel
theorem dX3_swap_35 : decode cX3_swap 35 = .ok (.iload_n 3, 1) := by decide +kernel
theorem dX3_swap_36 : decode cX3_swap 36 = .ok (.invokevirtual 104, 3) := by decide +kernel
theorem dX3_swap_39 : decode cX3_swap 39 = .ok (.iconst 1, 1) := by decide +kernel
theorem dX3_swap_40 : decode cX3_swap 40 = .ok (.ireturn, 1) := by decide +kernel
set_option maxRecDepth 20000 in
theorem ggX3_rule_X3_kindNumbered : GoodIn wsX3_rule wsX3_kindNumbered := goodIn_r _ [6, 7, 8, 9, 46, 47, 48, 49, 50, 51, 52, 53, 54, 55, 56, 57, 58, 59] (by decide +kernel) (by decide +kernel)
set_option maxRecDepth 20000 in
theorem gX3_rule_X3_kindNumbered : GoodIn wsX3_rule (wsV RX3 82 RX3 yX3_kindNumbered wsX3_kindNumbered) := goodIn_app (goodIn_of _ (by decide +kernel)) ggX3_rule_X3_kindNumbered
set_option maxRecDepth 20000 in
theorem ggX3_rule_X0_has : GoodIn wsX3_rule wsX0_has := goodIn_r _ [13, 14, 60, 61, 62, 63, 64, 65, 66] (by decide +kernel) (by decide +kernel)
set_option maxRecDepth 20000 in
theorem gX3_rule_X0_has_n94 : GoodIn wsX3_rule (wsX0_has) := ggX3_rule_X0_has
set_option maxRecDepth 20000 in
theorem ggX3_rule_X0_constantOf : GoodIn wsX3_rule wsX0_constantOf := goodIn_r _ [17, 18, 19, 10, 12, 11, 13, 14, 60, 61, 62, 63, 64, 65, 66] (by decide +kernel) (by decide +kernel)
set_option maxRecDepth 20000 in
theorem gX3_rule_X0_constantOf_n108 : GoodIn wsX3_rule (wsX0_constantOf) := ggX3_rule_X0_constantOf
set_option maxRecDepth 20000 in
theorem ggX3_rule_X3_askRule : GoodIn wsX3_rule wsX3_askRule := goodIn_r _ [23, 8, 24, 25, 11, 26, 27, 28, 29, 30, 31, 5, 32, 33, 46, 47, 48, 49, 50, 51, 52, 53, 54, 55, 56, 57, 58, 59, 60, 61, 62, 63, 64, 65, 66] (by decide +kernel) (by decide +kernel)
set_option maxRecDepth 20000 in
theorem gX3_rule_X3_askRule : GoodIn wsX3_rule (wsV RX3 111 RX3 yX3_askRule wsX3_askRule) := goodIn_app (goodIn_of _ (by decide +kernel)) ggX3_rule_X3_askRule
set_option maxRecDepth 20000 in
theorem ggX3_rule_X3_valueOf : GoodIn wsX3_rule wsX3_valueOf := goodIn_r _ [36, 37, 38, 5, 39, 40, 41, 42, 43, 44, 45, 33, 60, 61, 62, 63, 64, 65, 66] (by decide +kernel) (by decide +kernel)
set_option maxRecDepth 20000 in
theorem gX3_rule_X3_valueOf : GoodIn wsX3_rule (va_wsS RX3 115 yX3_valueOf wsX3_valueOf) := goodIn_app (goodIn_of _ (by decide +kernel)) ggX3_rule_X3_valueOf
theorem dX3_rule_0 : decode cX3_rule 0 = .ok (.aload_n 0, 1) := by decide +kernel
theorem dX3_rule_1 : decode cX3_rule 1 = .ok (.iload_n 1, 1) := by decide +kernel
theorem dX3_rule_2 : decode cX3_rule 2 = .ok (.invokevirtual 82, 3) := by decide +kernel
theorem dX3_rule_5 : decode cX3_rule 5 = .ok (.astore 5, 2) := by decide +kernel
theorem dX3_rule_7 : decode cX3_rule 7 = .ok (.aload 5, 2) := by decide +kernel
theorem dX3_rule_9 : decode cX3_rule 9 = .ok (.ifnull 12, 3) := by decide +kernel
theorem dX3_rule_12 : decode cX3_rule 12 = .ok (.aload 5, 2) := by decide +kernel
theorem dX3_rule_14 : decode cX3_rule 14 = .ok (.iload_n 2, 1) := by decide +kernel
theorem dX3_rule_15 : decode cX3_rule 15 = .ok (.invokevirtual 94, 3) := by decide +kernel
theorem dX3_rule_18 : decode cX3_rule 18 = .ok (.ifCond .ne 5, 3) := by decide +kernel
theorem dX3_rule_21 : decode cX3_rule 21 = .ok (.iconst (-1), 1) := by decide +kernel
theorem dX3_rule_22 : decode cX3_rule 22 = .ok (.ireturn, 1) := by decide +kernel
theorem dX3_rule_23 : decode cX3_rule 23 = .ok (.aload 5, 2) := by decide +kernel
theorem dX3_rule_25 : decode cX3_rule 25 = .ok (.iload_n 2, 1) := by decide +kernel
theorem dX3_rule_26 : decode cX3_rule 26 = .ok (.invokevirtual 108, 3) := by decide +kernel
theorem dX3_rule_29 : decode cX3_rule 29 = .ok (.istore 6, 2) := by decide +kernel
theorem dX3_rule_31 : decode cX3_rule 31 = .ok (.aload_n 0, 1) := by decide +kernel
theorem dX3_rule_32 : decode cX3_rule 32 = .ok (.aload 5, 2) := by decide +kernel
theorem dX3_rule_34 : decode cX3_rule 34 = .ok (.iload 6, 2) := by decide +kernel
theorem dX3_rule_36 : decode cX3_rule 36 = .ok (.lload_n 3, 1) := by decide +kernel
theorem dX3_rule_37 : decode cX3_rule 37 = .ok (.invokevirtual 111, 3) := by decide +kernel
theorem dX3_rule_40 : decode cX3_rule 40 = .ok (.istore 7, 2) := by decide +kernel
theorem dX3_rule_42 : decode cX3_rule 42 = .ok (.iload 7, 2) := by decide +kernel
theorem dX3_rule_44 : decode cX3_rule 44 = .ok (.iconst 1, 1) := by decide +kernel
theorem dX3_rule_45 : decode cX3_rule 45 = .ok (.if_icmp .ne 15, 3) := by decide +kernel
theorem dX3_rule_48 : decode cX3_rule 48 = .ok (.aload_n 0, 1) := by decide +kernel
theorem dX3_rule_49 : decode cX3_rule 49 = .ok (.aload 5, 2) := by decide +kernel
theorem dX3_rule_51 : decode cX3_rule 51 = .ok (.iload 6, 2) := by decide +kernel
theorem dX3_rule_53 : decode cX3_rule 53 = .ok (.lload_n 3, 1) := by decide +kernel
theorem dX3_rule_54 : decode cX3_rule 54 = .ok (.invokestatic 115, 3) := by decide +kernel
theorem dX3_rule_57 : decode cX3_rule 57 = .ok (.putfield 52, 3) := by decide +kernel
theorem dX3_rule_60 : decode cX3_rule 60 = .ok (.iload 7, 2) := by decide +kernel
theorem dX3_rule_62 : decode cX3_rule 62 = .ok (.ireturn, 1) := by decide +kernel
theorem dX3_result_0 : decode cX3_result 0 = .ok (.aload_n 0, 1) := by decide +kernel
theorem dX3_result_1 : decode cX3_result 1 = .ok (.getfield 52, 3) := by decide +kernel
theorem dX3_result_4 : decode cX3_result 4 = .ok (.lreturn, 1) := by decide +kernel
set_option maxRecDepth 20000 in
theorem ggX3_fail_X3_kindNumbered : GoodIn wsX3_fail wsX3_kindNumbered := goodIn_r _ [5, 6, 7, 8, 19, 20, 21, 22, 23, 24, 25, 26, 27, 28, 29, 30, 31, 32] (by decide +kernel) (by decide +kernel)
set_option maxRecDepth 20000 in
theorem gX3_fail_X3_kindNumbered : GoodIn wsX3_fail (wsV RX3 82 RX3 yX3_kindNumbered wsX3_kindNumbered) := goodIn_app (goodIn_of _ (by decide +kernel)) ggX3_fail_X3_kindNumbered
set_option maxRecDepth 20000 in
theorem ggX3_fail_X3_oneIf : GoodIn wsX3_fail wsX3_oneIf := goodIn_r _ [11] (by decide +kernel) (by decide +kernel)
set_option maxRecDepth 20000 in
theorem gX3_fail_X3_oneIf : GoodIn wsX3_fail (va_wsS RX3 126 yX3_oneIf wsX3_oneIf) := goodIn_app (goodIn_of _ (by decide +kernel)) ggX3_fail_X3_oneIf
theorem dX3_fail_0 : decode cX3_fail 0 = .ok (.aload_n 0, 1) := by decide +kernel
theorem dX3_fail_1 : decode cX3_fail 1 = .ok (.iload_n 1, 1) := by decide +kernel
theorem dX3_fail_2 : decode cX3_fail 2 = .ok (.invokevirtual 82, 3) := by decide +kernel
theorem dX3_fail_5 : decode cX3_fail 5 = .ok (.astore_n 3, 1) := by decide +kernel
theorem dX3_fail_6 : decode cX3_fail 6 = .ok (.aload_n 3, 1) := by decide +kernel
theorem dX3_fail_7 : decode cX3_fail 7 = .ok (.ifnonnull 5, 3) := by decide +kernel
theorem dX3_fail_10 : decode cX3_fail 10 = .ok (.iconst (-1), 1) := by decide +kernel
theorem dX3_fail_11 : decode cX3_fail 11 = .ok (.ireturn, 1) := by decide +kernel
theorem dX3_fail_12 : decode cX3_fail 12 = .ok (.aload_n 3, 1) := by decide +kernel
theorem dX3_fail_13 : decode cX3_fail 13 = .ok (.getfield 119, 3) := by decide +kernel
theorem dX3_fail_16 : decode cX3_fail 16 = .ok (.ifCond .eq 6, 3) := by decide +kernel
theorem dX3_fail_19 : decode cX3_fail 19 = .ok (.bipush (-3), 2) := by decide +kernel
theorem dX3_fail_21 : decode cX3_fail 21 = .ok (.ireturn, 1) := by decide +kernel
theorem dX3_fail_22 : decode cX3_fail 22 = .ok (.aload_n 3, 1) := by decide +kernel
theorem dX3_fail_23 : decode cX3_fail 23 = .ok (.getfield 122, 3) := by decide +kernel
theorem dX3_fail_26 : decode cX3_fail 26 = .ok (.invokestatic 126, 3) := by decide +kernel
theorem dX3_fail_29 : decode cX3_fail 29 = .ok (.istore 4, 2) := by decide +kernel
theorem dX3_fail_31 : decode cX3_fail 31 = .ok (.aload_n 3, 1) := by decide +kernel
theorem dX3_fail_32 : decode cX3_fail 32 = .ok (.iload_n 2, 1) := by decide +kernel
theorem dX3_fail_33 : decode cX3_fail 33 = .ok (.putfield 122, 3) := by decide +kernel
theorem dX3_fail_36 : decode cX3_fail 36 = .ok (.iload 4, 2) := by decide +kernel
theorem dX3_fail_38 : decode cX3_fail 38 = .ok (.ireturn, 1) := by decide +kernel
set_option maxRecDepth 20000 in
theorem ggX3_started_X3_kindNumbered : GoodIn wsX3_started wsX3_kindNumbered := goodIn_r _ [5, 6, 7, 8, 16, 17, 18, 19, 20, 21, 22, 23, 24, 25, 26, 27, 28, 29] (by decide +kernel) (by decide +kernel)
set_option maxRecDepth 20000 in
theorem gX3_started_X3_kindNumbered : GoodIn wsX3_started (wsV RX3 82 RX3 yX3_kindNumbered wsX3_kindNumbered) := goodIn_app (goodIn_of _ (by decide +kernel)) ggX3_started_X3_kindNumbered
theorem dX3_started_0 : decode cX3_started 0 = .ok (.aload_n 0, 1) := by decide +kernel
theorem dX3_started_1 : decode cX3_started 1 = .ok (.iload_n 1, 1) := by decide +kernel
theorem dX3_started_2 : decode cX3_started 2 = .ok (.invokevirtual 82, 3) := by decide +kernel
theorem dX3_started_5 : decode cX3_started 5 = .ok (.astore_n 2, 1) := by decide +kernel
theorem dX3_started_6 : decode cX3_started 6 = .ok (.aload_n 2, 1) := by decide +kernel
theorem dX3_started_7 : decode cX3_started 7 = .ok (.ifnonnull 7, 3) := by decide +kernel
theorem dX3_started_10 : decode cX3_started 10 = .ok (.iconst (-1), 1) := by decide +kernel
theorem dX3_started_11 : decode cX3_started 11 = .ok (.goto 7, 3) := by decide +kernel
theorem dX3_started_14 : decode cX3_started 14 = .ok (.aload_n 2, 1) := by decide +kernel
theorem dX3_started_15 : decode cX3_started 15 = .ok (.getfield 119, 3) := by decide +kernel
theorem dX3_started_18 : decode cX3_started 18 = .ok (.ireturn, 1) := by decide +kernel
set_option maxRecDepth 20000 in
theorem ggX3_clear_X3_setNumbered : GoodIn wsX3_clear wsX3_setNumbered := goodIn_r _ [5, 6, 30, 31, 32, 33, 34, 35, 36, 37, 38, 39, 40, 41, 42, 43] (by decide +kernel) (by decide +kernel)
set_option maxRecDepth 20000 in
theorem gX3_clear_X3_setNumbered : GoodIn wsX3_clear (wsV RX3 130 RX3 yX3_setNumbered wsX3_setNumbered) := goodIn_app (goodIn_of _ (by decide +kernel)) ggX3_clear_X3_setNumbered
set_option maxRecDepth 20000 in
theorem ggX3_clear_X3_kindNumbered : GoodIn wsX3_clear wsX3_kindNumbered := goodIn_r _ [10, 11, 12, 13, 30, 31, 32, 33, 34, 35, 36, 37, 38, 39, 40, 41, 42, 43] (by decide +kernel) (by decide +kernel)
set_option maxRecDepth 20000 in
theorem gX3_clear_X3_kindNumbered : GoodIn wsX3_clear (wsV RX3 82 RX3 yX3_kindNumbered wsX3_kindNumbered) := goodIn_app (goodIn_of _ (by decide +kernel)) ggX3_clear_X3_kindNumbered
set_option maxRecDepth 20000 in
theorem ggX3_clear_X1_size : GoodIn wsX3_clear wsX1_size := goodIn_r _ [17, 18, 19, 20, 21, 22, 23, 24, 25, 44, 45] (by decide +kernel) (by decide +kernel)
set_option maxRecDepth 20000 in
theorem gX3_clear_X1_size_n134 : GoodIn wsX3_clear (wsX1_size) := ggX3_clear_X1_size
set_option maxRecDepth 20000 in
theorem ggX3_clear_X1_become : GoodIn wsX3_clear wsX1_become := goodIn_r _ [28, 29, 18, 44, 45] (by decide +kernel) (by decide +kernel)
set_option maxRecDepth 20000 in
theorem gX3_clear_X1_become_n138 : GoodIn wsX3_clear (wsX1_become) := ggX3_clear_X1_become
theorem dX3_clear_0 : decode cX3_clear 0 = .ok (.aload_n 0, 1) := by decide +kernel
theorem dX3_clear_1 : decode cX3_clear 1 = .ok (.iload_n 1, 1) := by decide +kernel
theorem dX3_clear_2 : decode cX3_clear 2 = .ok (.invokevirtual 130, 3) := by decide +kernel
theorem dX3_clear_5 : decode cX3_clear 5 = .ok (.astore_n 3, 1) := by decide +kernel
theorem dX3_clear_6 : decode cX3_clear 6 = .ok (.aload_n 0, 1) := by decide +kernel
theorem dX3_clear_7 : decode cX3_clear 7 = .ok (.iload_n 2, 1) := by decide +kernel
theorem dX3_clear_8 : decode cX3_clear 8 = .ok (.invokevirtual 82, 3) := by decide +kernel
theorem dX3_clear_11 : decode cX3_clear 11 = .ok (.astore 4, 2) := by decide +kernel
theorem dX3_clear_13 : decode cX3_clear 13 = .ok (.aload_n 3, 1) := by decide +kernel
theorem dX3_clear_14 : decode cX3_clear 14 = .ok (.ifnull 8, 3) := by decide +kernel
theorem dX3_clear_17 : decode cX3_clear 17 = .ok (.aload 4, 2) := by decide +kernel
theorem dX3_clear_19 : decode cX3_clear 19 = .ok (.ifnonnull 5, 3) := by decide +kernel
theorem dX3_clear_22 : decode cX3_clear 22 = .ok (.iconst (-1), 1) := by decide +kernel
theorem dX3_clear_23 : decode cX3_clear 23 = .ok (.ireturn, 1) := by decide +kernel
theorem dX3_clear_24 : decode cX3_clear 24 = .ok (.aload_n 3, 1) := by decide +kernel
theorem dX3_clear_25 : decode cX3_clear 25 = .ok (.invokevirtual 134, 3) := by decide +kernel
theorem dX3_clear_28 : decode cX3_clear 28 = .ok (.istore 5, 2) := by decide +kernel
theorem dX3_clear_30 : decode cX3_clear 30 = .ok (.aload_n 3, 1) := by decide +kernel
theorem dX3_clear_31 : decode cX3_clear 31 = .ok (.aload 4, 2) := by decide +kernel
theorem dX3_clear_33 : decode cX3_clear 33 = .ok (.iconst 0, 1) := by decide +kernel
theorem dX3_clear_34 : decode cX3_clear 34 = .ok (.invokevirtual 138, 3) := by decide +kernel
theorem dX3_clear_37 : decode cX3_clear 37 = .ok (.iload 5, 2) := by decide +kernel
theorem dX3_clear_39 : decode cX3_clear 39 = .ok (.ireturn, 1) := by decide +kernel
set_option maxRecDepth 20000 in
theorem ggX3_put_X3_setNumbered : GoodIn wsX3_put wsX3_setNumbered := goodIn_r _ [5, 6, 28, 29, 30, 31, 32, 33, 34, 35, 36, 37, 38, 39, 40, 41] (by decide +kernel) (by decide +kernel)
set_option maxRecDepth 20000 in
theorem gX3_put_X3_setNumbered : GoodIn wsX3_put (wsV RX3 130 RX3 yX3_setNumbered wsX3_setNumbered) := goodIn_app (goodIn_of _ (by decide +kernel)) ggX3_put_X3_setNumbered
set_option maxRecDepth 20000 in
theorem ggX3_put_X0_has : GoodIn wsX3_put wsX0_has := goodIn_r _ [10, 11, 42, 43, 44, 45, 46, 47, 48] (by decide +kernel) (by decide +kernel)
set_option maxRecDepth 20000 in
theorem gX3_put_X0_has_n94 : GoodIn wsX3_put (wsX0_has) := ggX3_put_X0_has
set_option maxRecDepth 20000 in
theorem ggX3_put_X0_constantOf : GoodIn wsX3_put wsX0_constantOf := goodIn_r _ [14, 15, 16, 7, 9, 8, 10, 11, 42, 43, 44, 45, 46, 47, 48] (by decide +kernel) (by decide +kernel)
set_option maxRecDepth 20000 in
theorem gX3_put_X0_constantOf_n108 : GoodIn wsX3_put (wsX0_constantOf) := ggX3_put_X0_constantOf
set_option maxRecDepth 20000 in
theorem ggX3_put_X1_holds : GoodIn wsX3_put wsX1_holds := goodIn_r _ [20, 21, 22, 7, 8, 9, 10, 11, 26, 27, 42, 43, 44, 45, 46, 47, 48] (by decide +kernel) (by decide +kernel)
set_option maxRecDepth 20000 in
theorem gX3_put_X1_holds_n145 : GoodIn wsX3_put (wsX1_holds) := ggX3_put_X1_holds
set_option maxRecDepth 20000 in
theorem ggX3_put_X3_oneIf : GoodIn wsX3_put wsX3_oneIf := goodIn_r _ [25] (by decide +kernel) (by decide +kernel)
set_option maxRecDepth 20000 in
theorem gX3_put_X3_oneIf : GoodIn wsX3_put (va_wsS RX3 126 yX3_oneIf wsX3_oneIf) := goodIn_app (goodIn_of _ (by decide +kernel)) ggX3_put_X3_oneIf
theorem dX3_put_0 : decode cX3_put 0 = .ok (.aload_n 0, 1) := by decide +kernel
theorem dX3_put_1 : decode cX3_put 1 = .ok (.iload_n 1, 1) := by decide +kernel
theorem dX3_put_2 : decode cX3_put 2 = .ok (.invokevirtual 130, 3) := by decide +kernel
theorem dX3_put_5 : decode cX3_put 5 = .ok (.astore 4, 2) := by decide +kernel
theorem dX3_put_7 : decode cX3_put 7 = .ok (.aload 4, 2) := by decide +kernel
theorem dX3_put_9 : decode cX3_put 9 = .ok (.ifnull 15, 3) := by decide +kernel
theorem dX3_put_12 : decode cX3_put 12 = .ok (.aload 4, 2) := by decide +kernel
theorem dX3_put_14 : decode cX3_put 14 = .ok (.getfield 142, 3) := by decide +kernel
theorem dX3_put_17 : decode cX3_put 17 = .ok (.iload_n 2, 1) := by decide +kernel
theorem dX3_put_18 : decode cX3_put 18 = .ok (.invokevirtual 94, 3) := by decide +kernel
theorem dX3_put_21 : decode cX3_put 21 = .ok (.ifCond .ne 5, 3) := by decide +kernel
theorem dX3_put_24 : decode cX3_put 24 = .ok (.iconst (-1), 1) := by decide +kernel
theorem dX3_put_25 : decode cX3_put 25 = .ok (.ireturn, 1) := by decide +kernel
theorem dX3_put_26 : decode cX3_put 26 = .ok (.aload 4, 2) := by decide +kernel
theorem dX3_put_28 : decode cX3_put 28 = .ok (.getfield 142, 3) := by decide +kernel
theorem dX3_put_31 : decode cX3_put 31 = .ok (.iload_n 2, 1) := by decide +kernel
theorem dX3_put_32 : decode cX3_put 32 = .ok (.invokevirtual 108, 3) := by decide +kernel
theorem dX3_put_35 : decode cX3_put 35 = .ok (.istore 5, 2) := by decide +kernel
theorem dX3_put_37 : decode cX3_put 37 = .ok (.aload 4, 2) := by decide +kernel
theorem dX3_put_39 : decode cX3_put 39 = .ok (.iload 5, 2) := by decide +kernel
theorem dX3_put_41 : decode cX3_put 41 = .ok (.invokevirtual 145, 3) := by decide +kernel
theorem dX3_put_44 : decode cX3_put 44 = .ok (.invokestatic 126, 3) := by decide +kernel
theorem dX3_put_47 : decode cX3_put 47 = .ok (.istore 6, 2) := by decide +kernel
theorem dX3_put_49 : decode cX3_put 49 = .ok (.iconst 1, 1) := by decide +kernel
theorem dX3_put_50 : decode cX3_put 50 = .ok (.iload 5, 2) := by decide +kernel
theorem dX3_put_52 : decode cX3_put 52 = .ok (.ishl, 1) := by decide +kernel
theorem dX3_put_53 : decode cX3_put 53 = .ok (.istore 7, 2) := by decide +kernel
theorem dX3_put_55 : decode cX3_put 55 = .ok (.aload 4, 2) := by decide +kernel
theorem dX3_put_57 : decode cX3_put 57 = .ok (.iload_n 3, 1) := by decide +kernel
theorem dX3_put_58 : decode cX3_put 58 = .ok (.ifCond .eq 14, 3) := by decide +kernel
theorem dX3_put_61 : decode cX3_put 61 = .ok (.aload 4, 2) := by decide +kernel
theorem dX3_put_63 : decode cX3_put 63 = .ok (.getfield 148, 3) := by decide +kernel
theorem dX3_put_66 : decode cX3_put 66 = .ok (.iload 7, 2) := by decide +kernel
theorem dX3_put_68 : decode cX3_put 68 = .ok (.ior, 1) := by decide +kernel
theorem dX3_put_69 : decode cX3_put 69 = .ok (.goto 13, 3) := by decide +kernel
theorem dX3_put_72 : decode cX3_put 72 = .ok (.aload 4, 2) := by decide +kernel
theorem dX3_put_74 : decode cX3_put 74 = .ok (.getfield 148, 3) := by decide +kernel
theorem dX3_put_77 : decode cX3_put 77 = .ok (.iload 7, 2) := by decide +kernel
theorem dX3_put_79 : decode cX3_put 79 = .ok (.iconst (-1), 1) := by decide +kernel
theorem dX3_put_80 : decode cX3_put 80 = .ok (.ixor, 1) := by decide +kernel
theorem dX3_put_81 : decode cX3_put 81 = .ok (.iand, 1) := by decide +kernel
theorem dX3_put_82 : decode cX3_put 82 = .ok (.putfield 148, 3) := by decide +kernel
theorem dX3_put_85 : decode cX3_put 85 = .ok (.iload 6, 2) := by decide +kernel
theorem dX3_put_87 : decode cX3_put 87 = .ok (.ireturn, 1) := by decide +kernel
set_option maxRecDepth 20000 in
theorem ggX3_join_X3_setNumbered : GoodIn wsX3_join wsX3_setNumbered := goodIn_r _ [5, 6, 28, 29, 30, 31, 32, 33, 34, 35, 36, 37, 38, 39, 40, 41] (by decide +kernel) (by decide +kernel)
set_option maxRecDepth 20000 in
theorem gX3_join_X3_setNumbered : GoodIn wsX3_join (wsV RX3 130 RX3 yX3_setNumbered wsX3_setNumbered) := goodIn_app (goodIn_of _ (by decide +kernel)) ggX3_join_X3_setNumbered
set_option maxRecDepth 20000 in
theorem ggX3_join_X3_joined : GoodIn wsX3_join wsX3_joined := goodIn_r _ [9, 26, 27, 42, 43, 44, 45, 46, 47, 48] (by decide +kernel) (by decide +kernel)
set_option maxRecDepth 20000 in
theorem gX3_join_X3_joined : GoodIn wsX3_join (va_wsS RX3 151 yX3_joined wsX3_joined) := goodIn_app (goodIn_of _ (by decide +kernel)) ggX3_join_X3_joined
set_option maxRecDepth 20000 in
theorem ggX3_join_X1_become : GoodIn wsX3_join wsX1_become := goodIn_r _ [13, 14, 15, 26, 27] (by decide +kernel) (by decide +kernel)
set_option maxRecDepth 20000 in
theorem gX3_join_X1_become_n138 : GoodIn wsX3_join (wsX1_become) := ggX3_join_X1_become
set_option maxRecDepth 20000 in
theorem ggX3_join_X1_size : GoodIn wsX3_join wsX1_size := goodIn_r _ [18, 15, 19, 20, 21, 22, 23, 24, 25, 26, 27] (by decide +kernel) (by decide +kernel)
set_option maxRecDepth 20000 in
theorem gX3_join_X1_size_n134 : GoodIn wsX3_join (wsX1_size) := ggX3_join_X1_size
theorem dX3_join_0 : decode cX3_join 0 = .ok (.aload_n 0, 1) := by decide +kernel
theorem dX3_join_1 : decode cX3_join 1 = .ok (.iload_n 2, 1) := by decide +kernel
theorem dX3_join_2 : decode cX3_join 2 = .ok (.invokevirtual 130, 3) := by decide +kernel
theorem dX3_join_5 : decode cX3_join 5 = .ok (.astore 5, 2) := by decide +kernel
theorem dX3_join_7 : decode cX3_join 7 = .ok (.aload_n 0, 1) := by decide +kernel
theorem dX3_join_8 : decode cX3_join 8 = .ok (.iload_n 3, 1) := by decide +kernel
theorem dX3_join_9 : decode cX3_join 9 = .ok (.invokevirtual 130, 3) := by decide +kernel
theorem dX3_join_12 : decode cX3_join 12 = .ok (.astore 6, 2) := by decide +kernel
theorem dX3_join_14 : decode cX3_join 14 = .ok (.aload_n 0, 1) := by decide +kernel
theorem dX3_join_15 : decode cX3_join 15 = .ok (.iload 4, 2) := by decide +kernel
theorem dX3_join_17 : decode cX3_join 17 = .ok (.invokevirtual 130, 3) := by decide +kernel
theorem dX3_join_20 : decode cX3_join 20 = .ok (.astore 7, 2) := by decide +kernel
theorem dX3_join_22 : decode cX3_join 22 = .ok (.iload_n 1, 1) := by decide +kernel
theorem dX3_join_23 : decode cX3_join 23 = .ok (.ifCond .lt 23, 3) := by decide +kernel
theorem dX3_join_26 : decode cX3_join 26 = .ok (.iload_n 1, 1) := by decide +kernel
theorem dX3_join_27 : decode cX3_join 27 = .ok (.iconst 3, 1) := by decide +kernel
theorem dX3_join_28 : decode cX3_join 28 = .ok (.if_icmp .gt 18, 3) := by decide +kernel
theorem dX3_join_31 : decode cX3_join 31 = .ok (.aload 5, 2) := by decide +kernel
theorem dX3_join_33 : decode cX3_join 33 = .ok (.ifnull 13, 3) := by decide +kernel
theorem dX3_join_36 : decode cX3_join 36 = .ok (.aload 6, 2) := by decide +kernel
theorem dX3_join_38 : decode cX3_join 38 = .ok (.ifnull 8, 3) := by decide +kernel
theorem dX3_join_41 : decode cX3_join 41 = .ok (.aload 7, 2) := by decide +kernel
theorem dX3_join_43 : decode cX3_join 43 = .ok (.ifnonnull 5, 3) := by decide +kernel
theorem dX3_join_46 : decode cX3_join 46 = .ok (.iconst (-1), 1) := by decide +kernel
theorem dX3_join_47 : decode cX3_join 47 = .ok (.ireturn, 1) := by decide +kernel
theorem dX3_join_48 : decode cX3_join 48 = .ok (.iload_n 1, 1) := by decide +kernel
theorem dX3_join_49 : decode cX3_join 49 = .ok (.iconst 3, 1) := by decide +kernel
theorem dX3_join_50 : decode cX3_join 50 = .ok (.if_icmp .eq 19, 3) := by decide +kernel
theorem dX3_join_53 : decode cX3_join 53 = .ok (.aload 5, 2) := by decide +kernel
theorem dX3_join_55 : decode cX3_join 55 = .ok (.getfield 142, 3) := by decide +kernel
theorem dX3_join_58 : decode cX3_join 58 = .ok (.aload 6, 2) := by decide +kernel
theorem dX3_join_60 : decode cX3_join 60 = .ok (.getfield 142, 3) := by decide +kernel
theorem dX3_join_63 : decode cX3_join 63 = .ok (.if_acmp .eq 6, 3) := by decide +kernel
theorem dX3_join_66 : decode cX3_join 66 = .ok (.bipush (-3), 2) := by decide +kernel
theorem dX3_join_68 : decode cX3_join 68 = .ok (.ireturn, 1) := by decide +kernel
theorem dX3_join_69 : decode cX3_join 69 = .ok (.aload 7, 2) := by decide +kernel
theorem dX3_join_71 : decode cX3_join 71 = .ok (.aload 5, 2) := by decide +kernel
theorem dX3_join_73 : decode cX3_join 73 = .ok (.getfield 142, 3) := by decide +kernel
theorem dX3_join_76 : decode cX3_join 76 = .ok (.iload_n 1, 1) := by decide +kernel
theorem dX3_join_77 : decode cX3_join 77 = .ok (.aload 5, 2) := by decide +kernel
theorem dX3_join_79 : decode cX3_join 79 = .ok (.aload 6, 2) := by decide +kernel
theorem dX3_join_81 : decode cX3_join 81 = .ok (.invokestatic 151, 3) := by decide +kernel
theorem dX3_join_84 : decode cX3_join 84 = .ok (.invokevirtual 138, 3) := by decide +kernel
theorem dX3_join_87 : decode cX3_join 87 = .ok (.aload 7, 2) := by decide +kernel
theorem dX3_join_89 : decode cX3_join 89 = .ok (.invokevirtual 134, 3) := by decide +kernel
theorem dX3_join_92 : decode cX3_join 92 = .ok (.ireturn, 1) := by decide +kernel
set_option maxRecDepth 20000 in
theorem ggX3_member_X3_setNumbered : GoodIn wsX3_member wsX3_setNumbered := goodIn_r _ [5, 6, 32, 33, 34, 35, 36, 37, 38, 39, 40, 41, 42, 43, 44, 45] (by decide +kernel) (by decide +kernel)
set_option maxRecDepth 20000 in
theorem gX3_member_X3_setNumbered : GoodIn wsX3_member (wsV RX3 130 RX3 yX3_setNumbered wsX3_setNumbered) := goodIn_app (goodIn_of _ (by decide +kernel)) ggX3_member_X3_setNumbered
set_option maxRecDepth 20000 in
theorem ggX3_member_X0_constantOf : GoodIn wsX3_member wsX0_constantOf := goodIn_r _ [10, 11, 12, 13, 14, 8, 15, 16, 25, 26, 27, 28, 29, 30, 31] (by decide +kernel) (by decide +kernel)
set_option maxRecDepth 20000 in
theorem gX3_member_X0_constantOf_n108 : GoodIn wsX3_member (wsX0_constantOf) := ggX3_member_X0_constantOf
set_option maxRecDepth 20000 in
theorem ggX3_member_X1_holds : GoodIn wsX3_member wsX1_holds := goodIn_r _ [20, 21, 22, 13, 8, 14, 15, 16, 23, 24, 25, 26, 27, 28, 29, 30, 31] (by decide +kernel) (by decide +kernel)
set_option maxRecDepth 20000 in
theorem gX3_member_X1_holds_n145 : GoodIn wsX3_member (wsX1_holds) := ggX3_member_X1_holds
theorem dX3_member_0 : decode cX3_member 0 = .ok (.aload_n 0, 1) := by decide +kernel
theorem dX3_member_1 : decode cX3_member 1 = .ok (.iload_n 1, 1) := by decide +kernel
theorem dX3_member_2 : decode cX3_member 2 = .ok (.invokevirtual 130, 3) := by decide +kernel
theorem dX3_member_5 : decode cX3_member 5 = .ok (.astore_n 3, 1) := by decide +kernel
theorem dX3_member_6 : decode cX3_member 6 = .ok (.aload_n 3, 1) := by decide +kernel
theorem dX3_member_7 : decode cX3_member 7 = .ok (.ifnonnull 5, 3) := by decide +kernel
theorem dX3_member_10 : decode cX3_member 10 = .ok (.iconst (-1), 1) := by decide +kernel
theorem dX3_member_11 : decode cX3_member 11 = .ok (.ireturn, 1) := by decide +kernel
theorem dX3_member_12 : decode cX3_member 12 = .ok (.iconst 0, 1) := by decide +kernel
theorem dX3_member_13 : decode cX3_member 13 = .ok (.istore 4, 2) := by decide +kernel
theorem dX3_member_15 : decode cX3_member 15 = .ok (.iconst 0, 1) := by decide +kernel
theorem dX3_member_16 : decode cX3_member 16 = .ok (.istore 5, 2) := by decide +kernel
theorem dX3_member_18 : decode cX3_member 18 = .ok (.iload 5, 2) := by decide +kernel
theorem dX3_member_20 : decode cX3_member 20 = .ok (.aload_n 3, 1) := by decide +kernel
theorem dX3_member_21 : decode cX3_member 21 = .ok (.getfield 142, 3) := by decide +kernel
theorem dX3_member_24 : decode cX3_member 24 = .ok (.getfield 155, 3) := by decide +kernel
theorem dX3_member_27 : decode cX3_member 27 = .ok (.if_icmp .ge 37, 3) := by decide +kernel
theorem dX3_member_30 : decode cX3_member 30 = .ok (.aload_n 3, 1) := by decide +kernel
theorem dX3_member_31 : decode cX3_member 31 = .ok (.aload_n 3, 1) := by decide +kernel
theorem dX3_member_32 : decode cX3_member 32 = .ok (.getfield 142, 3) := by decide +kernel
theorem dX3_member_35 : decode cX3_member 35 = .ok (.iload 5, 2) := by decide +kernel
theorem dX3_member_37 : decode cX3_member 37 = .ok (.invokevirtual 108, 3) := by decide +kernel
theorem dX3_member_40 : decode cX3_member 40 = .ok (.invokevirtual 145, 3) := by decide +kernel
theorem dX3_member_43 : decode cX3_member 43 = .ok (.ifCond .eq 15, 3) := by decide +kernel
theorem dX3_member_46 : decode cX3_member 46 = .ok (.iload 4, 2) := by decide +kernel
theorem dX3_member_48 : decode cX3_member 48 = .ok (.iload_n 2, 1) := by decide +kernel
theorem dX3_member_49 : decode cX3_member 49 = .ok (.if_icmp .ne 6, 3) := by decide +kernel
theorem dX3_member_52 : decode cX3_member 52 = .ok (.iload 5, 2) := by decide +kernel
theorem dX3_member_54 : decode cX3_member 54 = .ok (.ireturn, 1) := by decide +kernel
theorem dX3_member_55 : decode cX3_member 55 = .ok (.iinc 4 1, 3) := by decide +kernel
theorem dX3_member_58 : decode cX3_member 58 = .ok (.iinc 5 1, 3) := by decide +kernel
theorem dX3_member_61 : decode cX3_member 61 = .ok (.goto (-43), 3) := by decide +kernel
theorem dX3_member_64 : decode cX3_member 64 = .ok (.bipush (-4), 2) := by decide +kernel
theorem dX3_member_66 : decode cX3_member 66 = .ok (.ireturn, 1) := by decide +kernel
set_option maxRecDepth 20000 in
theorem ggX3_about_X3_setNumbered : GoodIn wsX3_about wsX3_setNumbered := goodIn_r _ [5, 6, 28, 29, 30, 31, 32, 33, 34, 35, 36, 37, 38, 39, 40, 41] (by decide +kernel) (by decide +kernel)
set_option maxRecDepth 20000 in
theorem gX3_about_X3_setNumbered : GoodIn wsX3_about (wsV RX3 130 RX3 yX3_setNumbered wsX3_setNumbered) := goodIn_app (goodIn_of _ (by decide +kernel)) ggX3_about_X3_setNumbered
set_option maxRecDepth 20000 in
theorem ggX3_about_X1_size : GoodIn wsX3_about wsX1_size := goodIn_r _ [10, 11, 12, 13, 14, 15, 16, 17, 18, 19, 20] (by decide +kernel) (by decide +kernel)
set_option maxRecDepth 20000 in
theorem gX3_about_X1_size_n134 : GoodIn wsX3_about (wsX1_size) := ggX3_about_X1_size
theorem dX3_about_0 : decode cX3_about 0 = .ok (.aload_n 0, 1) := by decide +kernel
theorem dX3_about_1 : decode cX3_about 1 = .ok (.iload_n 1, 1) := by decide +kernel
theorem dX3_about_2 : decode cX3_about 2 = .ok (.invokevirtual 130, 3) := by decide +kernel
theorem dX3_about_5 : decode cX3_about 5 = .ok (.astore_n 3, 1) := by decide +kernel
theorem dX3_about_6 : decode cX3_about 6 = .ok (.aload_n 3, 1) := by decide +kernel
theorem dX3_about_7 : decode cX3_about 7 = .ok (.ifnonnull 5, 3) := by decide +kernel
theorem dX3_about_10 : decode cX3_about 10 = .ok (.iconst (-1), 1) := by decide +kernel
theorem dX3_about_11 : decode cX3_about 11 = .ok (.ireturn, 1) := by decide +kernel
theorem dX3_about_12 : decode cX3_about 12 = .ok (.iload_n 2, 1) := by decide +kernel
theorem dX3_about_13 : decode cX3_about 13 = .ok (.lookupswitch 40 #[(0, 27), (1, 32)], 27) := by decide +kernel
theorem dX3_about_40 : decode cX3_about 40 = .ok (.aload_n 3, 1) := by decide +kernel
theorem dX3_about_41 : decode cX3_about 41 = .ok (.invokevirtual 134, 3) := by decide +kernel
theorem dX3_about_44 : decode cX3_about 44 = .ok (.ireturn, 1) := by decide +kernel
theorem dX3_about_45 : decode cX3_about 45 = .ok (.aload_n 3, 1) := by decide +kernel
theorem dX3_about_46 : decode cX3_about 46 = .ok (.getfield 142, 3) := by decide +kernel
theorem dX3_about_49 : decode cX3_about 49 = .ok (.getfield 157, 3) := by decide +kernel
theorem dX3_about_52 : decode cX3_about 52 = .ok (.ireturn, 1) := by decide +kernel
theorem dX3_about_53 : decode cX3_about 53 = .ok (.iconst (-1), 1) := by decide +kernel
theorem dX3_about_54 : decode cX3_about 54 = .ok (.ireturn, 1) := by decide +kernel
set_option maxRecDepth 20000 in
theorem ggX3_record_X3_tableNumbered : GoodIn wsX3_record wsX3_tableNumbered := goodIn_r _ [6, 7, 8, 52, 53, 54, 55, 56, 57, 58, 59, 60, 61, 62, 63, 64, 65] (by decide +kernel) (by decide +kernel)
set_option maxRecDepth 20000 in
theorem gX3_record_X3_tableNumbered : GoodIn wsX3_record (wsV RX3 160 RX3 yX3_tableNumbered wsX3_tableNumbered) := goodIn_app (goodIn_of _ (by decide +kernel)) ggX3_record_X3_tableNumbered
set_option maxRecDepth 20000 in
theorem ggX3_record_X3_toCell : GoodIn wsX3_record wsX3_toCell := goodIn_r _ [12, 13, 14, 15, 5, 16, 7, 17, 18, 19, 20, 21, 22, 23, 24, 25, 26, 27, 47, 48, 49, 50, 51, 52, 53, 54, 55, 56, 57, 58, 59, 60, 61, 62, 63, 64, 65, 66, 67, 68, 69, 70, 71, 72] (by decide +kernel) (by decide +kernel)
set_option maxRecDepth 20000 in
theorem gX3_record_X3_toCell : GoodIn wsX3_record (wsV RX3 165 RX3 yX3_toCell wsX3_toCell) := goodIn_app (goodIn_of _ (by decide +kernel)) ggX3_record_X3_toCell
set_option maxRecDepth 20000 in
theorem ggX3_record_X3_putTogether : GoodIn wsX3_record wsX3_putTogether := goodIn_r _ [31, 32, 33, 1, 34, 35, 36, 37, 5, 38, 8, 39, 40, 41, 42, 7, 43, 13, 14, 15, 16, 17, 44, 45, 46, 52, 53, 54, 55, 56, 57, 58, 59, 60, 61, 62, 63, 64, 65, 47, 48, 49, 50, 51, 66, 67, 68, 69, 70, 71, 72] (by decide +kernel) (by decide +kernel)
set_option maxRecDepth 20000 in
theorem gX3_record_X3_putTogether : GoodIn wsX3_record (wsV RX3 169 RX3 yX3_putTogether wsX3_putTogether) := goodIn_app (goodIn_of _ (by decide +kernel)) ggX3_record_X3_putTogether
theorem dX3_record_0 : decode cX3_record 0 = .ok (.aload_n 0, 1) := by decide +kernel
theorem dX3_record_1 : decode cX3_record 1 = .ok (.iload_n 1, 1) := by decide +kernel
theorem dX3_record_2 : decode cX3_record 2 = .ok (.invokevirtual 160, 3) := by decide +kernel
theorem dX3_record_5 : decode cX3_record 5 = .ok (.astore 6, 2) := by decide +kernel
theorem dX3_record_7 : decode cX3_record 7 = .ok (.aload 6, 2) := by decide +kernel
theorem dX3_record_9 : decode cX3_record 9 = .ok (.ifnonnull 5, 3) := by decide +kernel
theorem dX3_record_12 : decode cX3_record 12 = .ok (.iconst (-1), 1) := by decide +kernel
theorem dX3_record_13 : decode cX3_record 13 = .ok (.ireturn, 1) := by decide +kernel
theorem dX3_record_14 : decode cX3_record 14 = .ok (.aload 6, 2) := by decide +kernel
theorem dX3_record_16 : decode cX3_record 16 = .ok (.getfield 164, 3) := by decide +kernel
theorem dX3_record_19 : decode cX3_record 19 = .ok (.bipush 30, 2) := by decide +kernel
theorem dX3_record_21 : decode cX3_record 21 = .ok (.if_icmp .lt 6, 3) := by decide +kernel
theorem dX3_record_24 : decode cX3_record 24 = .ok (.bipush (-2), 2) := by decide +kernel
theorem dX3_record_26 : decode cX3_record 26 = .ok (.ireturn, 1) := by decide +kernel
theorem dX3_record_27 : decode cX3_record 27 = .ok (.aload_n 0, 1) := by decide +kernel
theorem dX3_record_28 : decode cX3_record 28 = .ok (.getfield 63, 3) := by decide +kernel
theorem dX3_record_31 : decode cX3_record 31 = .ok (.iconst 0, 1) := by decide +kernel
theorem dX3_record_32 : decode cX3_record 32 = .ok (.aload_n 0, 1) := by decide +kernel
theorem dX3_record_33 : decode cX3_record 33 = .ok (.aload 6, 2) := by decide +kernel
theorem dX3_record_35 : decode cX3_record 35 = .ok (.iconst 0, 1) := by decide +kernel
theorem dX3_record_36 : decode cX3_record 36 = .ok (.iload_n 2, 1) := by decide +kernel
theorem dX3_record_37 : decode cX3_record 37 = .ok (.invokevirtual 165, 3) := by decide +kernel
theorem dX3_record_40 : decode cX3_record 40 = .ok (.iastore, 1) := by decide +kernel
theorem dX3_record_41 : decode cX3_record 41 = .ok (.aload_n 0, 1) := by decide +kernel
theorem dX3_record_42 : decode cX3_record 42 = .ok (.getfield 63, 3) := by decide +kernel
theorem dX3_record_45 : decode cX3_record 45 = .ok (.iconst 1, 1) := by decide +kernel
theorem dX3_record_46 : decode cX3_record 46 = .ok (.aload_n 0, 1) := by decide +kernel
theorem dX3_record_47 : decode cX3_record 47 = .ok (.aload 6, 2) := by decide +kernel
theorem dX3_record_49 : decode cX3_record 49 = .ok (.iconst 1, 1) := by decide +kernel
theorem dX3_record_50 : decode cX3_record 50 = .ok (.iload_n 3, 1) := by decide +kernel
theorem dX3_record_51 : decode cX3_record 51 = .ok (.invokevirtual 165, 3) := by decide +kernel
theorem dX3_record_54 : decode cX3_record 54 = .ok (.iastore, 1) := by decide +kernel
theorem dX3_record_55 : decode cX3_record 55 = .ok (.aload_n 0, 1) := by decide +kernel
theorem dX3_record_56 : decode cX3_record 56 = .ok (.getfield 63, 3) := by decide +kernel
theorem dX3_record_59 : decode cX3_record 59 = .ok (.iconst 2, 1) := by decide +kernel
theorem dX3_record_60 : decode cX3_record 60 = .ok (.aload_n 0, 1) := by decide +kernel
theorem dX3_record_61 : decode cX3_record 61 = .ok (.aload 6, 2) := by decide +kernel
theorem dX3_record_63 : decode cX3_record 63 = .ok (.iconst 2, 1) := by decide +kernel
theorem dX3_record_64 : decode cX3_record 64 = .ok (.iload 4, 2) := by decide +kernel
theorem dX3_record_66 : decode cX3_record 66 = .ok (.invokevirtual 165, 3) := by decide +kernel
theorem dX3_record_69 : decode cX3_record 69 = .ok (.iastore, 1) := by decide +kernel
theorem dX3_record_70 : decode cX3_record 70 = .ok (.aload_n 0, 1) := by decide +kernel
theorem dX3_record_71 : decode cX3_record 71 = .ok (.getfield 63, 3) := by decide +kernel
theorem dX3_record_74 : decode cX3_record 74 = .ok (.iconst 3, 1) := by decide +kernel
theorem dX3_record_75 : decode cX3_record 75 = .ok (.aload_n 0, 1) := by decide +kernel
theorem dX3_record_76 : decode cX3_record 76 = .ok (.aload 6, 2) := by decide +kernel
theorem dX3_record_78 : decode cX3_record 78 = .ok (.iconst 3, 1) := by decide +kernel
theorem dX3_record_79 : decode cX3_record 79 = .ok (.iload 5, 2) := by decide +kernel
theorem dX3_record_81 : decode cX3_record 81 = .ok (.invokevirtual 165, 3) := by decide +kernel
theorem dX3_record_84 : decode cX3_record 84 = .ok (.iastore, 1) := by decide +kernel
theorem dX3_record_85 : decode cX3_record 85 = .ok (.aload_n 0, 1) := by decide +kernel
theorem dX3_record_86 : decode cX3_record 86 = .ok (.aload 6, 2) := by decide +kernel
theorem dX3_record_88 : decode cX3_record 88 = .ok (.invokevirtual 169, 3) := by decide +kernel
theorem dX3_record_91 : decode cX3_record 91 = .ok (.istore 7, 2) := by decide +kernel
theorem dX3_record_93 : decode cX3_record 93 = .ok (.iload 7, 2) := by decide +kernel
theorem dX3_record_95 : decode cX3_record 95 = .ok (.iconst 1, 1) := by decide +kernel
theorem dX3_record_96 : decode cX3_record 96 = .ok (.if_icmp .eq 6, 3) := by decide +kernel
theorem dX3_record_99 : decode cX3_record 99 = .ok (.iload 7, 2) := by decide +kernel
theorem dX3_record_101 : decode cX3_record 101 = .ok (.ireturn, 1) := by decide +kernel
theorem dX3_record_102 : decode cX3_record 102 = .ok (.iconst 0, 1) := by decide +kernel
theorem dX3_record_103 : decode cX3_record 103 = .ok (.istore 8, 2) := by decide +kernel
theorem dX3_record_105 : decode cX3_record 105 = .ok (.iload 8, 2) := by decide +kernel
theorem dX3_record_107 : decode cX3_record 107 = .ok (.aload 6, 2) := by decide +kernel
theorem dX3_record_109 : decode cX3_record 109 = .ok (.getfield 173, 3) := by decide +kernel
theorem dX3_record_112 : decode cX3_record 112 = .ok (.if_icmp .ge 30, 3) := by decide +kernel
theorem dX3_record_115 : decode cX3_record 115 = .ok (.aload 6, 2) := by decide +kernel
theorem dX3_record_117 : decode cX3_record 117 = .ok (.getfield 176, 3) := by decide +kernel
theorem dX3_record_120 : decode cX3_record 120 = .ok (.iload 8, 2) := by decide +kernel
theorem dX3_record_122 : decode cX3_record 122 = .ok (.aaload, 1) := by decide +kernel
theorem dX3_record_123 : decode cX3_record 123 = .ok (.aload 6, 2) := by decide +kernel
theorem dX3_record_125 : decode cX3_record 125 = .ok (.getfield 164, 3) := by decide +kernel
theorem dX3_record_128 : decode cX3_record 128 = .ok (.aload_n 0, 1) := by decide +kernel
theorem dX3_record_129 : decode cX3_record 129 = .ok (.getfield 63, 3) := by decide +kernel
theorem dX3_record_132 : decode cX3_record 132 = .ok (.iload 8, 2) := by decide +kernel
theorem dX3_record_134 : decode cX3_record 134 = .ok (.iaload, 1) := by decide +kernel
theorem dX3_record_135 : decode cX3_record 135 = .ok (.iastore, 1) := by decide +kernel
theorem dX3_record_136 : decode cX3_record 136 = .ok (.iinc 8 1, 3) := by decide +kernel
theorem dX3_record_139 : decode cX3_record 139 = .ok (.goto (-34), 3) := by decide +kernel
theorem dX3_record_142 : decode cX3_record 142 = .ok (.aload 6, 2) := by decide +kernel
theorem dX3_record_144 : decode cX3_record 144 = .ok (.dup, 1) := by decide +kernel
theorem dX3_record_145 : decode cX3_record 145 = .ok (.getfield 164, 3) := by decide +kernel
theorem dX3_record_148 : decode cX3_record 148 = .ok (.iconst 1, 1) := by decide +kernel
theorem dX3_record_149 : decode cX3_record 149 = .ok (.iadd, 1) := by decide +kernel
theorem dX3_record_150 : decode cX3_record 150 = .ok (.putfield 164, 3) := by decide +kernel
theorem dX3_record_153 : decode cX3_record 153 = .ok (.aload 6, 2) := by decide +kernel
theorem dX3_record_155 : decode cX3_record 155 = .ok (.getfield 164, 3) := by decide +kernel
theorem dX3_record_158 : decode cX3_record 158 = .ok (.iconst 1, 1) := by decide +kernel
theorem dX3_record_159 : decode cX3_record 159 = .ok (.isub, 1) := by decide +kernel
theorem dX3_record_160 : decode cX3_record 160 = .ok (.ireturn, 1) := by decide +kernel
set_option maxRecDepth 20000 in
theorem ggX3_lay_X3_tableNumbered : GoodIn wsX3_lay wsX3_tableNumbered := goodIn_r _ [5, 6, 7, 41, 42, 43, 44, 45, 46, 47, 48, 49, 50, 51, 52, 53, 54] (by decide +kernel) (by decide +kernel)
set_option maxRecDepth 20000 in
theorem gX3_lay_X3_tableNumbered : GoodIn wsX3_lay (wsV RX3 160 RX3 yX3_tableNumbered wsX3_tableNumbered) := goodIn_app (goodIn_of _ (by decide +kernel)) ggX3_lay_X3_tableNumbered
set_option maxRecDepth 20000 in
theorem ggX3_lay_X2_hasRecord : GoodIn wsX3_lay wsX2_hasRecord := goodIn_r _ [11, 12, 36, 37, 38, 39, 40] (by decide +kernel) (by decide +kernel)
set_option maxRecDepth 20000 in
theorem gX3_lay_X2_hasRecord_n180 : GoodIn wsX3_lay (wsX2_hasRecord) := ggX3_lay_X2_hasRecord
set_option maxRecDepth 20000 in
theorem ggX3_lay_X2_hasItem : GoodIn wsX3_lay wsX2_hasItem := goodIn_r _ [15, 16, 36, 37, 38, 39, 40] (by decide +kernel) (by decide +kernel)
set_option maxRecDepth 20000 in
theorem gX3_lay_X2_hasItem_n183 : GoodIn wsX3_lay (wsX2_hasItem) := ggX3_lay_X2_hasItem
set_option maxRecDepth 20000 in
theorem ggX3_lay_X3_toCell : GoodIn wsX3_lay wsX3_toCell := goodIn_r _ [20, 21, 22, 23, 4, 24, 6, 25, 26, 27, 28, 29, 30, 31, 32, 33, 34, 35, 36, 37, 38, 39, 40, 41, 42, 43, 44, 45, 46, 47, 48, 49, 50, 51, 52, 53, 54, 55, 56, 57, 58, 59, 60, 61] (by decide +kernel) (by decide +kernel)
set_option maxRecDepth 20000 in
theorem gX3_lay_X3_toCell : GoodIn wsX3_lay (wsV RX3 165 RX3 yX3_toCell wsX3_toCell) := goodIn_app (goodIn_of _ (by decide +kernel)) ggX3_lay_X3_toCell
theorem dX3_lay_0 : decode cX3_lay 0 = .ok (.aload_n 0, 1) := by decide +kernel
theorem dX3_lay_1 : decode cX3_lay 1 = .ok (.iload_n 1, 1) := by decide +kernel
theorem dX3_lay_2 : decode cX3_lay 2 = .ok (.invokevirtual 160, 3) := by decide +kernel
theorem dX3_lay_5 : decode cX3_lay 5 = .ok (.astore 5, 2) := by decide +kernel
theorem dX3_lay_7 : decode cX3_lay 7 = .ok (.aload 5, 2) := by decide +kernel
theorem dX3_lay_9 : decode cX3_lay 9 = .ok (.ifnull 21, 3) := by decide +kernel
theorem dX3_lay_12 : decode cX3_lay 12 = .ok (.aload 5, 2) := by decide +kernel
theorem dX3_lay_14 : decode cX3_lay 14 = .ok (.iload_n 2, 1) := by decide +kernel
theorem dX3_lay_15 : decode cX3_lay 15 = .ok (.invokevirtual 180, 3) := by decide +kernel
theorem dX3_lay_18 : decode cX3_lay 18 = .ok (.ifCond .eq 12, 3) := by decide +kernel
theorem dX3_lay_21 : decode cX3_lay 21 = .ok (.aload 5, 2) := by decide +kernel
theorem dX3_lay_23 : decode cX3_lay 23 = .ok (.iload_n 3, 1) := by decide +kernel
theorem dX3_lay_24 : decode cX3_lay 24 = .ok (.invokevirtual 183, 3) := by decide +kernel
theorem dX3_lay_27 : decode cX3_lay 27 = .ok (.ifCond .ne 5, 3) := by decide +kernel
theorem dX3_lay_30 : decode cX3_lay 30 = .ok (.iconst (-1), 1) := by decide +kernel
theorem dX3_lay_31 : decode cX3_lay 31 = .ok (.ireturn, 1) := by decide +kernel
theorem dX3_lay_32 : decode cX3_lay 32 = .ok (.aload 5, 2) := by decide +kernel
theorem dX3_lay_34 : decode cX3_lay 34 = .ok (.getfield 176, 3) := by decide +kernel
theorem dX3_lay_37 : decode cX3_lay 37 = .ok (.iload_n 3, 1) := by decide +kernel
theorem dX3_lay_38 : decode cX3_lay 38 = .ok (.aaload, 1) := by decide +kernel
theorem dX3_lay_39 : decode cX3_lay 39 = .ok (.iload_n 2, 1) := by decide +kernel
theorem dX3_lay_40 : decode cX3_lay 40 = .ok (.aload_n 0, 1) := by decide +kernel
theorem dX3_lay_41 : decode cX3_lay 41 = .ok (.aload 5, 2) := by decide +kernel
theorem dX3_lay_43 : decode cX3_lay 43 = .ok (.iload_n 3, 1) := by decide +kernel
theorem dX3_lay_44 : decode cX3_lay 44 = .ok (.iload 4, 2) := by decide +kernel
theorem dX3_lay_46 : decode cX3_lay 46 = .ok (.invokevirtual 165, 3) := by decide +kernel
theorem dX3_lay_49 : decode cX3_lay 49 = .ok (.iastore, 1) := by decide +kernel
theorem dX3_lay_50 : decode cX3_lay 50 = .ok (.iconst 1, 1) := by decide +kernel
theorem dX3_lay_51 : decode cX3_lay 51 = .ok (.ireturn, 1) := by decide +kernel
set_option maxRecDepth 20000 in
theorem ggX3_cell_X3_tableNumbered : GoodIn wsX3_cell wsX3_tableNumbered := goodIn_r _ [6, 7, 8, 42, 43, 44, 45, 46, 47, 48, 49, 50, 51, 52, 53, 54, 55] (by decide +kernel) (by decide +kernel)
set_option maxRecDepth 20000 in
theorem gX3_cell_X3_tableNumbered : GoodIn wsX3_cell (wsV RX3 160 RX3 yX3_tableNumbered wsX3_tableNumbered) := goodIn_app (goodIn_of _ (by decide +kernel)) ggX3_cell_X3_tableNumbered
set_option maxRecDepth 20000 in
theorem ggX3_cell_X2_hasRecord : GoodIn wsX3_cell wsX2_hasRecord := goodIn_r _ [12, 13, 37, 38, 39, 40, 41] (by decide +kernel) (by decide +kernel)
set_option maxRecDepth 20000 in
theorem gX3_cell_X2_hasRecord_n180 : GoodIn wsX3_cell (wsX2_hasRecord) := ggX3_cell_X2_hasRecord
set_option maxRecDepth 20000 in
theorem ggX3_cell_X2_hasItem : GoodIn wsX3_cell wsX2_hasItem := goodIn_r _ [16, 17, 37, 38, 39, 40, 41] (by decide +kernel) (by decide +kernel)
set_option maxRecDepth 20000 in
theorem gX3_cell_X2_hasItem_n183 : GoodIn wsX3_cell (wsX2_hasItem) := ggX3_cell_X2_hasItem
set_option maxRecDepth 20000 in
theorem ggX3_cell_X3_fromCell : GoodIn wsX3_cell wsX3_fromCell := goodIn_r _ [21, 22, 23, 24, 5, 25, 7, 26, 27, 28, 29, 30, 31, 32, 33, 34, 35, 36, 37, 38, 39, 40, 41, 42, 43, 44, 45, 46, 47, 48, 49, 50, 51, 52, 53, 54, 55, 56, 57, 58, 59, 60, 61, 62] (by decide +kernel) (by decide +kernel)
set_option maxRecDepth 20000 in
theorem gX3_cell_X3_fromCell : GoodIn wsX3_cell (wsV RX3 187 RX3 yX3_fromCell wsX3_fromCell) := goodIn_app (goodIn_of _ (by decide +kernel)) ggX3_cell_X3_fromCell
theorem dX3_cell_0 : decode cX3_cell 0 = .ok (.aload_n 0, 1) := by decide +kernel
theorem dX3_cell_1 : decode cX3_cell 1 = .ok (.iload_n 1, 1) := by decide +kernel
theorem dX3_cell_2 : decode cX3_cell 2 = .ok (.invokevirtual 160, 3) := by decide +kernel
theorem dX3_cell_5 : decode cX3_cell 5 = .ok (.astore 4, 2) := by decide +kernel
theorem dX3_cell_7 : decode cX3_cell 7 = .ok (.aload 4, 2) := by decide +kernel
theorem dX3_cell_9 : decode cX3_cell 9 = .ok (.ifnull 21, 3) := by decide +kernel
theorem dX3_cell_12 : decode cX3_cell 12 = .ok (.aload 4, 2) := by decide +kernel
theorem dX3_cell_14 : decode cX3_cell 14 = .ok (.iload_n 2, 1) := by decide +kernel
theorem dX3_cell_15 : decode cX3_cell 15 = .ok (.invokevirtual 180, 3) := by decide +kernel
theorem dX3_cell_18 : decode cX3_cell 18 = .ok (.ifCond .eq 12, 3) := by decide +kernel
theorem dX3_cell_21 : decode cX3_cell 21 = .ok (.aload 4, 2) := by decide +kernel
theorem dX3_cell_23 : decode cX3_cell 23 = .ok (.iload_n 3, 1) := by decide +kernel
theorem dX3_cell_24 : decode cX3_cell 24 = .ok (.invokevirtual 183, 3) := by decide +kernel
theorem dX3_cell_27 : decode cX3_cell 27 = .ok (.ifCond .ne 6, 3) := by decide +kernel
theorem dX3_cell_30 : decode cX3_cell 30 = .ok (.ldc 186, 2) := by decide +kernel
theorem dX3_cell_32 : decode cX3_cell 32 = .ok (.ireturn, 1) := by decide +kernel
theorem dX3_cell_33 : decode cX3_cell 33 = .ok (.aload_n 0, 1) := by decide +kernel
theorem dX3_cell_34 : decode cX3_cell 34 = .ok (.aload 4, 2) := by decide +kernel
theorem dX3_cell_36 : decode cX3_cell 36 = .ok (.iload_n 3, 1) := by decide +kernel
theorem dX3_cell_37 : decode cX3_cell 37 = .ok (.aload 4, 2) := by decide +kernel
theorem dX3_cell_39 : decode cX3_cell 39 = .ok (.getfield 176, 3) := by decide +kernel
theorem dX3_cell_42 : decode cX3_cell 42 = .ok (.iload_n 3, 1) := by decide +kernel
theorem dX3_cell_43 : decode cX3_cell 43 = .ok (.aaload, 1) := by decide +kernel
theorem dX3_cell_44 : decode cX3_cell 44 = .ok (.iload_n 2, 1) := by decide +kernel
theorem dX3_cell_45 : decode cX3_cell 45 = .ok (.iaload, 1) := by decide +kernel
theorem dX3_cell_46 : decode cX3_cell 46 = .ok (.invokevirtual 187, 3) := by decide +kernel
theorem dX3_cell_49 : decode cX3_cell 49 = .ok (.ireturn, 1) := by decide +kernel
set_option maxRecDepth 20000 in
theorem ggX3_back_X3_tableNumbered : GoodIn wsX3_back wsX3_tableNumbered := goodIn_r _ [5, 6, 7, 42, 43, 44, 45, 46, 47, 48, 49, 50, 51, 52, 53, 54, 55] (by decide +kernel) (by decide +kernel)
set_option maxRecDepth 20000 in
theorem gX3_back_X3_tableNumbered : GoodIn wsX3_back (wsV RX3 160 RX3 yX3_tableNumbered wsX3_tableNumbered) := goodIn_app (goodIn_of _ (by decide +kernel)) ggX3_back_X3_tableNumbered
set_option maxRecDepth 20000 in
theorem ggX3_back_X2_hasRecord : GoodIn wsX3_back wsX2_hasRecord := goodIn_r _ [11, 12, 56, 57, 58, 59, 60] (by decide +kernel) (by decide +kernel)
set_option maxRecDepth 20000 in
theorem gX3_back_X2_hasRecord_n180 : GoodIn wsX3_back (wsX2_hasRecord) := ggX3_back_X2_hasRecord
set_option maxRecDepth 20000 in
theorem ggX3_back_X3_draftOf : GoodIn wsX3_back wsX3_draftOf := goodIn_r _ [16, 17, 8, 9, 10, 11, 12, 56, 57, 58, 59, 60, 42, 43, 44, 45, 46, 47, 48, 49, 50, 51, 52, 53, 54, 55] (by decide +kernel) (by decide +kernel)
set_option maxRecDepth 20000 in
theorem gX3_back_X3_draftOf : GoodIn wsX3_back (wsV RX3 190 RX3 yX3_draftOf wsX3_draftOf) := goodIn_app (goodIn_of _ (by decide +kernel)) ggX3_back_X3_draftOf
set_option maxRecDepth 20000 in
theorem ggX3_back_X3_putTogether : GoodIn wsX3_back wsX3_putTogether := goodIn_r _ [21, 22, 23, 17, 24, 25, 26, 27, 4, 28, 7, 29, 30, 31, 32, 6, 33, 34, 35, 36, 37, 38, 39, 40, 41, 42, 43, 44, 45, 46, 47, 48, 49, 50, 51, 52, 53, 54, 55, 56, 57, 58, 59, 60, 61, 62, 63, 64, 65, 66, 67] (by decide +kernel) (by decide +kernel)
set_option maxRecDepth 20000 in
theorem gX3_back_X3_putTogether : GoodIn wsX3_back (wsV RX3 169 RX3 yX3_putTogether wsX3_putTogether) := goodIn_app (goodIn_of _ (by decide +kernel)) ggX3_back_X3_putTogether
theorem dX3_back_0 : decode cX3_back 0 = .ok (.aload_n 0, 1) := by decide +kernel
theorem dX3_back_1 : decode cX3_back 1 = .ok (.iload_n 1, 1) := by decide +kernel
theorem dX3_back_2 : decode cX3_back 2 = .ok (.invokevirtual 160, 3) := by decide +kernel
theorem dX3_back_5 : decode cX3_back 5 = .ok (.astore_n 3, 1) := by decide +kernel
theorem dX3_back_6 : decode cX3_back 6 = .ok (.aload_n 3, 1) := by decide +kernel
theorem dX3_back_7 : decode cX3_back 7 = .ok (.ifnull 11, 3) := by decide +kernel
theorem dX3_back_10 : decode cX3_back 10 = .ok (.aload_n 3, 1) := by decide +kernel
theorem dX3_back_11 : decode cX3_back 11 = .ok (.iload_n 2, 1) := by decide +kernel
theorem dX3_back_12 : decode cX3_back 12 = .ok (.invokevirtual 180, 3) := by decide +kernel
theorem dX3_back_15 : decode cX3_back 15 = .ok (.ifCond .ne 5, 3) := by decide +kernel
theorem dX3_back_18 : decode cX3_back 18 = .ok (.iconst (-1), 1) := by decide +kernel
theorem dX3_back_19 : decode cX3_back 19 = .ok (.ireturn, 1) := by decide +kernel
theorem dX3_back_20 : decode cX3_back 20 = .ok (.aload_n 0, 1) := by decide +kernel
theorem dX3_back_21 : decode cX3_back 21 = .ok (.aload_n 3, 1) := by decide +kernel
theorem dX3_back_22 : decode cX3_back 22 = .ok (.iload_n 2, 1) := by decide +kernel
theorem dX3_back_23 : decode cX3_back 23 = .ok (.invokevirtual 190, 3) := by decide +kernel
theorem dX3_back_26 : decode cX3_back 26 = .ok (.aload_n 0, 1) := by decide +kernel
theorem dX3_back_27 : decode cX3_back 27 = .ok (.aload_n 3, 1) := by decide +kernel
theorem dX3_back_28 : decode cX3_back 28 = .ok (.invokevirtual 169, 3) := by decide +kernel
theorem dX3_back_31 : decode cX3_back 31 = .ok (.ireturn, 1) := by decide +kernel
set_option maxRecDepth 20000 in
theorem ggX3_part_X2_hasItem : GoodIn wsX3_part wsX2_hasItem := goodIn_r _ [6, 7, 43, 44, 45, 46, 47] (by decide +kernel) (by decide +kernel)
set_option maxRecDepth 20000 in
theorem gX3_part_X2_hasItem_n183 : GoodIn wsX3_part (wsX2_hasItem) := ggX3_part_X2_hasItem
set_option maxRecDepth 20000 in
theorem ggX3_part_X3_fromCell : GoodIn wsX3_part wsX3_fromCell := goodIn_r _ [12, 13, 14, 15, 11, 16, 17, 18, 19, 20, 21, 22, 23, 24, 25, 26, 27, 28, 43, 44, 45, 46, 47, 29, 30, 31, 32, 33, 34, 35, 36, 37, 38, 39, 40, 41, 42, 48, 49, 50, 51, 52, 53, 54] (by decide +kernel) (by decide +kernel)
set_option maxRecDepth 20000 in
theorem gX3_part_X3_fromCell : GoodIn wsX3_part (wsV RX3 187 RX3 yX3_fromCell wsX3_fromCell) := goodIn_app (goodIn_of _ (by decide +kernel)) ggX3_part_X3_fromCell
theorem dX3_part_0 : decode cX3_part 0 = .ok (.aload_n 0, 1) := by decide +kernel
theorem dX3_part_1 : decode cX3_part 1 = .ok (.getfield 70, 3) := by decide +kernel
theorem dX3_part_4 : decode cX3_part 4 = .ok (.ifnull 14, 3) := by decide +kernel
theorem dX3_part_7 : decode cX3_part 7 = .ok (.aload_n 0, 1) := by decide +kernel
theorem dX3_part_8 : decode cX3_part 8 = .ok (.getfield 70, 3) := by decide +kernel
theorem dX3_part_11 : decode cX3_part 11 = .ok (.iload_n 1, 1) := by decide +kernel
theorem dX3_part_12 : decode cX3_part 12 = .ok (.invokevirtual 183, 3) := by decide +kernel
theorem dX3_part_15 : decode cX3_part 15 = .ok (.ifCond .ne 6, 3) := by decide +kernel
theorem dX3_part_18 : decode cX3_part 18 = .ok (.bipush (-4), 2) := by decide +kernel
theorem dX3_part_20 : decode cX3_part 20 = .ok (.ireturn, 1) := by decide +kernel
theorem dX3_part_21 : decode cX3_part 21 = .ok (.aload_n 0, 1) := by decide +kernel
theorem dX3_part_22 : decode cX3_part 22 = .ok (.aload_n 0, 1) := by decide +kernel
theorem dX3_part_23 : decode cX3_part 23 = .ok (.getfield 70, 3) := by decide +kernel
theorem dX3_part_26 : decode cX3_part 26 = .ok (.iload_n 1, 1) := by decide +kernel
theorem dX3_part_27 : decode cX3_part 27 = .ok (.aload_n 0, 1) := by decide +kernel
theorem dX3_part_28 : decode cX3_part 28 = .ok (.getfield 67, 3) := by decide +kernel
theorem dX3_part_31 : decode cX3_part 31 = .ok (.iload_n 1, 1) := by decide +kernel
theorem dX3_part_32 : decode cX3_part 32 = .ok (.iaload, 1) := by decide +kernel
theorem dX3_part_33 : decode cX3_part 33 = .ok (.invokevirtual 187, 3) := by decide +kernel
theorem dX3_part_36 : decode cX3_part 36 = .ok (.ireturn, 1) := by decide +kernel
theorem dX3_found_0 : decode cX3_found 0 = .ok (.iload_n 1, 1) := by decide +kernel
theorem dX3_found_1 : decode cX3_found 1 = .ok (.ifCond .lt 20, 3) := by decide +kernel
theorem dX3_found_4 : decode cX3_found 4 = .ok (.iload_n 1, 1) := by decide +kernel
theorem dX3_found_5 : decode cX3_found 5 = .ok (.aload_n 0, 1) := by decide +kernel
theorem dX3_found_6 : decode cX3_found 6 = .ok (.getfield 76, 3) := by decide +kernel
theorem dX3_found_9 : decode cX3_found 9 = .ok (.if_icmp .ge 12, 3) := by decide +kernel
theorem dX3_found_12 : decode cX3_found 12 = .ok (.aload_n 0, 1) := by decide +kernel
theorem dX3_found_13 : decode cX3_found 13 = .ok (.getfield 73, 3) := by decide +kernel
theorem dX3_found_16 : decode cX3_found 16 = .ok (.iload_n 1, 1) := by decide +kernel
theorem dX3_found_17 : decode cX3_found 17 = .ok (.iaload, 1) := by decide +kernel
theorem dX3_found_18 : decode cX3_found 18 = .ok (.goto 5, 3) := by decide +kernel
theorem dX3_found_21 : decode cX3_found 21 = .ok (.bipush (-4), 2) := by decide +kernel
theorem dX3_found_23 : decode cX3_found 23 = .ok (.ireturn, 1) := by decide +kernel
theorem dX3_count_0 : decode cX3_count 0 = .ok (.iload_n 1, 1) := by decide +kernel
theorem dX3_count_1 : decode cX3_count 1 = .ok (.tableswitch 57 0 3 #[31, 39, 47, 52], 31) := by decide +kernel
theorem dX3_count_32 : decode cX3_count 32 = .ok (.aload_n 0, 1) := by decide +kernel
theorem dX3_count_33 : decode cX3_count 33 = .ok (.getfield 45, 3) := by decide +kernel
theorem dX3_count_36 : decode cX3_count 36 = .ok (.getfield 164, 3) := by decide +kernel
theorem dX3_count_39 : decode cX3_count 39 = .ok (.ireturn, 1) := by decide +kernel
theorem dX3_count_40 : decode cX3_count 40 = .ok (.aload_n 0, 1) := by decide +kernel
theorem dX3_count_41 : decode cX3_count 41 = .ok (.getfield 49, 3) := by decide +kernel
theorem dX3_count_44 : decode cX3_count 44 = .ok (.getfield 164, 3) := by decide +kernel
theorem dX3_count_47 : decode cX3_count 47 = .ok (.ireturn, 1) := by decide +kernel
theorem dX3_count_48 : decode cX3_count 48 = .ok (.aload_n 0, 1) := by decide +kernel
theorem dX3_count_49 : decode cX3_count 49 = .ok (.getfield 56, 3) := by decide +kernel
theorem dX3_count_52 : decode cX3_count 52 = .ok (.ireturn, 1) := by decide +kernel
theorem dX3_count_53 : decode cX3_count 53 = .ok (.aload_n 0, 1) := by decide +kernel
theorem dX3_count_54 : decode cX3_count 54 = .ok (.getfield 60, 3) := by decide +kernel
theorem dX3_count_57 : decode cX3_count 57 = .ok (.ireturn, 1) := by decide +kernel
theorem dX3_count_58 : decode cX3_count 58 = .ok (.iconst (-1), 1) := by decide +kernel
theorem dX3_count_59 : decode cX3_count 59 = .ok (.ireturn, 1) := by decide +kernel
end
section
theorem ln_X3_code_0 : (.methodLinkNest RX3 86 yX0_constantNamed "RecordLabels" : Cond) ∈ ow_nest := by decide +kernel
theorem lk_X3_code_1 : (.initialized RX0 : Cond) ∈ wsX3_code := by decide +kernel
theorem lk_X3_code_2 : (.instanceMethod yX0_constantNamed : Cond) ∈ wsX3_code := by decide +kernel
theorem lk_X3_code_3 : (.selects RX0 yX0_constantNamed yX0_constantNamed : Cond) ∈ wsX3_code := by decide +kernel
theorem ln_X3_code_4 : (.methodLinkNest RX3 90 yX0_codeOf "RecordLabels" : Cond) ∈ ow_nest := by decide +kernel
theorem lk_X3_code_5 : (.instanceMethod yX0_codeOf : Cond) ∈ wsX3_code := by decide +kernel
theorem lk_X3_code_6 : (.selects RX0 yX0_codeOf yX0_codeOf : Cond) ∈ wsX3_code := by decide +kernel
def fX3_code (st : ow_St) (x1 : Int32) (x2 : Int64) : Int32 := (if x1 = 0 then (if (fX0_constantNamed st 0 x2) = (-1) then (-4) else (fX0_codeOf st 0 (fX0_constantNamed st 0 x2))) else (if x1 = 1 then (if (fX0_constantNamed st 1 x2) = (-1) then (-4) else (fX0_codeOf st 1 (fX0_constantNamed st 1 x2))) else (if x1 = 2 then (if (fX0_constantNamed st 2 x2) = (-1) then (-4) else (fX0_codeOf st 2 (fX0_constantNamed st 2 x2))) else (-1))))
set_option maxHeartbeats 4000000 in
set_option maxRecDepth 100000 in
theorem kX3_code (l : Launch) (D : va_G) (ca : Nat → ClassId) (ad : ow_Ad) (A : Nat → Prop) (st : ow_St) (x1 : Int32) (x2 : Int64) : Met l yX3_code wsX3_code ({ frames := 2, cells := 0, slots := 0, locals := 42 }) (va_Pc [.ref (ad 0 0), .int x1, .long x2] (ow_W D ca ad A st)) (va_Qi (fun r st' => r = (fX3_code st x1 x2) ∧ st' = st) (ow_B D ca ad) A) 0 0 A := by
  refine Met.ofW (cc := cX3_code) (maxL := 6) (ret := (some .int)) (by decide) rfl ?_
  intro p e s m args below meth c s₁ B hml hv
  obtain ⟨rfl, hP, hC⟩ := hv
  have hx := B.exec
  have hb := B.bytes
  have hr := B.returns
  have hts := atoms_spec (ws := wsX3_code) B.pre
  have hown : s.vm.findClass RX3 = some m.cls := findClass_of_methodNamed B.named
  have hlocks := B.notSynchronized
  have hS : va_S A s.heap s.heap [] := va_S.rf
  have hl := lv_entry ([.ref (ad 0 0), .int x1, .long x2]) (n := 6) (Nat.le_of_ble_eq_true rfl)
  rw [lg_entry_eq]
  generalize (lg_sl ([.ref (ad 0 0), .int x1, .long x2]) ++ List.replicate (6 - (lg_sl ([.ref (ad 0 0), .int x1, .long x2])).length) Slot.unset).toArray = ls at hl ⊢
  have hl : lv_has ls 6 [(0, .ref (ad 0 0)), (1, .int x1), (2, .long x2)] := hl
  refine lv_aload_n hx hb dX3_code_0 rfl (lv_at hl 0 rfl) ?_
  refine lv_iload_n hx hb dX3_code_1 rfl (lv_at hl 1 rfl) ?_
  by_cases c_1 : x1 = 0
  · refine og_cqS (q := ad 1 0) (og_runV (C := RX3) (T := TX3) (N := 14) (g := 0) (i := 0) (As := [.int x1]) (rest := []) ⟨hx, hb, hml, hown, hts⟩ (kX3_kindNumbered l D ca ad A st x1) (cwV 1 hts gX3_code_X3_kindNumbered rfl rfl rfl (by decide +kernel) ⟨Nat.le_of_ble_eq_true rfl, Nat.le_of_ble_eq_true rfl⟩) hC hP hS (ow_q0_0) rfl rfl rfl hl.1 rfl (Nat.le_of_ble_eq_true rfl) dX3_code_2 ⟨Nat.zero_le _, Nat.zero_le _⟩) hS (by simp only [fX3_kindNumbered, if_pos c_1]) (fun H locs hP hS => ?_)
    refine lv_astore (lv' := [(4, .ref (ad 1 0)), (0, .ref (ad 0 0)), (1, .int x1), (2, .long x2)]) hx hb dX3_code_5 hl (by decide) rfl (fun ls hl => ?_)
    refine lv_aload hx hb dX3_code_7 (lv_at hl 0 rfl) ?_
    refine lv_ifnonnull (tgt := 14) hx hb dX3_code_9 (by decide) ?_
    refine lv_aload hx hb dX3_code_14 (lv_at hl 0 rfl) ?_
    refine lv_lload_n hx hb dX3_code_16 rfl (lv_at hl 3 rfl) ?_
    refine og_ciP (og_runVN (C := RX0) (T := TX0) (N := 7) (g := 1) (i := 0) (As := [.long x2]) (rest := []) ⟨hx, hb, hml, hown, hts⟩ (kX0_constantNamed l D ca ad A st 0 (by decide) x2) ⟨va_cnB 1 hts gX3_code_X0_constantNamed_n86 rfl rfl rfl (hC.2.2.1 _ ln_X3_code_0) (hts _ lk_X3_code_1) (by decide +kernel) ⟨Nat.le_of_ble_eq_true rfl, Nat.le_of_ble_eq_true rfl⟩, (hts _ lk_X3_code_2), (hts _ lk_X3_code_3)⟩ hC hP hS (ow_q1_0) rfl rfl rfl hl.1 rfl (Nat.le_of_ble_eq_true rfl) dX3_code_17 ⟨Nat.zero_le _, Nat.zero_le _⟩) hS (fun H locs hP hS => ?_)
    refine lv_istore (lv' := [(5, .int (fX0_constantNamed st 0 x2)), (4, .ref (ad 1 0)), (0, .ref (ad 0 0)), (1, .int x1), (2, .long x2)]) hx hb dX3_code_20 hl (by decide) rfl (fun ls hl => ?_)
    refine lv_iload hx hb dX3_code_22 (lv_at hl 0 rfl) ?_
    refine lv_iconst (v := (-1)) hx hb dX3_code_24 (by decide) ?_
    refine lv_icmp_ne (tgt := 33) hx hb dX3_code_25 (by decide) (fun c_2 => ?_) (fun c_2 => ?_)
    · refine lv_aload hx hb dX3_code_33 (lv_at hl 1 rfl) ?_
      refine lv_iload hx hb dX3_code_35 (lv_at hl 0 rfl) ?_
      refine og_ciP (og_runVN (C := RX0) (T := TX0) (N := 7) (g := 1) (i := 0) (As := [.int (fX0_constantNamed st 0 x2)]) (rest := []) ⟨hx, hb, hml, hown, hts⟩ (kX0_codeOf l D ca ad A st 0 (by decide) (fX0_constantNamed st 0 x2)) ⟨va_cnB 1 hts gX3_code_X0_codeOf_n90 rfl rfl rfl (hC.2.2.1 _ ln_X3_code_4) (hts _ lk_X3_code_1) (by decide +kernel) ⟨Nat.le_of_ble_eq_true rfl, Nat.le_of_ble_eq_true rfl⟩, (hts _ lk_X3_code_5), (hts _ lk_X3_code_6)⟩ hC hP hS (ow_q1_0) rfl rfl rfl hl.1 rfl (Nat.le_of_ble_eq_true rfl) dX3_code_37 ⟨Nat.zero_le _, Nat.zero_le _⟩) hS (fun H locs hP hS => ?_)
      exact W.iret (v := (fX0_codeOf st 0 (fX0_constantNamed st 0 x2))) hx hb hr (fun t ht hW => ⟨⟨(fX0_codeOf st 0 (fX0_constantNamed st 0 x2)), st, rfl, ⟨(by simp only [fX3_code, if_pos c_1, if_neg c_2]), rfl⟩, ow_Bi ht hP⟩, hS.F ht⟩) hS.2.2 dX3_code_40
    · refine lv_bipush (v := (-4)) hx hb dX3_code_28 (by decide) ?_
      refine lv_goto (tgt := 40) hx hb dX3_code_30 (by decide) ?_
      exact W.iret (v := (-4)) hx hb hr (fun t ht hW => ⟨⟨(-4), st, rfl, ⟨(by simp only [fX3_code, if_pos c_1, if_pos c_2]), rfl⟩, ow_Bi ht hP⟩, hS.F ht⟩) hS.2.2 dX3_code_40
  · by_cases c_3 : x1 = 1
    · refine og_cqS (q := ad 1 1) (og_runV (C := RX3) (T := TX3) (N := 14) (g := 0) (i := 0) (As := [.int x1]) (rest := []) ⟨hx, hb, hml, hown, hts⟩ (kX3_kindNumbered l D ca ad A st x1) (cwV 1 hts gX3_code_X3_kindNumbered rfl rfl rfl (by decide +kernel) ⟨Nat.le_of_ble_eq_true rfl, Nat.le_of_ble_eq_true rfl⟩) hC hP hS (ow_q0_0) rfl rfl rfl hl.1 rfl (Nat.le_of_ble_eq_true rfl) dX3_code_2 ⟨Nat.zero_le _, Nat.zero_le _⟩) hS (by simp only [fX3_kindNumbered, if_neg c_1, if_pos c_3]) (fun H locs hP hS => ?_)
      refine lv_astore (lv' := [(4, .ref (ad 1 1)), (0, .ref (ad 0 0)), (1, .int x1), (2, .long x2)]) hx hb dX3_code_5 hl (by decide) rfl (fun ls hl => ?_)
      refine lv_aload hx hb dX3_code_7 (lv_at hl 0 rfl) ?_
      refine lv_ifnonnull (tgt := 14) hx hb dX3_code_9 (by decide) ?_
      refine lv_aload hx hb dX3_code_14 (lv_at hl 0 rfl) ?_
      refine lv_lload_n hx hb dX3_code_16 rfl (lv_at hl 3 rfl) ?_
      refine og_ciP (og_runVN (C := RX0) (T := TX0) (N := 7) (g := 1) (i := 1) (As := [.long x2]) (rest := []) ⟨hx, hb, hml, hown, hts⟩ (kX0_constantNamed l D ca ad A st 1 (by decide) x2) ⟨va_cnB 1 hts gX3_code_X0_constantNamed_n86 rfl rfl rfl (hC.2.2.1 _ ln_X3_code_0) (hts _ lk_X3_code_1) (by decide +kernel) ⟨Nat.le_of_ble_eq_true rfl, Nat.le_of_ble_eq_true rfl⟩, (hts _ lk_X3_code_2), (hts _ lk_X3_code_3)⟩ hC hP hS (ow_q1_1) rfl rfl rfl hl.1 rfl (Nat.le_of_ble_eq_true rfl) dX3_code_17 ⟨Nat.zero_le _, Nat.zero_le _⟩) hS (fun H locs hP hS => ?_)
      refine lv_istore (lv' := [(5, .int (fX0_constantNamed st 1 x2)), (4, .ref (ad 1 1)), (0, .ref (ad 0 0)), (1, .int x1), (2, .long x2)]) hx hb dX3_code_20 hl (by decide) rfl (fun ls hl => ?_)
      refine lv_iload hx hb dX3_code_22 (lv_at hl 0 rfl) ?_
      refine lv_iconst (v := (-1)) hx hb dX3_code_24 (by decide) ?_
      refine lv_icmp_ne (tgt := 33) hx hb dX3_code_25 (by decide) (fun c_4 => ?_) (fun c_4 => ?_)
      · refine lv_aload hx hb dX3_code_33 (lv_at hl 1 rfl) ?_
        refine lv_iload hx hb dX3_code_35 (lv_at hl 0 rfl) ?_
        refine og_ciP (og_runVN (C := RX0) (T := TX0) (N := 7) (g := 1) (i := 1) (As := [.int (fX0_constantNamed st 1 x2)]) (rest := []) ⟨hx, hb, hml, hown, hts⟩ (kX0_codeOf l D ca ad A st 1 (by decide) (fX0_constantNamed st 1 x2)) ⟨va_cnB 1 hts gX3_code_X0_codeOf_n90 rfl rfl rfl (hC.2.2.1 _ ln_X3_code_4) (hts _ lk_X3_code_1) (by decide +kernel) ⟨Nat.le_of_ble_eq_true rfl, Nat.le_of_ble_eq_true rfl⟩, (hts _ lk_X3_code_5), (hts _ lk_X3_code_6)⟩ hC hP hS (ow_q1_1) rfl rfl rfl hl.1 rfl (Nat.le_of_ble_eq_true rfl) dX3_code_37 ⟨Nat.zero_le _, Nat.zero_le _⟩) hS (fun H locs hP hS => ?_)
        exact W.iret (v := (fX0_codeOf st 1 (fX0_constantNamed st 1 x2))) hx hb hr (fun t ht hW => ⟨⟨(fX0_codeOf st 1 (fX0_constantNamed st 1 x2)), st, rfl, ⟨(by simp only [fX3_code, if_neg c_1, if_pos c_3, if_neg c_4]), rfl⟩, ow_Bi ht hP⟩, hS.F ht⟩) hS.2.2 dX3_code_40
      · refine lv_bipush (v := (-4)) hx hb dX3_code_28 (by decide) ?_
        refine lv_goto (tgt := 40) hx hb dX3_code_30 (by decide) ?_
        exact W.iret (v := (-4)) hx hb hr (fun t ht hW => ⟨⟨(-4), st, rfl, ⟨(by simp only [fX3_code, if_neg c_1, if_pos c_3, if_pos c_4]), rfl⟩, ow_Bi ht hP⟩, hS.F ht⟩) hS.2.2 dX3_code_40
    · by_cases c_5 : x1 = 2
      · refine og_cqS (q := ad 1 2) (og_runV (C := RX3) (T := TX3) (N := 14) (g := 0) (i := 0) (As := [.int x1]) (rest := []) ⟨hx, hb, hml, hown, hts⟩ (kX3_kindNumbered l D ca ad A st x1) (cwV 1 hts gX3_code_X3_kindNumbered rfl rfl rfl (by decide +kernel) ⟨Nat.le_of_ble_eq_true rfl, Nat.le_of_ble_eq_true rfl⟩) hC hP hS (ow_q0_0) rfl rfl rfl hl.1 rfl (Nat.le_of_ble_eq_true rfl) dX3_code_2 ⟨Nat.zero_le _, Nat.zero_le _⟩) hS (by simp only [fX3_kindNumbered, if_neg c_1, if_neg c_3, if_pos c_5]) (fun H locs hP hS => ?_)
        refine lv_astore (lv' := [(4, .ref (ad 1 2)), (0, .ref (ad 0 0)), (1, .int x1), (2, .long x2)]) hx hb dX3_code_5 hl (by decide) rfl (fun ls hl => ?_)
        refine lv_aload hx hb dX3_code_7 (lv_at hl 0 rfl) ?_
        refine lv_ifnonnull (tgt := 14) hx hb dX3_code_9 (by decide) ?_
        refine lv_aload hx hb dX3_code_14 (lv_at hl 0 rfl) ?_
        refine lv_lload_n hx hb dX3_code_16 rfl (lv_at hl 3 rfl) ?_
        refine og_ciP (og_runVN (C := RX0) (T := TX0) (N := 7) (g := 1) (i := 2) (As := [.long x2]) (rest := []) ⟨hx, hb, hml, hown, hts⟩ (kX0_constantNamed l D ca ad A st 2 (by decide) x2) ⟨va_cnB 1 hts gX3_code_X0_constantNamed_n86 rfl rfl rfl (hC.2.2.1 _ ln_X3_code_0) (hts _ lk_X3_code_1) (by decide +kernel) ⟨Nat.le_of_ble_eq_true rfl, Nat.le_of_ble_eq_true rfl⟩, (hts _ lk_X3_code_2), (hts _ lk_X3_code_3)⟩ hC hP hS (ow_q1_2) rfl rfl rfl hl.1 rfl (Nat.le_of_ble_eq_true rfl) dX3_code_17 ⟨Nat.zero_le _, Nat.zero_le _⟩) hS (fun H locs hP hS => ?_)
        refine lv_istore (lv' := [(5, .int (fX0_constantNamed st 2 x2)), (4, .ref (ad 1 2)), (0, .ref (ad 0 0)), (1, .int x1), (2, .long x2)]) hx hb dX3_code_20 hl (by decide) rfl (fun ls hl => ?_)
        refine lv_iload hx hb dX3_code_22 (lv_at hl 0 rfl) ?_
        refine lv_iconst (v := (-1)) hx hb dX3_code_24 (by decide) ?_
        refine lv_icmp_ne (tgt := 33) hx hb dX3_code_25 (by decide) (fun c_6 => ?_) (fun c_6 => ?_)
        · refine lv_aload hx hb dX3_code_33 (lv_at hl 1 rfl) ?_
          refine lv_iload hx hb dX3_code_35 (lv_at hl 0 rfl) ?_
          refine og_ciP (og_runVN (C := RX0) (T := TX0) (N := 7) (g := 1) (i := 2) (As := [.int (fX0_constantNamed st 2 x2)]) (rest := []) ⟨hx, hb, hml, hown, hts⟩ (kX0_codeOf l D ca ad A st 2 (by decide) (fX0_constantNamed st 2 x2)) ⟨va_cnB 1 hts gX3_code_X0_codeOf_n90 rfl rfl rfl (hC.2.2.1 _ ln_X3_code_4) (hts _ lk_X3_code_1) (by decide +kernel) ⟨Nat.le_of_ble_eq_true rfl, Nat.le_of_ble_eq_true rfl⟩, (hts _ lk_X3_code_5), (hts _ lk_X3_code_6)⟩ hC hP hS (ow_q1_2) rfl rfl rfl hl.1 rfl (Nat.le_of_ble_eq_true rfl) dX3_code_37 ⟨Nat.zero_le _, Nat.zero_le _⟩) hS (fun H locs hP hS => ?_)
          exact W.iret (v := (fX0_codeOf st 2 (fX0_constantNamed st 2 x2))) hx hb hr (fun t ht hW => ⟨⟨(fX0_codeOf st 2 (fX0_constantNamed st 2 x2)), st, rfl, ⟨(by simp only [fX3_code, if_neg c_1, if_neg c_3, if_pos c_5, if_neg c_6]), rfl⟩, ow_Bi ht hP⟩, hS.F ht⟩) hS.2.2 dX3_code_40
        · refine lv_bipush (v := (-4)) hx hb dX3_code_28 (by decide) ?_
          refine lv_goto (tgt := 40) hx hb dX3_code_30 (by decide) ?_
          exact W.iret (v := (-4)) hx hb hr (fun t ht hW => ⟨⟨(-4), st, rfl, ⟨(by simp only [fX3_code, if_neg c_1, if_neg c_3, if_pos c_5, if_pos c_6]), rfl⟩, ow_Bi ht hP⟩, hS.F ht⟩) hS.2.2 dX3_code_40
      · refine og_cqN (og_runV (C := RX3) (T := TX3) (N := 14) (g := 0) (i := 0) (As := [.int x1]) (rest := []) ⟨hx, hb, hml, hown, hts⟩ (kX3_kindNumbered l D ca ad A st x1) (cwV 1 hts gX3_code_X3_kindNumbered rfl rfl rfl (by decide +kernel) ⟨Nat.le_of_ble_eq_true rfl, Nat.le_of_ble_eq_true rfl⟩) hC hP hS (ow_q0_0) rfl rfl rfl hl.1 rfl (Nat.le_of_ble_eq_true rfl) dX3_code_2 ⟨Nat.zero_le _, Nat.zero_le _⟩) hS (by simp only [fX3_kindNumbered, if_neg c_1, if_neg c_3, if_neg c_5]) (fun H locs hP hS => ?_)
        refine lv_astoreN (lv' := [(4, .null), (0, .ref (ad 0 0)), (1, .int x1), (2, .long x2)]) hx hb dX3_code_5 hl (by decide) rfl (fun ls hl => ?_)
        refine lv_aloadN hx hb dX3_code_7 (lv_at hl 0 rfl) ?_
        refine lv_ifnonnullN hx hb dX3_code_9 ?_
        refine lv_iconst (v := (-1)) hx hb dX3_code_12 (by decide) ?_
        exact W.iret (v := (-1)) hx hb hr (fun t ht hW => ⟨⟨(-1), st, rfl, ⟨(by simp only [fX3_code, if_neg c_1, if_neg c_3, if_neg c_5]), rfl⟩, ow_Bi ht hP⟩, hS.F ht⟩) hS.2.2 dX3_code_13

theorem ln_X3_name_0 : (.methodLinkNest RX3 94 yX0_has "RecordLabels" : Cond) ∈ ow_nest := by decide +kernel
theorem lk_X3_name_1 : (.initialized RX0 : Cond) ∈ wsX3_name := by decide +kernel
theorem lk_X3_name_2 : (.instanceMethod yX0_has : Cond) ∈ wsX3_name := by decide +kernel
theorem lk_X3_name_3 : (.selects RX0 yX0_has yX0_has : Cond) ∈ wsX3_name := by decide +kernel
theorem ln_X3_name_4 : (.fieldLinkNest RX3 98 "RecordLabels$Kind" "names" "[J" "RecordLabels" : Cond) ∈ ow_nest := by decide +kernel
theorem li_X3_name_X0 : ∀ w ∈ u_ws RX0 TX0 7, w ∈ wsX3_name := by decide +kernel
theorem ln_X3_name_6 : (.fieldLinkNest RX3 101 "RecordLabels$Kind" "constants" "[I" "RecordLabels" : Cond) ∈ ow_nest := by decide +kernel
def fX3_name (st : ow_St) (x1 x2 : Int32) : Int64 := (if x1 = 0 then (if (fX0_has st 0 x2) = 0 then 0 else (ow_nm 0 ((st.1 100 x2.toNatClampNeg).toNatClampNeg))) else (if x1 = 1 then (if (fX0_has st 1 x2) = 0 then 0 else (ow_nm 1 ((st.1 104 x2.toNatClampNeg).toNatClampNeg))) else (if x1 = 2 then (if (fX0_has st 2 x2) = 0 then 0 else (ow_nm 2 ((st.1 108 x2.toNatClampNeg).toNatClampNeg))) else 0)))
set_option maxHeartbeats 4000000 in
set_option maxRecDepth 100000 in
theorem kX3_name (l : Launch) (D : va_G) (ca : Nat → ClassId) (ad : ow_Ad) (A : Nat → Prop) (st : ow_St) (x1 : Int32) (x2 : Int32) (hv : iv_con st) : Met l yX3_name wsX3_name ({ frames := 1, cells := 0, slots := 0, locals := 21 }) (va_Pc [.ref (ad 0 0), .int x1, .int x2] (ow_W D ca ad A st)) (va_Ql (fun r st' => r = (fX3_name st x1 x2) ∧ st' = st) (ow_B D ca ad) A) 0 0 A := by
  refine Met.ofW (cc := cX3_name) (maxL := 4) (ret := (some .long)) (by decide) rfl ?_
  intro p e s m args below meth c s₁ B hml hv
  obtain ⟨rfl, hP, hC⟩ := hv
  have hx := B.exec
  have hb := B.bytes
  have hr := B.returns
  have hts := atoms_spec (ws := wsX3_name) B.pre
  have hown : s.vm.findClass RX3 = some m.cls := findClass_of_methodNamed B.named
  have hlocks := B.notSynchronized
  have hS : va_S A s.heap s.heap [] := va_S.rf
  have hl := lv_entry ([.ref (ad 0 0), .int x1, .int x2]) (n := 4) (Nat.le_of_ble_eq_true rfl)
  rw [lg_entry_eq]
  generalize (lg_sl ([.ref (ad 0 0), .int x1, .int x2]) ++ List.replicate (4 - (lg_sl ([.ref (ad 0 0), .int x1, .int x2])).length) Slot.unset).toArray = ls at hl ⊢
  have hl : lv_has ls 4 [(0, .ref (ad 0 0)), (1, .int x1), (2, .int x2)] := hl
  refine lv_aload_n hx hb dX3_name_0 rfl (lv_at hl 0 rfl) ?_
  refine lv_iload_n hx hb dX3_name_1 rfl (lv_at hl 1 rfl) ?_
  by_cases c_1 : x1 = 0
  · refine og_cqS (q := ad 1 0) (og_runV (C := RX3) (T := TX3) (N := 14) (g := 0) (i := 0) (As := [.int x1]) (rest := []) ⟨hx, hb, hml, hown, hts⟩ (kX3_kindNumbered l D ca ad A st x1) (cwV 1 hts gX3_name_X3_kindNumbered rfl rfl rfl (by decide +kernel) ⟨Nat.le_of_ble_eq_true rfl, Nat.le_of_ble_eq_true rfl⟩) hC hP hS (ow_q0_0) rfl rfl rfl hl.1 rfl (Nat.le_of_ble_eq_true rfl) dX3_name_2 ⟨Nat.zero_le _, Nat.zero_le _⟩) hS (by simp only [fX3_kindNumbered, if_pos c_1]) (fun H locs hP hS => ?_)
    refine lv_astore_n (lv' := [(3, .ref (ad 1 0)), (0, .ref (ad 0 0)), (1, .int x1), (2, .int x2)]) hx hb dX3_name_5 rfl hl (by decide) rfl (fun ls hl => ?_)
    refine lv_aload_n hx hb dX3_name_6 rfl (lv_at hl 0 rfl) ?_
    refine lv_ifnull hx hb dX3_name_7 ?_
    refine lv_aload_n hx hb dX3_name_10 rfl (lv_at hl 0 rfl) ?_
    refine lv_iload_n hx hb dX3_name_11 rfl (lv_at hl 3 rfl) ?_
    refine og_ciP (og_runVN (C := RX0) (T := TX0) (N := 7) (g := 1) (i := 0) (As := [.int x2]) (rest := []) ⟨hx, hb, hml, hown, hts⟩ (kX0_has l D ca ad A st 0 (by decide) x2) ⟨va_cnB 1 hts gX3_name_X0_has_n94 rfl rfl rfl (hC.2.2.1 _ ln_X3_name_0) (hts _ lk_X3_name_1) (by decide +kernel) ⟨Nat.le_of_ble_eq_true rfl, Nat.le_of_ble_eq_true rfl⟩, (hts _ lk_X3_name_2), (hts _ lk_X3_name_3)⟩ hC hP hS (ow_q1_0) rfl rfl rfl hl.1 rfl (Nat.le_of_ble_eq_true rfl) dX3_name_12 ⟨Nat.zero_le _, Nat.zero_le _⟩) hS (fun H locs hP hS => ?_)
    refine lv_if_ne (tgt := 20) hx hb dX3_name_15 (by decide) (fun c_2 => ?_) (fun c_2 => ?_)
    · refine lv_aload_n hx hb dX3_name_20 rfl (lv_at hl 0 rfl) ?_
      refine og_getN (C := RX0) (T := TX0) (N := 7) (g := 1) (i := 0) (v := .ref (ad 12 0)) hx hb hts li_X3_name_X0 hown hC hP (ow_q1_0) rfl rfl 1 (by decide) ln_X3_name_4 rfl rfl dX3_name_21 ?_
      refine lv_aload_n hx hb dX3_name_24 rfl (lv_at hl 0 rfl) ?_
      refine og_getN (C := RX0) (T := TX0) (N := 7) (g := 1) (i := 0) (v := .ref (ad 2 0)) hx hb hts li_X3_name_X0 hown hC hP (ow_q1_0) rfl rfl 3 (by decide) ln_X3_name_6 rfl rfl dX3_name_25 ?_
      refine lv_iload_n hx hb dX3_name_28 rfl (lv_at hl 3 rfl) ?_
      refine og_iald (g := 2) (i := 0) (j := x2.toNatClampNeg) (v := (st.1 100 x2.toNatClampNeg)) hx hb hC hP (ow_q2_0) rfl (has_in c_2) rfl rfl dX3_name_29 ?_
      refine va_tl (v := .long (ow_nm 0 ((st.1 100 x2.toNatClampNeg).toNatClampNeg))) hx hb (hC.2.2.2.2.1 0 (by decide)) hS (hv 0 (by decide) _ (vp_lt (has_in c_2))) rfl dX3_name_30 ?_
      exact W.lret (v := (ow_nm 0 ((st.1 100 x2.toNatClampNeg).toNatClampNeg))) hx hb hr (fun t ht hW => ⟨⟨(ow_nm 0 ((st.1 100 x2.toNatClampNeg).toNatClampNeg)), st, rfl, ⟨(by simp only [fX3_name, if_pos c_1, if_neg c_2]), rfl⟩, ow_Bi ht hP⟩, hS.F ht⟩) hS.2.2 dX3_name_31
    · refine lv_lconst (v := 0) hx hb dX3_name_18 rfl ?_
      exact W.lret (v := 0) hx hb hr (fun t ht hW => ⟨⟨0, st, rfl, ⟨(by simp only [fX3_name, if_pos c_1, if_pos c_2]), rfl⟩, ow_Bi ht hP⟩, hS.F ht⟩) hS.2.2 dX3_name_19
  · by_cases c_3 : x1 = 1
    · refine og_cqS (q := ad 1 1) (og_runV (C := RX3) (T := TX3) (N := 14) (g := 0) (i := 0) (As := [.int x1]) (rest := []) ⟨hx, hb, hml, hown, hts⟩ (kX3_kindNumbered l D ca ad A st x1) (cwV 1 hts gX3_name_X3_kindNumbered rfl rfl rfl (by decide +kernel) ⟨Nat.le_of_ble_eq_true rfl, Nat.le_of_ble_eq_true rfl⟩) hC hP hS (ow_q0_0) rfl rfl rfl hl.1 rfl (Nat.le_of_ble_eq_true rfl) dX3_name_2 ⟨Nat.zero_le _, Nat.zero_le _⟩) hS (by simp only [fX3_kindNumbered, if_neg c_1, if_pos c_3]) (fun H locs hP hS => ?_)
      refine lv_astore_n (lv' := [(3, .ref (ad 1 1)), (0, .ref (ad 0 0)), (1, .int x1), (2, .int x2)]) hx hb dX3_name_5 rfl hl (by decide) rfl (fun ls hl => ?_)
      refine lv_aload_n hx hb dX3_name_6 rfl (lv_at hl 0 rfl) ?_
      refine lv_ifnull hx hb dX3_name_7 ?_
      refine lv_aload_n hx hb dX3_name_10 rfl (lv_at hl 0 rfl) ?_
      refine lv_iload_n hx hb dX3_name_11 rfl (lv_at hl 3 rfl) ?_
      refine og_ciP (og_runVN (C := RX0) (T := TX0) (N := 7) (g := 1) (i := 1) (As := [.int x2]) (rest := []) ⟨hx, hb, hml, hown, hts⟩ (kX0_has l D ca ad A st 1 (by decide) x2) ⟨va_cnB 1 hts gX3_name_X0_has_n94 rfl rfl rfl (hC.2.2.1 _ ln_X3_name_0) (hts _ lk_X3_name_1) (by decide +kernel) ⟨Nat.le_of_ble_eq_true rfl, Nat.le_of_ble_eq_true rfl⟩, (hts _ lk_X3_name_2), (hts _ lk_X3_name_3)⟩ hC hP hS (ow_q1_1) rfl rfl rfl hl.1 rfl (Nat.le_of_ble_eq_true rfl) dX3_name_12 ⟨Nat.zero_le _, Nat.zero_le _⟩) hS (fun H locs hP hS => ?_)
      refine lv_if_ne (tgt := 20) hx hb dX3_name_15 (by decide) (fun c_4 => ?_) (fun c_4 => ?_)
      · refine lv_aload_n hx hb dX3_name_20 rfl (lv_at hl 0 rfl) ?_
        refine og_getN (C := RX0) (T := TX0) (N := 7) (g := 1) (i := 1) (v := .ref (ad 12 1)) hx hb hts li_X3_name_X0 hown hC hP (ow_q1_1) rfl rfl 1 (by decide) ln_X3_name_4 rfl rfl dX3_name_21 ?_
        refine lv_aload_n hx hb dX3_name_24 rfl (lv_at hl 0 rfl) ?_
        refine og_getN (C := RX0) (T := TX0) (N := 7) (g := 1) (i := 1) (v := .ref (ad 2 1)) hx hb hts li_X3_name_X0 hown hC hP (ow_q1_1) rfl rfl 3 (by decide) ln_X3_name_6 rfl rfl dX3_name_25 ?_
        refine lv_iload_n hx hb dX3_name_28 rfl (lv_at hl 3 rfl) ?_
        refine og_iald (g := 2) (i := 1) (j := x2.toNatClampNeg) (v := (st.1 104 x2.toNatClampNeg)) hx hb hC hP (ow_q2_1) rfl (has_in c_4) rfl rfl dX3_name_29 ?_
        refine va_tl (v := .long (ow_nm 1 ((st.1 104 x2.toNatClampNeg).toNatClampNeg))) hx hb (hC.2.2.2.2.1 1 (by decide)) hS (hv 1 (by decide) _ (vp_lt (has_in c_4))) rfl dX3_name_30 ?_
        exact W.lret (v := (ow_nm 1 ((st.1 104 x2.toNatClampNeg).toNatClampNeg))) hx hb hr (fun t ht hW => ⟨⟨(ow_nm 1 ((st.1 104 x2.toNatClampNeg).toNatClampNeg)), st, rfl, ⟨(by simp only [fX3_name, if_neg c_1, if_pos c_3, if_neg c_4]), rfl⟩, ow_Bi ht hP⟩, hS.F ht⟩) hS.2.2 dX3_name_31
      · refine lv_lconst (v := 0) hx hb dX3_name_18 rfl ?_
        exact W.lret (v := 0) hx hb hr (fun t ht hW => ⟨⟨0, st, rfl, ⟨(by simp only [fX3_name, if_neg c_1, if_pos c_3, if_pos c_4]), rfl⟩, ow_Bi ht hP⟩, hS.F ht⟩) hS.2.2 dX3_name_19
    · by_cases c_5 : x1 = 2
      · refine og_cqS (q := ad 1 2) (og_runV (C := RX3) (T := TX3) (N := 14) (g := 0) (i := 0) (As := [.int x1]) (rest := []) ⟨hx, hb, hml, hown, hts⟩ (kX3_kindNumbered l D ca ad A st x1) (cwV 1 hts gX3_name_X3_kindNumbered rfl rfl rfl (by decide +kernel) ⟨Nat.le_of_ble_eq_true rfl, Nat.le_of_ble_eq_true rfl⟩) hC hP hS (ow_q0_0) rfl rfl rfl hl.1 rfl (Nat.le_of_ble_eq_true rfl) dX3_name_2 ⟨Nat.zero_le _, Nat.zero_le _⟩) hS (by simp only [fX3_kindNumbered, if_neg c_1, if_neg c_3, if_pos c_5]) (fun H locs hP hS => ?_)
        refine lv_astore_n (lv' := [(3, .ref (ad 1 2)), (0, .ref (ad 0 0)), (1, .int x1), (2, .int x2)]) hx hb dX3_name_5 rfl hl (by decide) rfl (fun ls hl => ?_)
        refine lv_aload_n hx hb dX3_name_6 rfl (lv_at hl 0 rfl) ?_
        refine lv_ifnull hx hb dX3_name_7 ?_
        refine lv_aload_n hx hb dX3_name_10 rfl (lv_at hl 0 rfl) ?_
        refine lv_iload_n hx hb dX3_name_11 rfl (lv_at hl 3 rfl) ?_
        refine og_ciP (og_runVN (C := RX0) (T := TX0) (N := 7) (g := 1) (i := 2) (As := [.int x2]) (rest := []) ⟨hx, hb, hml, hown, hts⟩ (kX0_has l D ca ad A st 2 (by decide) x2) ⟨va_cnB 1 hts gX3_name_X0_has_n94 rfl rfl rfl (hC.2.2.1 _ ln_X3_name_0) (hts _ lk_X3_name_1) (by decide +kernel) ⟨Nat.le_of_ble_eq_true rfl, Nat.le_of_ble_eq_true rfl⟩, (hts _ lk_X3_name_2), (hts _ lk_X3_name_3)⟩ hC hP hS (ow_q1_2) rfl rfl rfl hl.1 rfl (Nat.le_of_ble_eq_true rfl) dX3_name_12 ⟨Nat.zero_le _, Nat.zero_le _⟩) hS (fun H locs hP hS => ?_)
        refine lv_if_ne (tgt := 20) hx hb dX3_name_15 (by decide) (fun c_6 => ?_) (fun c_6 => ?_)
        · refine lv_aload_n hx hb dX3_name_20 rfl (lv_at hl 0 rfl) ?_
          refine og_getN (C := RX0) (T := TX0) (N := 7) (g := 1) (i := 2) (v := .ref (ad 12 2)) hx hb hts li_X3_name_X0 hown hC hP (ow_q1_2) rfl rfl 1 (by decide) ln_X3_name_4 rfl rfl dX3_name_21 ?_
          refine lv_aload_n hx hb dX3_name_24 rfl (lv_at hl 0 rfl) ?_
          refine og_getN (C := RX0) (T := TX0) (N := 7) (g := 1) (i := 2) (v := .ref (ad 2 2)) hx hb hts li_X3_name_X0 hown hC hP (ow_q1_2) rfl rfl 3 (by decide) ln_X3_name_6 rfl rfl dX3_name_25 ?_
          refine lv_iload_n hx hb dX3_name_28 rfl (lv_at hl 3 rfl) ?_
          refine og_iald (g := 2) (i := 2) (j := x2.toNatClampNeg) (v := (st.1 108 x2.toNatClampNeg)) hx hb hC hP (ow_q2_2) rfl (has_in c_6) rfl rfl dX3_name_29 ?_
          refine va_tl (v := .long (ow_nm 2 ((st.1 108 x2.toNatClampNeg).toNatClampNeg))) hx hb (hC.2.2.2.2.1 2 (by decide)) hS (hv 2 (by decide) _ (vp_lt (has_in c_6))) rfl dX3_name_30 ?_
          exact W.lret (v := (ow_nm 2 ((st.1 108 x2.toNatClampNeg).toNatClampNeg))) hx hb hr (fun t ht hW => ⟨⟨(ow_nm 2 ((st.1 108 x2.toNatClampNeg).toNatClampNeg)), st, rfl, ⟨(by simp only [fX3_name, if_neg c_1, if_neg c_3, if_pos c_5, if_neg c_6]), rfl⟩, ow_Bi ht hP⟩, hS.F ht⟩) hS.2.2 dX3_name_31
        · refine lv_lconst (v := 0) hx hb dX3_name_18 rfl ?_
          exact W.lret (v := 0) hx hb hr (fun t ht hW => ⟨⟨0, st, rfl, ⟨(by simp only [fX3_name, if_neg c_1, if_neg c_3, if_pos c_5, if_pos c_6]), rfl⟩, ow_Bi ht hP⟩, hS.F ht⟩) hS.2.2 dX3_name_19
      · refine og_cqN (og_runV (C := RX3) (T := TX3) (N := 14) (g := 0) (i := 0) (As := [.int x1]) (rest := []) ⟨hx, hb, hml, hown, hts⟩ (kX3_kindNumbered l D ca ad A st x1) (cwV 1 hts gX3_name_X3_kindNumbered rfl rfl rfl (by decide +kernel) ⟨Nat.le_of_ble_eq_true rfl, Nat.le_of_ble_eq_true rfl⟩) hC hP hS (ow_q0_0) rfl rfl rfl hl.1 rfl (Nat.le_of_ble_eq_true rfl) dX3_name_2 ⟨Nat.zero_le _, Nat.zero_le _⟩) hS (by simp only [fX3_kindNumbered, if_neg c_1, if_neg c_3, if_neg c_5]) (fun H locs hP hS => ?_)
        refine lv_astore_nN (lv' := [(3, .null), (0, .ref (ad 0 0)), (1, .int x1), (2, .int x2)]) hx hb dX3_name_5 rfl hl (by decide) rfl (fun ls hl => ?_)
        refine lv_aload_nN hx hb dX3_name_6 rfl (lv_at hl 0 rfl) ?_
        refine lv_ifnullN (tgt := 18) hx hb dX3_name_7 (by decide) ?_
        refine lv_lconst (v := 0) hx hb dX3_name_18 rfl ?_
        exact W.lret (v := 0) hx hb hr (fun t ht hW => ⟨⟨0, st, rfl, ⟨(by simp only [fX3_name, if_neg c_1, if_neg c_3, if_neg c_5]), rfl⟩, ow_Bi ht hP⟩, hS.F ht⟩) hS.2.2 dX3_name_19

theorem ln_X3_swap_0 : (.methodLinkNest RX3 94 yX0_has "RecordLabels" : Cond) ∈ ow_nest := by decide +kernel
theorem lk_X3_swap_1 : (.initialized RX0 : Cond) ∈ wsX3_swap := by decide +kernel
theorem lk_X3_swap_2 : (.instanceMethod yX0_has : Cond) ∈ wsX3_swap := by decide +kernel
theorem lk_X3_swap_3 : (.selects RX0 yX0_has yX0_has : Cond) ∈ wsX3_swap := by decide +kernel
theorem ln_X3_swap_4 : (.methodLinkNest RX3 104 yX0_exchange "RecordLabels" : Cond) ∈ ow_nest := by decide +kernel
theorem lk_X3_swap_5 : (.instanceMethod yX0_exchange : Cond) ∈ wsX3_swap := by decide +kernel
theorem lk_X3_swap_6 : (.selects RX0 yX0_exchange yX0_exchange : Cond) ∈ wsX3_swap := by decide +kernel
def fX3_swap (st : ow_St) (x1 x2 x3 : Int32) : Int32 × ow_St := (if x1 = 0 then (if (fX0_has st 0 x2) = 0 then ((-1), st) else (if (fX0_has st 0 x3) = 0 then ((-1), st) else (let st4 := (fX0_exchange st 0 x2 x3); (1, st4)))) else (if x1 = 1 then (if (fX0_has st 1 x2) = 0 then ((-1), st) else (if (fX0_has st 1 x3) = 0 then ((-1), st) else (let st8 := (fX0_exchange st 1 x2 x3); (1, st8)))) else (if x1 = 2 then (if (fX0_has st 2 x2) = 0 then ((-1), st) else (if (fX0_has st 2 x3) = 0 then ((-1), st) else (let st12 := (fX0_exchange st 2 x2 x3); (1, st12)))) else ((-1), st))))
set_option maxHeartbeats 4000000 in
set_option maxRecDepth 100000 in
theorem kX3_swap (l : Launch) (D : va_G) (ca : Nat → ClassId) (ad : ow_Ad) (A : Nat → Prop) (st : ow_St) (x1 : Int32) (x2 : Int32) (x3 : Int32) (hv : iv_con st) : Met l yX3_swap wsX3_swap ({ frames := 2, cells := 0, slots := 0, locals := 44 }) (va_Pc [.ref (ad 0 0), .int x1, .int x2, .int x3] (ow_W D ca ad A st)) (va_Qi (fun r st' => (r, st') = (fX3_swap st x1 x2 x3)) (ow_B D ca ad) A) 0 0 A := by
  refine Met.ofW (cc := cX3_swap) (maxL := 5) (ret := (some .int)) (by decide) rfl ?_
  intro p e s m args below meth c s₁ B hml hv
  obtain ⟨rfl, hP, hC⟩ := hv
  have hx := B.exec
  have hb := B.bytes
  have hr := B.returns
  have hts := atoms_spec (ws := wsX3_swap) B.pre
  have hown : s.vm.findClass RX3 = some m.cls := findClass_of_methodNamed B.named
  have hlocks := B.notSynchronized
  have hS : va_S A s.heap s.heap [] := va_S.rf
  have hl := lv_entry ([.ref (ad 0 0), .int x1, .int x2, .int x3]) (n := 5) (Nat.le_of_ble_eq_true rfl)
  rw [lg_entry_eq]
  generalize (lg_sl ([.ref (ad 0 0), .int x1, .int x2, .int x3]) ++ List.replicate (5 - (lg_sl ([.ref (ad 0 0), .int x1, .int x2, .int x3])).length) Slot.unset).toArray = ls at hl ⊢
  have hl : lv_has ls 5 [(0, .ref (ad 0 0)), (1, .int x1), (2, .int x2), (3, .int x3)] := hl
  refine lv_aload_n hx hb dX3_swap_0 rfl (lv_at hl 0 rfl) ?_
  refine lv_iload_n hx hb dX3_swap_1 rfl (lv_at hl 1 rfl) ?_
  by_cases c_1 : x1 = 0
  · refine og_cqS (q := ad 1 0) (og_runV (C := RX3) (T := TX3) (N := 14) (g := 0) (i := 0) (As := [.int x1]) (rest := []) ⟨hx, hb, hml, hown, hts⟩ (kX3_kindNumbered l D ca ad A st x1) (cwV 1 hts gX3_swap_X3_kindNumbered rfl rfl rfl (by decide +kernel) ⟨Nat.le_of_ble_eq_true rfl, Nat.le_of_ble_eq_true rfl⟩) hC hP hS (ow_q0_0) rfl rfl rfl hl.1 rfl (Nat.le_of_ble_eq_true rfl) dX3_swap_2 ⟨Nat.zero_le _, Nat.zero_le _⟩) hS (by simp only [fX3_kindNumbered, if_pos c_1]) (fun H locs hP hS => ?_)
    refine lv_astore (lv' := [(4, .ref (ad 1 0)), (0, .ref (ad 0 0)), (1, .int x1), (2, .int x2), (3, .int x3)]) hx hb dX3_swap_5 hl (by decide) rfl (fun ls hl => ?_)
    refine lv_aload hx hb dX3_swap_7 (lv_at hl 0 rfl) ?_
    refine lv_ifnull hx hb dX3_swap_9 ?_
    refine lv_aload hx hb dX3_swap_12 (lv_at hl 0 rfl) ?_
    refine lv_iload_n hx hb dX3_swap_14 rfl (lv_at hl 3 rfl) ?_
    refine og_ciP (og_runVN (C := RX0) (T := TX0) (N := 7) (g := 1) (i := 0) (As := [.int x2]) (rest := []) ⟨hx, hb, hml, hown, hts⟩ (kX0_has l D ca ad A st 0 (by decide) x2) ⟨va_cnB 1 hts gX3_swap_X0_has_n94 rfl rfl rfl (hC.2.2.1 _ ln_X3_swap_0) (hts _ lk_X3_swap_1) (by decide +kernel) ⟨Nat.le_of_ble_eq_true rfl, Nat.le_of_ble_eq_true rfl⟩, (hts _ lk_X3_swap_2), (hts _ lk_X3_swap_3)⟩ hC hP hS (ow_q1_0) rfl rfl rfl hl.1 rfl (Nat.le_of_ble_eq_true rfl) dX3_swap_15 ⟨Nat.zero_le _, Nat.zero_le _⟩) hS (fun H locs hP hS => ?_)
    refine lv_if_eq (tgt := 30) hx hb dX3_swap_18 (by decide) (fun c_2 => ?_) (fun c_2 => ?_)
    · refine lv_iconst (v := (-1)) hx hb dX3_swap_30 (by decide) ?_
      exact W.iret (v := (-1)) hx hb hr (fun t ht hW => ⟨⟨(-1), st, rfl, (by simp only [fX3_swap, if_pos c_1, if_pos c_2]), ow_Bi ht hP⟩, hS.F ht⟩) hS.2.2 dX3_swap_31
    · refine lv_aload hx hb dX3_swap_21 (lv_at hl 0 rfl) ?_
      refine lv_iload_n hx hb dX3_swap_23 rfl (lv_at hl 4 rfl) ?_
      refine og_ciP (og_runVN (C := RX0) (T := TX0) (N := 7) (g := 1) (i := 0) (As := [.int x3]) (rest := []) ⟨hx, hb, hml, hown, hts⟩ (kX0_has l D ca ad A st 0 (by decide) x3) ⟨va_cnB 1 hts gX3_swap_X0_has_n94 rfl rfl rfl (hC.2.2.1 _ ln_X3_swap_0) (hts _ lk_X3_swap_1) (by decide +kernel) ⟨Nat.le_of_ble_eq_true rfl, Nat.le_of_ble_eq_true rfl⟩, (hts _ lk_X3_swap_2), (hts _ lk_X3_swap_3)⟩ hC hP hS (ow_q1_0) rfl rfl rfl hl.1 rfl (Nat.le_of_ble_eq_true rfl) dX3_swap_24 ⟨Nat.zero_le _, Nat.zero_le _⟩) hS (fun H locs hP hS => ?_)
      refine lv_if_ne (tgt := 32) hx hb dX3_swap_27 (by decide) (fun c_3 => ?_) (fun c_3 => ?_)
      · refine lv_aload hx hb dX3_swap_32 (lv_at hl 0 rfl) ?_
        refine lv_iload_n hx hb dX3_swap_34 rfl (lv_at hl 3 rfl) ?_
        refine lv_iload_n hx hb dX3_swap_35 rfl (lv_at hl 4 rfl) ?_
        refine og_cvW (og_runVN (C := RX0) (T := TX0) (N := 7) (g := 1) (i := 0) (As := [.int x2, .int x3]) (rest := []) ⟨hx, hb, hml, hown, hts⟩ (kX0_exchange l D ca ad A st 0 (by decide) x2 x3 (hv 0 (by decide))) ⟨va_cnB 2 hts gX3_swap_X0_exchange_n104 rfl rfl rfl (hC.2.2.1 _ ln_X3_swap_4) (hts _ lk_X3_swap_1) (by decide +kernel) ⟨Nat.le_of_ble_eq_true rfl, Nat.le_of_ble_eq_true rfl⟩, (hts _ lk_X3_swap_5), (hts _ lk_X3_swap_6)⟩ hC hP hS (ow_q1_0) rfl rfl rfl hl.1 rfl (Nat.le_of_ble_eq_true rfl) dX3_swap_36 ⟨Nat.zero_le _, Nat.zero_le _⟩) hS (fun H locs hP hS => ?_)
        obtain ⟨st4, e4⟩ : ∃ z, z = (fX0_exchange st 0 x2 x3) := ⟨_, rfl⟩
        rw [← e4] at hP
        refine lv_iconst (v := 1) hx hb dX3_swap_39 (by decide) ?_
        exact W.iret (v := 1) hx hb hr (fun t ht hW => ⟨⟨1, st4, rfl, (by subst e4; simp only [fX3_swap, if_pos c_1, if_neg c_2, if_neg c_3]), ow_Bi ht hP⟩, hS.F ht⟩) hS.2.2 dX3_swap_40
      · refine lv_iconst (v := (-1)) hx hb dX3_swap_30 (by decide) ?_
        exact W.iret (v := (-1)) hx hb hr (fun t ht hW => ⟨⟨(-1), st, rfl, (by simp only [fX3_swap, if_pos c_1, if_neg c_2, if_pos c_3]), ow_Bi ht hP⟩, hS.F ht⟩) hS.2.2 dX3_swap_31
  · by_cases c_5 : x1 = 1
    · refine og_cqS (q := ad 1 1) (og_runV (C := RX3) (T := TX3) (N := 14) (g := 0) (i := 0) (As := [.int x1]) (rest := []) ⟨hx, hb, hml, hown, hts⟩ (kX3_kindNumbered l D ca ad A st x1) (cwV 1 hts gX3_swap_X3_kindNumbered rfl rfl rfl (by decide +kernel) ⟨Nat.le_of_ble_eq_true rfl, Nat.le_of_ble_eq_true rfl⟩) hC hP hS (ow_q0_0) rfl rfl rfl hl.1 rfl (Nat.le_of_ble_eq_true rfl) dX3_swap_2 ⟨Nat.zero_le _, Nat.zero_le _⟩) hS (by simp only [fX3_kindNumbered, if_neg c_1, if_pos c_5]) (fun H locs hP hS => ?_)
      refine lv_astore (lv' := [(4, .ref (ad 1 1)), (0, .ref (ad 0 0)), (1, .int x1), (2, .int x2), (3, .int x3)]) hx hb dX3_swap_5 hl (by decide) rfl (fun ls hl => ?_)
      refine lv_aload hx hb dX3_swap_7 (lv_at hl 0 rfl) ?_
      refine lv_ifnull hx hb dX3_swap_9 ?_
      refine lv_aload hx hb dX3_swap_12 (lv_at hl 0 rfl) ?_
      refine lv_iload_n hx hb dX3_swap_14 rfl (lv_at hl 3 rfl) ?_
      refine og_ciP (og_runVN (C := RX0) (T := TX0) (N := 7) (g := 1) (i := 1) (As := [.int x2]) (rest := []) ⟨hx, hb, hml, hown, hts⟩ (kX0_has l D ca ad A st 1 (by decide) x2) ⟨va_cnB 1 hts gX3_swap_X0_has_n94 rfl rfl rfl (hC.2.2.1 _ ln_X3_swap_0) (hts _ lk_X3_swap_1) (by decide +kernel) ⟨Nat.le_of_ble_eq_true rfl, Nat.le_of_ble_eq_true rfl⟩, (hts _ lk_X3_swap_2), (hts _ lk_X3_swap_3)⟩ hC hP hS (ow_q1_1) rfl rfl rfl hl.1 rfl (Nat.le_of_ble_eq_true rfl) dX3_swap_15 ⟨Nat.zero_le _, Nat.zero_le _⟩) hS (fun H locs hP hS => ?_)
      refine lv_if_eq (tgt := 30) hx hb dX3_swap_18 (by decide) (fun c_6 => ?_) (fun c_6 => ?_)
      · refine lv_iconst (v := (-1)) hx hb dX3_swap_30 (by decide) ?_
        exact W.iret (v := (-1)) hx hb hr (fun t ht hW => ⟨⟨(-1), st, rfl, (by simp only [fX3_swap, if_neg c_1, if_pos c_5, if_pos c_6]), ow_Bi ht hP⟩, hS.F ht⟩) hS.2.2 dX3_swap_31
      · refine lv_aload hx hb dX3_swap_21 (lv_at hl 0 rfl) ?_
        refine lv_iload_n hx hb dX3_swap_23 rfl (lv_at hl 4 rfl) ?_
        refine og_ciP (og_runVN (C := RX0) (T := TX0) (N := 7) (g := 1) (i := 1) (As := [.int x3]) (rest := []) ⟨hx, hb, hml, hown, hts⟩ (kX0_has l D ca ad A st 1 (by decide) x3) ⟨va_cnB 1 hts gX3_swap_X0_has_n94 rfl rfl rfl (hC.2.2.1 _ ln_X3_swap_0) (hts _ lk_X3_swap_1) (by decide +kernel) ⟨Nat.le_of_ble_eq_true rfl, Nat.le_of_ble_eq_true rfl⟩, (hts _ lk_X3_swap_2), (hts _ lk_X3_swap_3)⟩ hC hP hS (ow_q1_1) rfl rfl rfl hl.1 rfl (Nat.le_of_ble_eq_true rfl) dX3_swap_24 ⟨Nat.zero_le _, Nat.zero_le _⟩) hS (fun H locs hP hS => ?_)
        refine lv_if_ne (tgt := 32) hx hb dX3_swap_27 (by decide) (fun c_7 => ?_) (fun c_7 => ?_)
        · refine lv_aload hx hb dX3_swap_32 (lv_at hl 0 rfl) ?_
          refine lv_iload_n hx hb dX3_swap_34 rfl (lv_at hl 3 rfl) ?_
          refine lv_iload_n hx hb dX3_swap_35 rfl (lv_at hl 4 rfl) ?_
          refine og_cvW (og_runVN (C := RX0) (T := TX0) (N := 7) (g := 1) (i := 1) (As := [.int x2, .int x3]) (rest := []) ⟨hx, hb, hml, hown, hts⟩ (kX0_exchange l D ca ad A st 1 (by decide) x2 x3 (hv 1 (by decide))) ⟨va_cnB 2 hts gX3_swap_X0_exchange_n104 rfl rfl rfl (hC.2.2.1 _ ln_X3_swap_4) (hts _ lk_X3_swap_1) (by decide +kernel) ⟨Nat.le_of_ble_eq_true rfl, Nat.le_of_ble_eq_true rfl⟩, (hts _ lk_X3_swap_5), (hts _ lk_X3_swap_6)⟩ hC hP hS (ow_q1_1) rfl rfl rfl hl.1 rfl (Nat.le_of_ble_eq_true rfl) dX3_swap_36 ⟨Nat.zero_le _, Nat.zero_le _⟩) hS (fun H locs hP hS => ?_)
          obtain ⟨st8, e8⟩ : ∃ z, z = (fX0_exchange st 1 x2 x3) := ⟨_, rfl⟩
          rw [← e8] at hP
          refine lv_iconst (v := 1) hx hb dX3_swap_39 (by decide) ?_
          exact W.iret (v := 1) hx hb hr (fun t ht hW => ⟨⟨1, st8, rfl, (by subst e8; simp only [fX3_swap, if_neg c_1, if_pos c_5, if_neg c_6, if_neg c_7]), ow_Bi ht hP⟩, hS.F ht⟩) hS.2.2 dX3_swap_40
        · refine lv_iconst (v := (-1)) hx hb dX3_swap_30 (by decide) ?_
          exact W.iret (v := (-1)) hx hb hr (fun t ht hW => ⟨⟨(-1), st, rfl, (by simp only [fX3_swap, if_neg c_1, if_pos c_5, if_neg c_6, if_pos c_7]), ow_Bi ht hP⟩, hS.F ht⟩) hS.2.2 dX3_swap_31
    · by_cases c_9 : x1 = 2
      · refine og_cqS (q := ad 1 2) (og_runV (C := RX3) (T := TX3) (N := 14) (g := 0) (i := 0) (As := [.int x1]) (rest := []) ⟨hx, hb, hml, hown, hts⟩ (kX3_kindNumbered l D ca ad A st x1) (cwV 1 hts gX3_swap_X3_kindNumbered rfl rfl rfl (by decide +kernel) ⟨Nat.le_of_ble_eq_true rfl, Nat.le_of_ble_eq_true rfl⟩) hC hP hS (ow_q0_0) rfl rfl rfl hl.1 rfl (Nat.le_of_ble_eq_true rfl) dX3_swap_2 ⟨Nat.zero_le _, Nat.zero_le _⟩) hS (by simp only [fX3_kindNumbered, if_neg c_1, if_neg c_5, if_pos c_9]) (fun H locs hP hS => ?_)
        refine lv_astore (lv' := [(4, .ref (ad 1 2)), (0, .ref (ad 0 0)), (1, .int x1), (2, .int x2), (3, .int x3)]) hx hb dX3_swap_5 hl (by decide) rfl (fun ls hl => ?_)
        refine lv_aload hx hb dX3_swap_7 (lv_at hl 0 rfl) ?_
        refine lv_ifnull hx hb dX3_swap_9 ?_
        refine lv_aload hx hb dX3_swap_12 (lv_at hl 0 rfl) ?_
        refine lv_iload_n hx hb dX3_swap_14 rfl (lv_at hl 3 rfl) ?_
        refine og_ciP (og_runVN (C := RX0) (T := TX0) (N := 7) (g := 1) (i := 2) (As := [.int x2]) (rest := []) ⟨hx, hb, hml, hown, hts⟩ (kX0_has l D ca ad A st 2 (by decide) x2) ⟨va_cnB 1 hts gX3_swap_X0_has_n94 rfl rfl rfl (hC.2.2.1 _ ln_X3_swap_0) (hts _ lk_X3_swap_1) (by decide +kernel) ⟨Nat.le_of_ble_eq_true rfl, Nat.le_of_ble_eq_true rfl⟩, (hts _ lk_X3_swap_2), (hts _ lk_X3_swap_3)⟩ hC hP hS (ow_q1_2) rfl rfl rfl hl.1 rfl (Nat.le_of_ble_eq_true rfl) dX3_swap_15 ⟨Nat.zero_le _, Nat.zero_le _⟩) hS (fun H locs hP hS => ?_)
        refine lv_if_eq (tgt := 30) hx hb dX3_swap_18 (by decide) (fun c_10 => ?_) (fun c_10 => ?_)
        · refine lv_iconst (v := (-1)) hx hb dX3_swap_30 (by decide) ?_
          exact W.iret (v := (-1)) hx hb hr (fun t ht hW => ⟨⟨(-1), st, rfl, (by simp only [fX3_swap, if_neg c_1, if_neg c_5, if_pos c_9, if_pos c_10]), ow_Bi ht hP⟩, hS.F ht⟩) hS.2.2 dX3_swap_31
        · refine lv_aload hx hb dX3_swap_21 (lv_at hl 0 rfl) ?_
          refine lv_iload_n hx hb dX3_swap_23 rfl (lv_at hl 4 rfl) ?_
          refine og_ciP (og_runVN (C := RX0) (T := TX0) (N := 7) (g := 1) (i := 2) (As := [.int x3]) (rest := []) ⟨hx, hb, hml, hown, hts⟩ (kX0_has l D ca ad A st 2 (by decide) x3) ⟨va_cnB 1 hts gX3_swap_X0_has_n94 rfl rfl rfl (hC.2.2.1 _ ln_X3_swap_0) (hts _ lk_X3_swap_1) (by decide +kernel) ⟨Nat.le_of_ble_eq_true rfl, Nat.le_of_ble_eq_true rfl⟩, (hts _ lk_X3_swap_2), (hts _ lk_X3_swap_3)⟩ hC hP hS (ow_q1_2) rfl rfl rfl hl.1 rfl (Nat.le_of_ble_eq_true rfl) dX3_swap_24 ⟨Nat.zero_le _, Nat.zero_le _⟩) hS (fun H locs hP hS => ?_)
          refine lv_if_ne (tgt := 32) hx hb dX3_swap_27 (by decide) (fun c_11 => ?_) (fun c_11 => ?_)
          · refine lv_aload hx hb dX3_swap_32 (lv_at hl 0 rfl) ?_
            refine lv_iload_n hx hb dX3_swap_34 rfl (lv_at hl 3 rfl) ?_
            refine lv_iload_n hx hb dX3_swap_35 rfl (lv_at hl 4 rfl) ?_
            refine og_cvW (og_runVN (C := RX0) (T := TX0) (N := 7) (g := 1) (i := 2) (As := [.int x2, .int x3]) (rest := []) ⟨hx, hb, hml, hown, hts⟩ (kX0_exchange l D ca ad A st 2 (by decide) x2 x3 (hv 2 (by decide))) ⟨va_cnB 2 hts gX3_swap_X0_exchange_n104 rfl rfl rfl (hC.2.2.1 _ ln_X3_swap_4) (hts _ lk_X3_swap_1) (by decide +kernel) ⟨Nat.le_of_ble_eq_true rfl, Nat.le_of_ble_eq_true rfl⟩, (hts _ lk_X3_swap_5), (hts _ lk_X3_swap_6)⟩ hC hP hS (ow_q1_2) rfl rfl rfl hl.1 rfl (Nat.le_of_ble_eq_true rfl) dX3_swap_36 ⟨Nat.zero_le _, Nat.zero_le _⟩) hS (fun H locs hP hS => ?_)
            obtain ⟨st12, e12⟩ : ∃ z, z = (fX0_exchange st 2 x2 x3) := ⟨_, rfl⟩
            rw [← e12] at hP
            refine lv_iconst (v := 1) hx hb dX3_swap_39 (by decide) ?_
            exact W.iret (v := 1) hx hb hr (fun t ht hW => ⟨⟨1, st12, rfl, (by subst e12; simp only [fX3_swap, if_neg c_1, if_neg c_5, if_pos c_9, if_neg c_10, if_neg c_11]), ow_Bi ht hP⟩, hS.F ht⟩) hS.2.2 dX3_swap_40
          · refine lv_iconst (v := (-1)) hx hb dX3_swap_30 (by decide) ?_
            exact W.iret (v := (-1)) hx hb hr (fun t ht hW => ⟨⟨(-1), st, rfl, (by simp only [fX3_swap, if_neg c_1, if_neg c_5, if_pos c_9, if_neg c_10, if_pos c_11]), ow_Bi ht hP⟩, hS.F ht⟩) hS.2.2 dX3_swap_31
      · refine og_cqN (og_runV (C := RX3) (T := TX3) (N := 14) (g := 0) (i := 0) (As := [.int x1]) (rest := []) ⟨hx, hb, hml, hown, hts⟩ (kX3_kindNumbered l D ca ad A st x1) (cwV 1 hts gX3_swap_X3_kindNumbered rfl rfl rfl (by decide +kernel) ⟨Nat.le_of_ble_eq_true rfl, Nat.le_of_ble_eq_true rfl⟩) hC hP hS (ow_q0_0) rfl rfl rfl hl.1 rfl (Nat.le_of_ble_eq_true rfl) dX3_swap_2 ⟨Nat.zero_le _, Nat.zero_le _⟩) hS (by simp only [fX3_kindNumbered, if_neg c_1, if_neg c_5, if_neg c_9]) (fun H locs hP hS => ?_)
        refine lv_astoreN (lv' := [(4, .null), (0, .ref (ad 0 0)), (1, .int x1), (2, .int x2), (3, .int x3)]) hx hb dX3_swap_5 hl (by decide) rfl (fun ls hl => ?_)
        refine lv_aloadN hx hb dX3_swap_7 (lv_at hl 0 rfl) ?_
        refine lv_ifnullN (tgt := 30) hx hb dX3_swap_9 (by decide) ?_
        refine lv_iconst (v := (-1)) hx hb dX3_swap_30 (by decide) ?_
        exact W.iret (v := (-1)) hx hb hr (fun t ht hW => ⟨⟨(-1), st, rfl, (by simp only [fX3_swap, if_neg c_1, if_neg c_5, if_neg c_9]), ow_Bi ht hP⟩, hS.F ht⟩) hS.2.2 dX3_swap_31

theorem ln_X3_rule_0 : (.methodLinkNest RX3 94 yX0_has "RecordLabels" : Cond) ∈ ow_nest := by decide +kernel
theorem lk_X3_rule_1 : (.initialized RX0 : Cond) ∈ wsX3_rule := by decide +kernel
theorem lk_X3_rule_2 : (.instanceMethod yX0_has : Cond) ∈ wsX3_rule := by decide +kernel
theorem lk_X3_rule_3 : (.selects RX0 yX0_has yX0_has : Cond) ∈ wsX3_rule := by decide +kernel
theorem ln_X3_rule_4 : (.methodLinkNest RX3 108 yX0_constantOf "RecordLabels" : Cond) ∈ ow_nest := by decide +kernel
theorem lk_X3_rule_5 : (.instanceMethod yX0_constantOf : Cond) ∈ wsX3_rule := by decide +kernel
theorem lk_X3_rule_6 : (.selects RX0 yX0_constantOf yX0_constantOf : Cond) ∈ wsX3_rule := by decide +kernel
theorem lk_X3_rule_7 : (.fieldLink RX3 52 "RecordLabels" "lastResult" "J" : Cond) ∈ wsX3_rule := by decide +kernel
theorem li_X3_rule_X3 : ∀ w ∈ u_ws RX3 TX3 14, w ∈ wsX3_rule := by decide +kernel
def fX3_rule (st : ow_St) (x1 x2 : Int32) (x3 : Int64) : Int32 × ow_St := (if x1 = 0 then (if (fX0_has st 0 x2) = 0 then ((-1), st) else (let st3 := (fX3_askRule_0 st (fX0_constantOf st 0 x2) x3).2; (if (fX3_askRule_0 st (fX0_constantOf st 0 x2) x3).1 = 1 then (let st5 := (ow_sl st3 0 (fX3_valueOf_0 st3 (fX0_constantOf st 0 x2) x3)); ((fX3_askRule_0 st (fX0_constantOf st 0 x2) x3).1, st5)) else ((fX3_askRule_0 st (fX0_constantOf st 0 x2) x3).1, st3)))) else (if x1 = 1 then (if (fX0_has st 1 x2) = 0 then ((-1), st) else (let st8 := (fX3_askRule_1 st (fX0_constantOf st 1 x2) x3).2; (if (fX3_askRule_1 st (fX0_constantOf st 1 x2) x3).1 = 1 then (let st10 := (ow_sl st8 0 (fX3_valueOf_1 st8 (fX0_constantOf st 1 x2) x3)); ((fX3_askRule_1 st (fX0_constantOf st 1 x2) x3).1, st10)) else ((fX3_askRule_1 st (fX0_constantOf st 1 x2) x3).1, st8)))) else (if x1 = 2 then (if (fX0_has st 2 x2) = 0 then ((-1), st) else (let st13 := (fX3_askRule_2 st (fX0_constantOf st 2 x2) x3).2; (if (fX3_askRule_2 st (fX0_constantOf st 2 x2) x3).1 = 1 then (let st15 := (ow_sl st13 0 (fX3_valueOf_2 st13 (fX0_constantOf st 2 x2) x3)); ((fX3_askRule_2 st (fX0_constantOf st 2 x2) x3).1, st15)) else ((fX3_askRule_2 st (fX0_constantOf st 2 x2) x3).1, st13)))) else ((-1), st))))
set_option maxHeartbeats 4000000 in
set_option maxRecDepth 100000 in
theorem kX3_rule (l : Launch) (D : va_G) (ca : Nat → ClassId) (ad : ow_Ad) (A : Nat → Prop) (st : ow_St) (x1 : Int32) (x2 : Int32) (x3 : Int64) : Met l yX3_rule wsX3_rule ({ frames := 2, cells := 0, slots := 0, locals := 48 }) (va_Pc [.ref (ad 0 0), .int x1, .int x2, .long x3] (ow_W D ca ad A st)) (va_Qi (fun r st' => (r, st') = (fX3_rule st x1 x2 x3)) (ow_B D ca ad) A) 0 0 A := by
  refine Met.ofW (cc := cX3_rule) (maxL := 8) (ret := (some .int)) (by decide) rfl ?_
  intro p e s m args below meth c s₁ B hml hv
  obtain ⟨rfl, hP, hC⟩ := hv
  have hx := B.exec
  have hb := B.bytes
  have hr := B.returns
  have hts := atoms_spec (ws := wsX3_rule) B.pre
  have hown : s.vm.findClass RX3 = some m.cls := findClass_of_methodNamed B.named
  have hlocks := B.notSynchronized
  have hS : va_S A s.heap s.heap [] := va_S.rf
  have hl := lv_entry ([.ref (ad 0 0), .int x1, .int x2, .long x3]) (n := 8) (Nat.le_of_ble_eq_true rfl)
  rw [lg_entry_eq]
  generalize (lg_sl ([.ref (ad 0 0), .int x1, .int x2, .long x3]) ++ List.replicate (8 - (lg_sl ([.ref (ad 0 0), .int x1, .int x2, .long x3])).length) Slot.unset).toArray = ls at hl ⊢
  have hl : lv_has ls 8 [(0, .ref (ad 0 0)), (1, .int x1), (2, .int x2), (3, .long x3)] := hl
  refine lv_aload_n hx hb dX3_rule_0 rfl (lv_at hl 0 rfl) ?_
  refine lv_iload_n hx hb dX3_rule_1 rfl (lv_at hl 1 rfl) ?_
  by_cases c_1 : x1 = 0
  · refine og_cqS (q := ad 1 0) (og_runV (C := RX3) (T := TX3) (N := 14) (g := 0) (i := 0) (As := [.int x1]) (rest := []) ⟨hx, hb, hml, hown, hts⟩ (kX3_kindNumbered l D ca ad A st x1) (cwV 1 hts gX3_rule_X3_kindNumbered rfl rfl rfl (by decide +kernel) ⟨Nat.le_of_ble_eq_true rfl, Nat.le_of_ble_eq_true rfl⟩) hC hP hS (ow_q0_0) rfl rfl rfl hl.1 rfl (Nat.le_of_ble_eq_true rfl) dX3_rule_2 ⟨Nat.zero_le _, Nat.zero_le _⟩) hS (by simp only [fX3_kindNumbered, if_pos c_1]) (fun H locs hP hS => ?_)
    refine lv_astore (lv' := [(5, .ref (ad 1 0)), (0, .ref (ad 0 0)), (1, .int x1), (2, .int x2), (3, .long x3)]) hx hb dX3_rule_5 hl (by decide) rfl (fun ls hl => ?_)
    refine lv_aload hx hb dX3_rule_7 (lv_at hl 0 rfl) ?_
    refine lv_ifnull hx hb dX3_rule_9 ?_
    refine lv_aload hx hb dX3_rule_12 (lv_at hl 0 rfl) ?_
    refine lv_iload_n hx hb dX3_rule_14 rfl (lv_at hl 3 rfl) ?_
    refine og_ciP (og_runVN (C := RX0) (T := TX0) (N := 7) (g := 1) (i := 0) (As := [.int x2]) (rest := []) ⟨hx, hb, hml, hown, hts⟩ (kX0_has l D ca ad A st 0 (by decide) x2) ⟨va_cnB 1 hts gX3_rule_X0_has_n94 rfl rfl rfl (hC.2.2.1 _ ln_X3_rule_0) (hts _ lk_X3_rule_1) (by decide +kernel) ⟨Nat.le_of_ble_eq_true rfl, Nat.le_of_ble_eq_true rfl⟩, (hts _ lk_X3_rule_2), (hts _ lk_X3_rule_3)⟩ hC hP hS (ow_q1_0) rfl rfl rfl hl.1 rfl (Nat.le_of_ble_eq_true rfl) dX3_rule_15 ⟨Nat.zero_le _, Nat.zero_le _⟩) hS (fun H locs hP hS => ?_)
    refine lv_if_ne (tgt := 23) hx hb dX3_rule_18 (by decide) (fun c_2 => ?_) (fun c_2 => ?_)
    · refine lv_aload hx hb dX3_rule_23 (lv_at hl 0 rfl) ?_
      refine lv_iload_n hx hb dX3_rule_25 rfl (lv_at hl 3 rfl) ?_
      refine og_ciP (og_runVN (C := RX0) (T := TX0) (N := 7) (g := 1) (i := 0) (As := [.int x2]) (rest := []) ⟨hx, hb, hml, hown, hts⟩ (kX0_constantOf l D ca ad A st 0 (by decide) x2) ⟨va_cnB 1 hts gX3_rule_X0_constantOf_n108 rfl rfl rfl (hC.2.2.1 _ ln_X3_rule_4) (hts _ lk_X3_rule_1) (by decide +kernel) ⟨Nat.le_of_ble_eq_true rfl, Nat.le_of_ble_eq_true rfl⟩, (hts _ lk_X3_rule_5), (hts _ lk_X3_rule_6)⟩ hC hP hS (ow_q1_0) rfl rfl rfl hl.1 rfl (Nat.le_of_ble_eq_true rfl) dX3_rule_26 ⟨Nat.zero_le _, Nat.zero_le _⟩) hS (fun H locs hP hS => ?_)
      refine lv_istore (lv' := [(6, .int (fX0_constantOf st 0 x2)), (5, .ref (ad 1 0)), (0, .ref (ad 0 0)), (1, .int x1), (2, .int x2), (3, .long x3)]) hx hb dX3_rule_29 hl (by decide) rfl (fun ls hl => ?_)
      refine lv_aload_n hx hb dX3_rule_31 rfl (lv_at hl 2 rfl) ?_
      refine lv_aload hx hb dX3_rule_32 (lv_at hl 1 rfl) ?_
      refine lv_iload hx hb dX3_rule_34 (lv_at hl 0 rfl) ?_
      refine lv_lload_n hx hb dX3_rule_36 rfl (lv_at hl 5 rfl) ?_
      refine og_ciW (og_runV (C := RX3) (T := TX3) (N := 14) (g := 0) (i := 0) (As := [.ref (ad 1 0), .int (fX0_constantOf st 0 x2), .long x3]) (rest := []) ⟨hx, hb, hml, hown, hts⟩ (kX3_askRule_0 l D ca ad A st (fX0_constantOf st 0 x2) x3) (cwV 3 hts gX3_rule_X3_askRule rfl rfl rfl (by decide +kernel) ⟨Nat.le_of_ble_eq_true rfl, Nat.le_of_ble_eq_true rfl⟩) hC hP hS (ow_q0_0) rfl rfl rfl hl.1 rfl (Nat.le_of_ble_eq_true rfl) dX3_rule_37 ⟨Nat.zero_le _, Nat.zero_le _⟩) hS (fun H locs hP hS => ?_)
      obtain ⟨st3, e3⟩ : ∃ z, z = (fX3_askRule_0 st (fX0_constantOf st 0 x2) x3).2 := ⟨_, rfl⟩
      rw [← e3] at hP
      refine lv_istore (lv' := [(7, .int ((fX3_askRule_0 st (fX0_constantOf st 0 x2) x3).1)), (6, .int (fX0_constantOf st 0 x2)), (5, .ref (ad 1 0)), (0, .ref (ad 0 0)), (1, .int x1), (2, .int x2), (3, .long x3)]) hx hb dX3_rule_40 hl (by decide) rfl (fun ls hl => ?_)
      refine lv_iload hx hb dX3_rule_42 (lv_at hl 0 rfl) ?_
      refine lv_iconst (v := 1) hx hb dX3_rule_44 (by decide) ?_
      refine lv_icmp_ne (tgt := 60) hx hb dX3_rule_45 (by decide) (fun c_4 => ?_) (fun c_4 => ?_)
      · refine lv_iload hx hb dX3_rule_60 (lv_at hl 0 rfl) ?_
        exact W.iret (v := (fX3_askRule_0 st (fX0_constantOf st 0 x2) x3).1) hx hb hr (fun t ht hW => ⟨⟨(fX3_askRule_0 st (fX0_constantOf st 0 x2) x3).1, st3, rfl, (by subst e3; simp only [fX3_rule, if_pos c_1, if_neg c_2, if_neg c_4]), ow_Bi ht hP⟩, hS.F ht⟩) hS.2.2 dX3_rule_62
      · refine lv_aload_n hx hb dX3_rule_48 rfl (lv_at hl 3 rfl) ?_
        refine lv_aload hx hb dX3_rule_49 (lv_at hl 2 rfl) ?_
        refine lv_iload hx hb dX3_rule_51 (lv_at hl 1 rfl) ?_
        refine lv_lload_n hx hb dX3_rule_53 rfl (lv_at hl 6 rfl) ?_
        refine og_clP (og_runS (As := [.ref (ad 1 0), .int (fX0_constantOf st 0 x2), .long x3]) (rest := [.ref (ad 0 0)]) ⟨hx, hb, hml, hown, hts⟩ (kX3_valueOf_0 l D ca ad A st3 (fX0_constantOf st 0 x2) x3) (va_cwS 3 hts gX3_rule_X3_valueOf rfl rfl rfl (by decide +kernel) ⟨Nat.le_of_ble_eq_true rfl, Nat.le_of_ble_eq_true rfl⟩) hC hP hS rfl hl.1 rfl (Nat.le_of_ble_eq_true rfl) dX3_rule_54 ⟨Nat.zero_le _, Nat.zero_le _⟩) hS (fun H locs hP hS => ?_)
        refine og_put (C := RX3) (T := TX3) (N := 14) (g := 0) (i := 0) (v := .long (fX3_valueOf_0 st3 (fX0_constantOf st 0 x2) x3)) (ty := .long) hx hb hts li_X3_rule_X3 tyX3 tyX3_ok nmX3 hown hC hP hS (ow_q0_0) rfl rfl 6 (by decide) (hts _ lk_X3_rule_7) rfl rfl (by decide +kernel) rfl rfl (Nat.le_of_ble_eq_true rfl) (we_0_l st3 (fX3_valueOf_0 st3 (fX0_constantOf st 0 x2) x3)) dX3_rule_57 (fun H locs hP hS => ?_)
        obtain ⟨st5, e5⟩ : ∃ z, z = (ow_sl st3 0 (fX3_valueOf_0 st3 (fX0_constantOf st 0 x2) x3)) := ⟨_, rfl⟩
        rw [← e5] at hP
        refine lv_iload hx hb dX3_rule_60 (lv_at hl 0 rfl) ?_
        exact W.iret (v := (fX3_askRule_0 st (fX0_constantOf st 0 x2) x3).1) hx hb hr (fun t ht hW => ⟨⟨(fX3_askRule_0 st (fX0_constantOf st 0 x2) x3).1, st5, rfl, (by subst e5; subst e3; simp only [fX3_rule, if_pos c_1, if_neg c_2, if_pos c_4]), ow_Bi ht hP⟩, hS.F ht⟩) hS.2.2 dX3_rule_62
    · refine lv_iconst (v := (-1)) hx hb dX3_rule_21 (by decide) ?_
      exact W.iret (v := (-1)) hx hb hr (fun t ht hW => ⟨⟨(-1), st, rfl, (by simp only [fX3_rule, if_pos c_1, if_pos c_2]), ow_Bi ht hP⟩, hS.F ht⟩) hS.2.2 dX3_rule_22
  · by_cases c_6 : x1 = 1
    · refine og_cqS (q := ad 1 1) (og_runV (C := RX3) (T := TX3) (N := 14) (g := 0) (i := 0) (As := [.int x1]) (rest := []) ⟨hx, hb, hml, hown, hts⟩ (kX3_kindNumbered l D ca ad A st x1) (cwV 1 hts gX3_rule_X3_kindNumbered rfl rfl rfl (by decide +kernel) ⟨Nat.le_of_ble_eq_true rfl, Nat.le_of_ble_eq_true rfl⟩) hC hP hS (ow_q0_0) rfl rfl rfl hl.1 rfl (Nat.le_of_ble_eq_true rfl) dX3_rule_2 ⟨Nat.zero_le _, Nat.zero_le _⟩) hS (by simp only [fX3_kindNumbered, if_neg c_1, if_pos c_6]) (fun H locs hP hS => ?_)
      refine lv_astore (lv' := [(5, .ref (ad 1 1)), (0, .ref (ad 0 0)), (1, .int x1), (2, .int x2), (3, .long x3)]) hx hb dX3_rule_5 hl (by decide) rfl (fun ls hl => ?_)
      refine lv_aload hx hb dX3_rule_7 (lv_at hl 0 rfl) ?_
      refine lv_ifnull hx hb dX3_rule_9 ?_
      refine lv_aload hx hb dX3_rule_12 (lv_at hl 0 rfl) ?_
      refine lv_iload_n hx hb dX3_rule_14 rfl (lv_at hl 3 rfl) ?_
      refine og_ciP (og_runVN (C := RX0) (T := TX0) (N := 7) (g := 1) (i := 1) (As := [.int x2]) (rest := []) ⟨hx, hb, hml, hown, hts⟩ (kX0_has l D ca ad A st 1 (by decide) x2) ⟨va_cnB 1 hts gX3_rule_X0_has_n94 rfl rfl rfl (hC.2.2.1 _ ln_X3_rule_0) (hts _ lk_X3_rule_1) (by decide +kernel) ⟨Nat.le_of_ble_eq_true rfl, Nat.le_of_ble_eq_true rfl⟩, (hts _ lk_X3_rule_2), (hts _ lk_X3_rule_3)⟩ hC hP hS (ow_q1_1) rfl rfl rfl hl.1 rfl (Nat.le_of_ble_eq_true rfl) dX3_rule_15 ⟨Nat.zero_le _, Nat.zero_le _⟩) hS (fun H locs hP hS => ?_)
      refine lv_if_ne (tgt := 23) hx hb dX3_rule_18 (by decide) (fun c_7 => ?_) (fun c_7 => ?_)
      · refine lv_aload hx hb dX3_rule_23 (lv_at hl 0 rfl) ?_
        refine lv_iload_n hx hb dX3_rule_25 rfl (lv_at hl 3 rfl) ?_
        refine og_ciP (og_runVN (C := RX0) (T := TX0) (N := 7) (g := 1) (i := 1) (As := [.int x2]) (rest := []) ⟨hx, hb, hml, hown, hts⟩ (kX0_constantOf l D ca ad A st 1 (by decide) x2) ⟨va_cnB 1 hts gX3_rule_X0_constantOf_n108 rfl rfl rfl (hC.2.2.1 _ ln_X3_rule_4) (hts _ lk_X3_rule_1) (by decide +kernel) ⟨Nat.le_of_ble_eq_true rfl, Nat.le_of_ble_eq_true rfl⟩, (hts _ lk_X3_rule_5), (hts _ lk_X3_rule_6)⟩ hC hP hS (ow_q1_1) rfl rfl rfl hl.1 rfl (Nat.le_of_ble_eq_true rfl) dX3_rule_26 ⟨Nat.zero_le _, Nat.zero_le _⟩) hS (fun H locs hP hS => ?_)
        refine lv_istore (lv' := [(6, .int (fX0_constantOf st 1 x2)), (5, .ref (ad 1 1)), (0, .ref (ad 0 0)), (1, .int x1), (2, .int x2), (3, .long x3)]) hx hb dX3_rule_29 hl (by decide) rfl (fun ls hl => ?_)
        refine lv_aload_n hx hb dX3_rule_31 rfl (lv_at hl 2 rfl) ?_
        refine lv_aload hx hb dX3_rule_32 (lv_at hl 1 rfl) ?_
        refine lv_iload hx hb dX3_rule_34 (lv_at hl 0 rfl) ?_
        refine lv_lload_n hx hb dX3_rule_36 rfl (lv_at hl 5 rfl) ?_
        refine og_ciW (og_runV (C := RX3) (T := TX3) (N := 14) (g := 0) (i := 0) (As := [.ref (ad 1 1), .int (fX0_constantOf st 1 x2), .long x3]) (rest := []) ⟨hx, hb, hml, hown, hts⟩ (kX3_askRule_1 l D ca ad A st (fX0_constantOf st 1 x2) x3) (cwV 3 hts gX3_rule_X3_askRule rfl rfl rfl (by decide +kernel) ⟨Nat.le_of_ble_eq_true rfl, Nat.le_of_ble_eq_true rfl⟩) hC hP hS (ow_q0_0) rfl rfl rfl hl.1 rfl (Nat.le_of_ble_eq_true rfl) dX3_rule_37 ⟨Nat.zero_le _, Nat.zero_le _⟩) hS (fun H locs hP hS => ?_)
        obtain ⟨st8, e8⟩ : ∃ z, z = (fX3_askRule_1 st (fX0_constantOf st 1 x2) x3).2 := ⟨_, rfl⟩
        rw [← e8] at hP
        refine lv_istore (lv' := [(7, .int ((fX3_askRule_1 st (fX0_constantOf st 1 x2) x3).1)), (6, .int (fX0_constantOf st 1 x2)), (5, .ref (ad 1 1)), (0, .ref (ad 0 0)), (1, .int x1), (2, .int x2), (3, .long x3)]) hx hb dX3_rule_40 hl (by decide) rfl (fun ls hl => ?_)
        refine lv_iload hx hb dX3_rule_42 (lv_at hl 0 rfl) ?_
        refine lv_iconst (v := 1) hx hb dX3_rule_44 (by decide) ?_
        refine lv_icmp_ne (tgt := 60) hx hb dX3_rule_45 (by decide) (fun c_9 => ?_) (fun c_9 => ?_)
        · refine lv_iload hx hb dX3_rule_60 (lv_at hl 0 rfl) ?_
          exact W.iret (v := (fX3_askRule_1 st (fX0_constantOf st 1 x2) x3).1) hx hb hr (fun t ht hW => ⟨⟨(fX3_askRule_1 st (fX0_constantOf st 1 x2) x3).1, st8, rfl, (by subst e8; simp only [fX3_rule, if_neg c_1, if_pos c_6, if_neg c_7, if_neg c_9]), ow_Bi ht hP⟩, hS.F ht⟩) hS.2.2 dX3_rule_62
        · refine lv_aload_n hx hb dX3_rule_48 rfl (lv_at hl 3 rfl) ?_
          refine lv_aload hx hb dX3_rule_49 (lv_at hl 2 rfl) ?_
          refine lv_iload hx hb dX3_rule_51 (lv_at hl 1 rfl) ?_
          refine lv_lload_n hx hb dX3_rule_53 rfl (lv_at hl 6 rfl) ?_
          refine og_clP (og_runS (As := [.ref (ad 1 1), .int (fX0_constantOf st 1 x2), .long x3]) (rest := [.ref (ad 0 0)]) ⟨hx, hb, hml, hown, hts⟩ (kX3_valueOf_1 l D ca ad A st8 (fX0_constantOf st 1 x2) x3) (va_cwS 3 hts gX3_rule_X3_valueOf rfl rfl rfl (by decide +kernel) ⟨Nat.le_of_ble_eq_true rfl, Nat.le_of_ble_eq_true rfl⟩) hC hP hS rfl hl.1 rfl (Nat.le_of_ble_eq_true rfl) dX3_rule_54 ⟨Nat.zero_le _, Nat.zero_le _⟩) hS (fun H locs hP hS => ?_)
          refine og_put (C := RX3) (T := TX3) (N := 14) (g := 0) (i := 0) (v := .long (fX3_valueOf_1 st8 (fX0_constantOf st 1 x2) x3)) (ty := .long) hx hb hts li_X3_rule_X3 tyX3 tyX3_ok nmX3 hown hC hP hS (ow_q0_0) rfl rfl 6 (by decide) (hts _ lk_X3_rule_7) rfl rfl (by decide +kernel) rfl rfl (Nat.le_of_ble_eq_true rfl) (we_0_l st8 (fX3_valueOf_1 st8 (fX0_constantOf st 1 x2) x3)) dX3_rule_57 (fun H locs hP hS => ?_)
          obtain ⟨st10, e10⟩ : ∃ z, z = (ow_sl st8 0 (fX3_valueOf_1 st8 (fX0_constantOf st 1 x2) x3)) := ⟨_, rfl⟩
          rw [← e10] at hP
          refine lv_iload hx hb dX3_rule_60 (lv_at hl 0 rfl) ?_
          exact W.iret (v := (fX3_askRule_1 st (fX0_constantOf st 1 x2) x3).1) hx hb hr (fun t ht hW => ⟨⟨(fX3_askRule_1 st (fX0_constantOf st 1 x2) x3).1, st10, rfl, (by subst e10; subst e8; simp only [fX3_rule, if_neg c_1, if_pos c_6, if_neg c_7, if_pos c_9]), ow_Bi ht hP⟩, hS.F ht⟩) hS.2.2 dX3_rule_62
      · refine lv_iconst (v := (-1)) hx hb dX3_rule_21 (by decide) ?_
        exact W.iret (v := (-1)) hx hb hr (fun t ht hW => ⟨⟨(-1), st, rfl, (by simp only [fX3_rule, if_neg c_1, if_pos c_6, if_pos c_7]), ow_Bi ht hP⟩, hS.F ht⟩) hS.2.2 dX3_rule_22
    · by_cases c_11 : x1 = 2
      · refine og_cqS (q := ad 1 2) (og_runV (C := RX3) (T := TX3) (N := 14) (g := 0) (i := 0) (As := [.int x1]) (rest := []) ⟨hx, hb, hml, hown, hts⟩ (kX3_kindNumbered l D ca ad A st x1) (cwV 1 hts gX3_rule_X3_kindNumbered rfl rfl rfl (by decide +kernel) ⟨Nat.le_of_ble_eq_true rfl, Nat.le_of_ble_eq_true rfl⟩) hC hP hS (ow_q0_0) rfl rfl rfl hl.1 rfl (Nat.le_of_ble_eq_true rfl) dX3_rule_2 ⟨Nat.zero_le _, Nat.zero_le _⟩) hS (by simp only [fX3_kindNumbered, if_neg c_1, if_neg c_6, if_pos c_11]) (fun H locs hP hS => ?_)
        refine lv_astore (lv' := [(5, .ref (ad 1 2)), (0, .ref (ad 0 0)), (1, .int x1), (2, .int x2), (3, .long x3)]) hx hb dX3_rule_5 hl (by decide) rfl (fun ls hl => ?_)
        refine lv_aload hx hb dX3_rule_7 (lv_at hl 0 rfl) ?_
        refine lv_ifnull hx hb dX3_rule_9 ?_
        refine lv_aload hx hb dX3_rule_12 (lv_at hl 0 rfl) ?_
        refine lv_iload_n hx hb dX3_rule_14 rfl (lv_at hl 3 rfl) ?_
        refine og_ciP (og_runVN (C := RX0) (T := TX0) (N := 7) (g := 1) (i := 2) (As := [.int x2]) (rest := []) ⟨hx, hb, hml, hown, hts⟩ (kX0_has l D ca ad A st 2 (by decide) x2) ⟨va_cnB 1 hts gX3_rule_X0_has_n94 rfl rfl rfl (hC.2.2.1 _ ln_X3_rule_0) (hts _ lk_X3_rule_1) (by decide +kernel) ⟨Nat.le_of_ble_eq_true rfl, Nat.le_of_ble_eq_true rfl⟩, (hts _ lk_X3_rule_2), (hts _ lk_X3_rule_3)⟩ hC hP hS (ow_q1_2) rfl rfl rfl hl.1 rfl (Nat.le_of_ble_eq_true rfl) dX3_rule_15 ⟨Nat.zero_le _, Nat.zero_le _⟩) hS (fun H locs hP hS => ?_)
        refine lv_if_ne (tgt := 23) hx hb dX3_rule_18 (by decide) (fun c_12 => ?_) (fun c_12 => ?_)
        · refine lv_aload hx hb dX3_rule_23 (lv_at hl 0 rfl) ?_
          refine lv_iload_n hx hb dX3_rule_25 rfl (lv_at hl 3 rfl) ?_
          refine og_ciP (og_runVN (C := RX0) (T := TX0) (N := 7) (g := 1) (i := 2) (As := [.int x2]) (rest := []) ⟨hx, hb, hml, hown, hts⟩ (kX0_constantOf l D ca ad A st 2 (by decide) x2) ⟨va_cnB 1 hts gX3_rule_X0_constantOf_n108 rfl rfl rfl (hC.2.2.1 _ ln_X3_rule_4) (hts _ lk_X3_rule_1) (by decide +kernel) ⟨Nat.le_of_ble_eq_true rfl, Nat.le_of_ble_eq_true rfl⟩, (hts _ lk_X3_rule_5), (hts _ lk_X3_rule_6)⟩ hC hP hS (ow_q1_2) rfl rfl rfl hl.1 rfl (Nat.le_of_ble_eq_true rfl) dX3_rule_26 ⟨Nat.zero_le _, Nat.zero_le _⟩) hS (fun H locs hP hS => ?_)
          refine lv_istore (lv' := [(6, .int (fX0_constantOf st 2 x2)), (5, .ref (ad 1 2)), (0, .ref (ad 0 0)), (1, .int x1), (2, .int x2), (3, .long x3)]) hx hb dX3_rule_29 hl (by decide) rfl (fun ls hl => ?_)
          refine lv_aload_n hx hb dX3_rule_31 rfl (lv_at hl 2 rfl) ?_
          refine lv_aload hx hb dX3_rule_32 (lv_at hl 1 rfl) ?_
          refine lv_iload hx hb dX3_rule_34 (lv_at hl 0 rfl) ?_
          refine lv_lload_n hx hb dX3_rule_36 rfl (lv_at hl 5 rfl) ?_
          refine og_ciW (og_runV (C := RX3) (T := TX3) (N := 14) (g := 0) (i := 0) (As := [.ref (ad 1 2), .int (fX0_constantOf st 2 x2), .long x3]) (rest := []) ⟨hx, hb, hml, hown, hts⟩ (kX3_askRule_2 l D ca ad A st (fX0_constantOf st 2 x2) x3) (cwV 3 hts gX3_rule_X3_askRule rfl rfl rfl (by decide +kernel) ⟨Nat.le_of_ble_eq_true rfl, Nat.le_of_ble_eq_true rfl⟩) hC hP hS (ow_q0_0) rfl rfl rfl hl.1 rfl (Nat.le_of_ble_eq_true rfl) dX3_rule_37 ⟨Nat.zero_le _, Nat.zero_le _⟩) hS (fun H locs hP hS => ?_)
          obtain ⟨st13, e13⟩ : ∃ z, z = (fX3_askRule_2 st (fX0_constantOf st 2 x2) x3).2 := ⟨_, rfl⟩
          rw [← e13] at hP
          refine lv_istore (lv' := [(7, .int ((fX3_askRule_2 st (fX0_constantOf st 2 x2) x3).1)), (6, .int (fX0_constantOf st 2 x2)), (5, .ref (ad 1 2)), (0, .ref (ad 0 0)), (1, .int x1), (2, .int x2), (3, .long x3)]) hx hb dX3_rule_40 hl (by decide) rfl (fun ls hl => ?_)
          refine lv_iload hx hb dX3_rule_42 (lv_at hl 0 rfl) ?_
          refine lv_iconst (v := 1) hx hb dX3_rule_44 (by decide) ?_
          refine lv_icmp_ne (tgt := 60) hx hb dX3_rule_45 (by decide) (fun c_14 => ?_) (fun c_14 => ?_)
          · refine lv_iload hx hb dX3_rule_60 (lv_at hl 0 rfl) ?_
            exact W.iret (v := (fX3_askRule_2 st (fX0_constantOf st 2 x2) x3).1) hx hb hr (fun t ht hW => ⟨⟨(fX3_askRule_2 st (fX0_constantOf st 2 x2) x3).1, st13, rfl, (by subst e13; simp only [fX3_rule, if_neg c_1, if_neg c_6, if_pos c_11, if_neg c_12, if_neg c_14]), ow_Bi ht hP⟩, hS.F ht⟩) hS.2.2 dX3_rule_62
          · refine lv_aload_n hx hb dX3_rule_48 rfl (lv_at hl 3 rfl) ?_
            refine lv_aload hx hb dX3_rule_49 (lv_at hl 2 rfl) ?_
            refine lv_iload hx hb dX3_rule_51 (lv_at hl 1 rfl) ?_
            refine lv_lload_n hx hb dX3_rule_53 rfl (lv_at hl 6 rfl) ?_
            refine og_clP (og_runS (As := [.ref (ad 1 2), .int (fX0_constantOf st 2 x2), .long x3]) (rest := [.ref (ad 0 0)]) ⟨hx, hb, hml, hown, hts⟩ (kX3_valueOf_2 l D ca ad A st13 (fX0_constantOf st 2 x2) x3) (va_cwS 3 hts gX3_rule_X3_valueOf rfl rfl rfl (by decide +kernel) ⟨Nat.le_of_ble_eq_true rfl, Nat.le_of_ble_eq_true rfl⟩) hC hP hS rfl hl.1 rfl (Nat.le_of_ble_eq_true rfl) dX3_rule_54 ⟨Nat.zero_le _, Nat.zero_le _⟩) hS (fun H locs hP hS => ?_)
            refine og_put (C := RX3) (T := TX3) (N := 14) (g := 0) (i := 0) (v := .long (fX3_valueOf_2 st13 (fX0_constantOf st 2 x2) x3)) (ty := .long) hx hb hts li_X3_rule_X3 tyX3 tyX3_ok nmX3 hown hC hP hS (ow_q0_0) rfl rfl 6 (by decide) (hts _ lk_X3_rule_7) rfl rfl (by decide +kernel) rfl rfl (Nat.le_of_ble_eq_true rfl) (we_0_l st13 (fX3_valueOf_2 st13 (fX0_constantOf st 2 x2) x3)) dX3_rule_57 (fun H locs hP hS => ?_)
            obtain ⟨st15, e15⟩ : ∃ z, z = (ow_sl st13 0 (fX3_valueOf_2 st13 (fX0_constantOf st 2 x2) x3)) := ⟨_, rfl⟩
            rw [← e15] at hP
            refine lv_iload hx hb dX3_rule_60 (lv_at hl 0 rfl) ?_
            exact W.iret (v := (fX3_askRule_2 st (fX0_constantOf st 2 x2) x3).1) hx hb hr (fun t ht hW => ⟨⟨(fX3_askRule_2 st (fX0_constantOf st 2 x2) x3).1, st15, rfl, (by subst e15; subst e13; simp only [fX3_rule, if_neg c_1, if_neg c_6, if_pos c_11, if_neg c_12, if_pos c_14]), ow_Bi ht hP⟩, hS.F ht⟩) hS.2.2 dX3_rule_62
        · refine lv_iconst (v := (-1)) hx hb dX3_rule_21 (by decide) ?_
          exact W.iret (v := (-1)) hx hb hr (fun t ht hW => ⟨⟨(-1), st, rfl, (by simp only [fX3_rule, if_neg c_1, if_neg c_6, if_pos c_11, if_pos c_12]), ow_Bi ht hP⟩, hS.F ht⟩) hS.2.2 dX3_rule_22
      · refine og_cqN (og_runV (C := RX3) (T := TX3) (N := 14) (g := 0) (i := 0) (As := [.int x1]) (rest := []) ⟨hx, hb, hml, hown, hts⟩ (kX3_kindNumbered l D ca ad A st x1) (cwV 1 hts gX3_rule_X3_kindNumbered rfl rfl rfl (by decide +kernel) ⟨Nat.le_of_ble_eq_true rfl, Nat.le_of_ble_eq_true rfl⟩) hC hP hS (ow_q0_0) rfl rfl rfl hl.1 rfl (Nat.le_of_ble_eq_true rfl) dX3_rule_2 ⟨Nat.zero_le _, Nat.zero_le _⟩) hS (by simp only [fX3_kindNumbered, if_neg c_1, if_neg c_6, if_neg c_11]) (fun H locs hP hS => ?_)
        refine lv_astoreN (lv' := [(5, .null), (0, .ref (ad 0 0)), (1, .int x1), (2, .int x2), (3, .long x3)]) hx hb dX3_rule_5 hl (by decide) rfl (fun ls hl => ?_)
        refine lv_aloadN hx hb dX3_rule_7 (lv_at hl 0 rfl) ?_
        refine lv_ifnullN (tgt := 21) hx hb dX3_rule_9 (by decide) ?_
        refine lv_iconst (v := (-1)) hx hb dX3_rule_21 (by decide) ?_
        exact W.iret (v := (-1)) hx hb hr (fun t ht hW => ⟨⟨(-1), st, rfl, (by simp only [fX3_rule, if_neg c_1, if_neg c_6, if_neg c_11]), ow_Bi ht hP⟩, hS.F ht⟩) hS.2.2 dX3_rule_22

theorem li_X3_result_X3 : ∀ w ∈ u_ws RX3 TX3 14, w ∈ wsX3_result := by decide +kernel
theorem lk_X3_result_1 : (.fieldLink RX3 52 "RecordLabels" "lastResult" "J" : Cond) ∈ wsX3_result := by decide +kernel
def fX3_result (st : ow_St) : Int64 := (st.2.1 0)
set_option maxHeartbeats 4000000 in
set_option maxRecDepth 100000 in
theorem kX3_result (l : Launch) (D : va_G) (ca : Nat → ClassId) (ad : ow_Ad) (A : Nat → Prop) (st : ow_St)  : Met l yX3_result wsX3_result ({ frames := 0, cells := 0, slots := 0, locals := 0 }) (va_Pc [.ref (ad 0 0)] (ow_W D ca ad A st)) (va_Ql (fun r st' => r = (fX3_result st) ∧ st' = st) (ow_B D ca ad) A) 0 0 A := by
  refine Met.ofW (cc := cX3_result) (maxL := 1) (ret := (some .long)) (by decide) rfl ?_
  intro p e s m args below meth c s₁ B hml hv
  obtain ⟨rfl, hP, hC⟩ := hv
  have hx := B.exec
  have hb := B.bytes
  have hr := B.returns
  have hts := atoms_spec (ws := wsX3_result) B.pre
  have hown : s.vm.findClass RX3 = some m.cls := findClass_of_methodNamed B.named
  have hlocks := B.notSynchronized
  have hS : va_S A s.heap s.heap [] := va_S.rf
  have hl := lv_entry ([.ref (ad 0 0)]) (n := 1) (Nat.le_of_ble_eq_true rfl)
  rw [lg_entry_eq]
  generalize (lg_sl ([.ref (ad 0 0)]) ++ List.replicate (1 - (lg_sl ([.ref (ad 0 0)])).length) Slot.unset).toArray = ls at hl ⊢
  have hl : lv_has ls 1 [(0, .ref (ad 0 0))] := hl
  refine lv_aload_n hx hb dX3_result_0 rfl (lv_at hl 0 rfl) ?_
  refine og_get (C := RX3) (T := TX3) (N := 14) (g := 0) (i := 0) (v := .long (st.2.1 0)) hx hb hts li_X3_result_X3 hown hC hP (ow_q0_0) rfl rfl 6 (by decide) (hts _ lk_X3_result_1) rfl rfl dX3_result_1 ?_
  exact W.lret (v := (st.2.1 0)) hx hb hr (fun t ht hW => ⟨⟨(st.2.1 0), st, rfl, ⟨(by simp only [fX3_result]), rfl⟩, ow_Bi ht hP⟩, hS.F ht⟩) hS.2.2 dX3_result_4

theorem ln_X3_fail_0 : (.fieldLinkNest RX3 119 "RecordLabels$Kind" "start" "I" "RecordLabels" : Cond) ∈ ow_nest := by decide +kernel
theorem li_X3_fail_X0 : ∀ w ∈ u_ws RX0 TX0 7, w ∈ wsX3_fail := by decide +kernel
theorem ln_X3_fail_2 : (.fieldLinkNest RX3 122 "RecordLabels$Kind" "toldToFail" "Z" "RecordLabels" : Cond) ∈ ow_nest := by decide +kernel
def fX3_fail (st : ow_St) (x1 x2 : Int32) : Int32 × ow_St := (if x1 = 0 then (if (st.1 1 0) = 0 then (let st3 := (ow_si st 2 0 x2); ((fX3_oneIf st (st.1 2 0)), st3)) else ((-3), st)) else (if x1 = 1 then (if (st.1 1 1) = 0 then (let st6 := (ow_si st 2 1 x2); ((fX3_oneIf st (st.1 2 1)), st6)) else ((-3), st)) else (if x1 = 2 then (if (st.1 1 2) = 0 then (let st9 := (ow_si st 2 2 x2); ((fX3_oneIf st (st.1 2 2)), st9)) else ((-3), st)) else ((-1), st))))
set_option maxHeartbeats 4000000 in
set_option maxRecDepth 100000 in
theorem kX3_fail (l : Launch) (D : va_G) (ca : Nat → ClassId) (ad : ow_Ad) (A : Nat → Prop) (st : ow_St) (x1 : Int32) (x2 : Int32) (hon : x2 = 0 ∨ x2 = 1) : Met l yX3_fail wsX3_fail ({ frames := 1, cells := 0, slots := 0, locals := 21 }) (va_Pc [.ref (ad 0 0), .int x1, .int x2] (ow_W D ca ad A st)) (va_Qi (fun r st' => (r, st') = (fX3_fail st x1 x2)) (ow_B D ca ad) A) 0 0 A := by
  refine Met.ofW (cc := cX3_fail) (maxL := 5) (ret := (some .int)) (by decide) rfl ?_
  intro p e s m args below meth c s₁ B hml hv
  obtain ⟨rfl, hP, hC⟩ := hv
  have hx := B.exec
  have hb := B.bytes
  have hr := B.returns
  have hts := atoms_spec (ws := wsX3_fail) B.pre
  have hown : s.vm.findClass RX3 = some m.cls := findClass_of_methodNamed B.named
  have hlocks := B.notSynchronized
  have hS : va_S A s.heap s.heap [] := va_S.rf
  have hl := lv_entry ([.ref (ad 0 0), .int x1, .int x2]) (n := 5) (Nat.le_of_ble_eq_true rfl)
  rw [lg_entry_eq]
  generalize (lg_sl ([.ref (ad 0 0), .int x1, .int x2]) ++ List.replicate (5 - (lg_sl ([.ref (ad 0 0), .int x1, .int x2])).length) Slot.unset).toArray = ls at hl ⊢
  have hl : lv_has ls 5 [(0, .ref (ad 0 0)), (1, .int x1), (2, .int x2)] := hl
  refine lv_aload_n hx hb dX3_fail_0 rfl (lv_at hl 0 rfl) ?_
  refine lv_iload_n hx hb dX3_fail_1 rfl (lv_at hl 1 rfl) ?_
  by_cases c_1 : x1 = 0
  · refine og_cqS (q := ad 1 0) (og_runV (C := RX3) (T := TX3) (N := 14) (g := 0) (i := 0) (As := [.int x1]) (rest := []) ⟨hx, hb, hml, hown, hts⟩ (kX3_kindNumbered l D ca ad A st x1) (cwV 1 hts gX3_fail_X3_kindNumbered rfl rfl rfl (by decide +kernel) ⟨Nat.le_of_ble_eq_true rfl, Nat.le_of_ble_eq_true rfl⟩) hC hP hS (ow_q0_0) rfl rfl rfl hl.1 rfl (Nat.le_of_ble_eq_true rfl) dX3_fail_2 ⟨Nat.zero_le _, Nat.zero_le _⟩) hS (by simp only [fX3_kindNumbered, if_pos c_1]) (fun H locs hP hS => ?_)
    refine lv_astore_n (lv' := [(3, .ref (ad 1 0)), (0, .ref (ad 0 0)), (1, .int x1), (2, .int x2)]) hx hb dX3_fail_5 rfl hl (by decide) rfl (fun ls hl => ?_)
    refine lv_aload_n hx hb dX3_fail_6 rfl (lv_at hl 0 rfl) ?_
    refine lv_ifnonnull (tgt := 12) hx hb dX3_fail_7 (by decide) ?_
    refine lv_aload_n hx hb dX3_fail_12 rfl (lv_at hl 0 rfl) ?_
    refine og_getN (C := RX0) (T := TX0) (N := 7) (g := 1) (i := 0) (v := .int (st.1 1 0)) hx hb hts li_X3_fail_X0 hown hC hP (ow_q1_0) rfl rfl 5 (by decide) ln_X3_fail_0 rfl rfl dX3_fail_13 ?_
    refine lv_if_eq (tgt := 22) hx hb dX3_fail_16 (by decide) (fun c_2 => ?_) (fun c_2 => ?_)
    · refine lv_aload_n hx hb dX3_fail_22 rfl (lv_at hl 0 rfl) ?_
      refine og_getN (C := RX0) (T := TX0) (N := 7) (g := 1) (i := 0) (v := .int (st.1 2 0)) hx hb hts li_X3_fail_X0 hown hC hP (ow_q1_0) rfl rfl 6 (by decide) ln_X3_fail_2 rfl rfl dX3_fail_23 ?_
      refine og_ciP (og_runS (As := [.int (st.1 2 0)]) (rest := []) ⟨hx, hb, hml, hown, hts⟩ (kX3_oneIf l D ca ad A st (st.1 2 0)) (va_cwS 1 hts gX3_fail_X3_oneIf rfl rfl rfl (by decide +kernel) ⟨Nat.le_of_ble_eq_true rfl, Nat.le_of_ble_eq_true rfl⟩) hC hP hS rfl hl.1 rfl (Nat.le_of_ble_eq_true rfl) dX3_fail_26 ⟨Nat.zero_le _, Nat.zero_le _⟩) hS (fun H locs hP hS => ?_)
      refine lv_istore (lv' := [(4, .int (fX3_oneIf st (st.1 2 0))), (3, .ref (ad 1 0)), (0, .ref (ad 0 0)), (1, .int x1), (2, .int x2)]) hx hb dX3_fail_29 hl (by decide) rfl (fun ls hl => ?_)
      refine lv_aload_n hx hb dX3_fail_31 rfl (lv_at hl 1 rfl) ?_
      refine lv_iload_n hx hb dX3_fail_32 rfl (lv_at hl 4 rfl) ?_
      refine og_putN (C := RX0) (T := TX0) (N := 7) (g := 1) (i := 0) (v := .int x2) (ty := .boolean) hx hb hts li_X3_fail_X0 tyX0 tyX0_ok nmX0 hown hC hP hS (ow_q1_0) rfl rfl 6 (by decide) ln_X3_fail_2 rfl rfl (by decide +kernel) (by rcases hon with rfl | rfl <;> rfl) (by rcases hon with rfl | rfl <;> rfl) (Nat.le_of_ble_eq_true rfl) (we_1_2 st 0 x2) dX3_fail_33 (fun H locs hP hS => ?_)
      obtain ⟨st3, e3⟩ : ∃ z, z = (ow_si st 2 0 x2) := ⟨_, rfl⟩
      rw [← e3] at hP
      refine lv_iload hx hb dX3_fail_36 (lv_at hl 0 rfl) ?_
      exact W.iret (v := (fX3_oneIf st (st.1 2 0))) hx hb hr (fun t ht hW => ⟨⟨(fX3_oneIf st (st.1 2 0)), st3, rfl, (by subst e3; simp only [fX3_fail, if_pos c_1, if_pos c_2]), ow_Bi ht hP⟩, hS.F ht⟩) hS.2.2 dX3_fail_38
    · refine lv_bipush (v := (-3)) hx hb dX3_fail_19 (by decide) ?_
      exact W.iret (v := (-3)) hx hb hr (fun t ht hW => ⟨⟨(-3), st, rfl, (by simp only [fX3_fail, if_pos c_1, if_neg c_2]), ow_Bi ht hP⟩, hS.F ht⟩) hS.2.2 dX3_fail_21
  · by_cases c_4 : x1 = 1
    · refine og_cqS (q := ad 1 1) (og_runV (C := RX3) (T := TX3) (N := 14) (g := 0) (i := 0) (As := [.int x1]) (rest := []) ⟨hx, hb, hml, hown, hts⟩ (kX3_kindNumbered l D ca ad A st x1) (cwV 1 hts gX3_fail_X3_kindNumbered rfl rfl rfl (by decide +kernel) ⟨Nat.le_of_ble_eq_true rfl, Nat.le_of_ble_eq_true rfl⟩) hC hP hS (ow_q0_0) rfl rfl rfl hl.1 rfl (Nat.le_of_ble_eq_true rfl) dX3_fail_2 ⟨Nat.zero_le _, Nat.zero_le _⟩) hS (by simp only [fX3_kindNumbered, if_neg c_1, if_pos c_4]) (fun H locs hP hS => ?_)
      refine lv_astore_n (lv' := [(3, .ref (ad 1 1)), (0, .ref (ad 0 0)), (1, .int x1), (2, .int x2)]) hx hb dX3_fail_5 rfl hl (by decide) rfl (fun ls hl => ?_)
      refine lv_aload_n hx hb dX3_fail_6 rfl (lv_at hl 0 rfl) ?_
      refine lv_ifnonnull (tgt := 12) hx hb dX3_fail_7 (by decide) ?_
      refine lv_aload_n hx hb dX3_fail_12 rfl (lv_at hl 0 rfl) ?_
      refine og_getN (C := RX0) (T := TX0) (N := 7) (g := 1) (i := 1) (v := .int (st.1 1 1)) hx hb hts li_X3_fail_X0 hown hC hP (ow_q1_1) rfl rfl 5 (by decide) ln_X3_fail_0 rfl rfl dX3_fail_13 ?_
      refine lv_if_eq (tgt := 22) hx hb dX3_fail_16 (by decide) (fun c_5 => ?_) (fun c_5 => ?_)
      · refine lv_aload_n hx hb dX3_fail_22 rfl (lv_at hl 0 rfl) ?_
        refine og_getN (C := RX0) (T := TX0) (N := 7) (g := 1) (i := 1) (v := .int (st.1 2 1)) hx hb hts li_X3_fail_X0 hown hC hP (ow_q1_1) rfl rfl 6 (by decide) ln_X3_fail_2 rfl rfl dX3_fail_23 ?_
        refine og_ciP (og_runS (As := [.int (st.1 2 1)]) (rest := []) ⟨hx, hb, hml, hown, hts⟩ (kX3_oneIf l D ca ad A st (st.1 2 1)) (va_cwS 1 hts gX3_fail_X3_oneIf rfl rfl rfl (by decide +kernel) ⟨Nat.le_of_ble_eq_true rfl, Nat.le_of_ble_eq_true rfl⟩) hC hP hS rfl hl.1 rfl (Nat.le_of_ble_eq_true rfl) dX3_fail_26 ⟨Nat.zero_le _, Nat.zero_le _⟩) hS (fun H locs hP hS => ?_)
        refine lv_istore (lv' := [(4, .int (fX3_oneIf st (st.1 2 1))), (3, .ref (ad 1 1)), (0, .ref (ad 0 0)), (1, .int x1), (2, .int x2)]) hx hb dX3_fail_29 hl (by decide) rfl (fun ls hl => ?_)
        refine lv_aload_n hx hb dX3_fail_31 rfl (lv_at hl 1 rfl) ?_
        refine lv_iload_n hx hb dX3_fail_32 rfl (lv_at hl 4 rfl) ?_
        refine og_putN (C := RX0) (T := TX0) (N := 7) (g := 1) (i := 1) (v := .int x2) (ty := .boolean) hx hb hts li_X3_fail_X0 tyX0 tyX0_ok nmX0 hown hC hP hS (ow_q1_1) rfl rfl 6 (by decide) ln_X3_fail_2 rfl rfl (by decide +kernel) (by rcases hon with rfl | rfl <;> rfl) (by rcases hon with rfl | rfl <;> rfl) (Nat.le_of_ble_eq_true rfl) (we_1_2 st 1 x2) dX3_fail_33 (fun H locs hP hS => ?_)
        obtain ⟨st6, e6⟩ : ∃ z, z = (ow_si st 2 1 x2) := ⟨_, rfl⟩
        rw [← e6] at hP
        refine lv_iload hx hb dX3_fail_36 (lv_at hl 0 rfl) ?_
        exact W.iret (v := (fX3_oneIf st (st.1 2 1))) hx hb hr (fun t ht hW => ⟨⟨(fX3_oneIf st (st.1 2 1)), st6, rfl, (by subst e6; simp only [fX3_fail, if_neg c_1, if_pos c_4, if_pos c_5]), ow_Bi ht hP⟩, hS.F ht⟩) hS.2.2 dX3_fail_38
      · refine lv_bipush (v := (-3)) hx hb dX3_fail_19 (by decide) ?_
        exact W.iret (v := (-3)) hx hb hr (fun t ht hW => ⟨⟨(-3), st, rfl, (by simp only [fX3_fail, if_neg c_1, if_pos c_4, if_neg c_5]), ow_Bi ht hP⟩, hS.F ht⟩) hS.2.2 dX3_fail_21
    · by_cases c_7 : x1 = 2
      · refine og_cqS (q := ad 1 2) (og_runV (C := RX3) (T := TX3) (N := 14) (g := 0) (i := 0) (As := [.int x1]) (rest := []) ⟨hx, hb, hml, hown, hts⟩ (kX3_kindNumbered l D ca ad A st x1) (cwV 1 hts gX3_fail_X3_kindNumbered rfl rfl rfl (by decide +kernel) ⟨Nat.le_of_ble_eq_true rfl, Nat.le_of_ble_eq_true rfl⟩) hC hP hS (ow_q0_0) rfl rfl rfl hl.1 rfl (Nat.le_of_ble_eq_true rfl) dX3_fail_2 ⟨Nat.zero_le _, Nat.zero_le _⟩) hS (by simp only [fX3_kindNumbered, if_neg c_1, if_neg c_4, if_pos c_7]) (fun H locs hP hS => ?_)
        refine lv_astore_n (lv' := [(3, .ref (ad 1 2)), (0, .ref (ad 0 0)), (1, .int x1), (2, .int x2)]) hx hb dX3_fail_5 rfl hl (by decide) rfl (fun ls hl => ?_)
        refine lv_aload_n hx hb dX3_fail_6 rfl (lv_at hl 0 rfl) ?_
        refine lv_ifnonnull (tgt := 12) hx hb dX3_fail_7 (by decide) ?_
        refine lv_aload_n hx hb dX3_fail_12 rfl (lv_at hl 0 rfl) ?_
        refine og_getN (C := RX0) (T := TX0) (N := 7) (g := 1) (i := 2) (v := .int (st.1 1 2)) hx hb hts li_X3_fail_X0 hown hC hP (ow_q1_2) rfl rfl 5 (by decide) ln_X3_fail_0 rfl rfl dX3_fail_13 ?_
        refine lv_if_eq (tgt := 22) hx hb dX3_fail_16 (by decide) (fun c_8 => ?_) (fun c_8 => ?_)
        · refine lv_aload_n hx hb dX3_fail_22 rfl (lv_at hl 0 rfl) ?_
          refine og_getN (C := RX0) (T := TX0) (N := 7) (g := 1) (i := 2) (v := .int (st.1 2 2)) hx hb hts li_X3_fail_X0 hown hC hP (ow_q1_2) rfl rfl 6 (by decide) ln_X3_fail_2 rfl rfl dX3_fail_23 ?_
          refine og_ciP (og_runS (As := [.int (st.1 2 2)]) (rest := []) ⟨hx, hb, hml, hown, hts⟩ (kX3_oneIf l D ca ad A st (st.1 2 2)) (va_cwS 1 hts gX3_fail_X3_oneIf rfl rfl rfl (by decide +kernel) ⟨Nat.le_of_ble_eq_true rfl, Nat.le_of_ble_eq_true rfl⟩) hC hP hS rfl hl.1 rfl (Nat.le_of_ble_eq_true rfl) dX3_fail_26 ⟨Nat.zero_le _, Nat.zero_le _⟩) hS (fun H locs hP hS => ?_)
          refine lv_istore (lv' := [(4, .int (fX3_oneIf st (st.1 2 2))), (3, .ref (ad 1 2)), (0, .ref (ad 0 0)), (1, .int x1), (2, .int x2)]) hx hb dX3_fail_29 hl (by decide) rfl (fun ls hl => ?_)
          refine lv_aload_n hx hb dX3_fail_31 rfl (lv_at hl 1 rfl) ?_
          refine lv_iload_n hx hb dX3_fail_32 rfl (lv_at hl 4 rfl) ?_
          refine og_putN (C := RX0) (T := TX0) (N := 7) (g := 1) (i := 2) (v := .int x2) (ty := .boolean) hx hb hts li_X3_fail_X0 tyX0 tyX0_ok nmX0 hown hC hP hS (ow_q1_2) rfl rfl 6 (by decide) ln_X3_fail_2 rfl rfl (by decide +kernel) (by rcases hon with rfl | rfl <;> rfl) (by rcases hon with rfl | rfl <;> rfl) (Nat.le_of_ble_eq_true rfl) (we_1_2 st 2 x2) dX3_fail_33 (fun H locs hP hS => ?_)
          obtain ⟨st9, e9⟩ : ∃ z, z = (ow_si st 2 2 x2) := ⟨_, rfl⟩
          rw [← e9] at hP
          refine lv_iload hx hb dX3_fail_36 (lv_at hl 0 rfl) ?_
          exact W.iret (v := (fX3_oneIf st (st.1 2 2))) hx hb hr (fun t ht hW => ⟨⟨(fX3_oneIf st (st.1 2 2)), st9, rfl, (by subst e9; simp only [fX3_fail, if_neg c_1, if_neg c_4, if_pos c_7, if_pos c_8]), ow_Bi ht hP⟩, hS.F ht⟩) hS.2.2 dX3_fail_38
        · refine lv_bipush (v := (-3)) hx hb dX3_fail_19 (by decide) ?_
          exact W.iret (v := (-3)) hx hb hr (fun t ht hW => ⟨⟨(-3), st, rfl, (by simp only [fX3_fail, if_neg c_1, if_neg c_4, if_pos c_7, if_neg c_8]), ow_Bi ht hP⟩, hS.F ht⟩) hS.2.2 dX3_fail_21
      · refine og_cqN (og_runV (C := RX3) (T := TX3) (N := 14) (g := 0) (i := 0) (As := [.int x1]) (rest := []) ⟨hx, hb, hml, hown, hts⟩ (kX3_kindNumbered l D ca ad A st x1) (cwV 1 hts gX3_fail_X3_kindNumbered rfl rfl rfl (by decide +kernel) ⟨Nat.le_of_ble_eq_true rfl, Nat.le_of_ble_eq_true rfl⟩) hC hP hS (ow_q0_0) rfl rfl rfl hl.1 rfl (Nat.le_of_ble_eq_true rfl) dX3_fail_2 ⟨Nat.zero_le _, Nat.zero_le _⟩) hS (by simp only [fX3_kindNumbered, if_neg c_1, if_neg c_4, if_neg c_7]) (fun H locs hP hS => ?_)
        refine lv_astore_nN (lv' := [(3, .null), (0, .ref (ad 0 0)), (1, .int x1), (2, .int x2)]) hx hb dX3_fail_5 rfl hl (by decide) rfl (fun ls hl => ?_)
        refine lv_aload_nN hx hb dX3_fail_6 rfl (lv_at hl 0 rfl) ?_
        refine lv_ifnonnullN hx hb dX3_fail_7 ?_
        refine lv_iconst (v := (-1)) hx hb dX3_fail_10 (by decide) ?_
        exact W.iret (v := (-1)) hx hb hr (fun t ht hW => ⟨⟨(-1), st, rfl, (by simp only [fX3_fail, if_neg c_1, if_neg c_4, if_neg c_7]), ow_Bi ht hP⟩, hS.F ht⟩) hS.2.2 dX3_fail_11

theorem ln_X3_started_0 : (.fieldLinkNest RX3 119 "RecordLabels$Kind" "start" "I" "RecordLabels" : Cond) ∈ ow_nest := by decide +kernel
theorem li_X3_started_X0 : ∀ w ∈ u_ws RX0 TX0 7, w ∈ wsX3_started := by decide +kernel
def fX3_started (st : ow_St) (x1 : Int32) : Int32 := (if x1 = 0 then (st.1 1 0) else (if x1 = 1 then (st.1 1 1) else (if x1 = 2 then (st.1 1 2) else (-1))))
set_option maxHeartbeats 4000000 in
set_option maxRecDepth 100000 in
theorem kX3_started (l : Launch) (D : va_G) (ca : Nat → ClassId) (ad : ow_Ad) (A : Nat → Prop) (st : ow_St) (x1 : Int32) : Met l yX3_started wsX3_started ({ frames := 1, cells := 0, slots := 0, locals := 21 }) (va_Pc [.ref (ad 0 0), .int x1] (ow_W D ca ad A st)) (va_Qi (fun r st' => r = (fX3_started st x1) ∧ st' = st) (ow_B D ca ad) A) 0 0 A := by
  refine Met.ofW (cc := cX3_started) (maxL := 3) (ret := (some .int)) (by decide) rfl ?_
  intro p e s m args below meth c s₁ B hml hv
  obtain ⟨rfl, hP, hC⟩ := hv
  have hx := B.exec
  have hb := B.bytes
  have hr := B.returns
  have hts := atoms_spec (ws := wsX3_started) B.pre
  have hown : s.vm.findClass RX3 = some m.cls := findClass_of_methodNamed B.named
  have hlocks := B.notSynchronized
  have hS : va_S A s.heap s.heap [] := va_S.rf
  have hl := lv_entry ([.ref (ad 0 0), .int x1]) (n := 3) (Nat.le_of_ble_eq_true rfl)
  rw [lg_entry_eq]
  generalize (lg_sl ([.ref (ad 0 0), .int x1]) ++ List.replicate (3 - (lg_sl ([.ref (ad 0 0), .int x1])).length) Slot.unset).toArray = ls at hl ⊢
  have hl : lv_has ls 3 [(0, .ref (ad 0 0)), (1, .int x1)] := hl
  refine lv_aload_n hx hb dX3_started_0 rfl (lv_at hl 0 rfl) ?_
  refine lv_iload_n hx hb dX3_started_1 rfl (lv_at hl 1 rfl) ?_
  by_cases c_1 : x1 = 0
  · refine og_cqS (q := ad 1 0) (og_runV (C := RX3) (T := TX3) (N := 14) (g := 0) (i := 0) (As := [.int x1]) (rest := []) ⟨hx, hb, hml, hown, hts⟩ (kX3_kindNumbered l D ca ad A st x1) (cwV 1 hts gX3_started_X3_kindNumbered rfl rfl rfl (by decide +kernel) ⟨Nat.le_of_ble_eq_true rfl, Nat.le_of_ble_eq_true rfl⟩) hC hP hS (ow_q0_0) rfl rfl rfl hl.1 rfl (Nat.le_of_ble_eq_true rfl) dX3_started_2 ⟨Nat.zero_le _, Nat.zero_le _⟩) hS (by simp only [fX3_kindNumbered, if_pos c_1]) (fun H locs hP hS => ?_)
    refine lv_astore_n (lv' := [(2, .ref (ad 1 0)), (0, .ref (ad 0 0)), (1, .int x1)]) hx hb dX3_started_5 rfl hl (by decide) rfl (fun ls hl => ?_)
    refine lv_aload_n hx hb dX3_started_6 rfl (lv_at hl 0 rfl) ?_
    refine lv_ifnonnull (tgt := 14) hx hb dX3_started_7 (by decide) ?_
    refine lv_aload_n hx hb dX3_started_14 rfl (lv_at hl 0 rfl) ?_
    refine og_getN (C := RX0) (T := TX0) (N := 7) (g := 1) (i := 0) (v := .int (st.1 1 0)) hx hb hts li_X3_started_X0 hown hC hP (ow_q1_0) rfl rfl 5 (by decide) ln_X3_started_0 rfl rfl dX3_started_15 ?_
    exact W.iret (v := (st.1 1 0)) hx hb hr (fun t ht hW => ⟨⟨(st.1 1 0), st, rfl, ⟨(by simp only [fX3_started, if_pos c_1]), rfl⟩, ow_Bi ht hP⟩, hS.F ht⟩) hS.2.2 dX3_started_18
  · by_cases c_2 : x1 = 1
    · refine og_cqS (q := ad 1 1) (og_runV (C := RX3) (T := TX3) (N := 14) (g := 0) (i := 0) (As := [.int x1]) (rest := []) ⟨hx, hb, hml, hown, hts⟩ (kX3_kindNumbered l D ca ad A st x1) (cwV 1 hts gX3_started_X3_kindNumbered rfl rfl rfl (by decide +kernel) ⟨Nat.le_of_ble_eq_true rfl, Nat.le_of_ble_eq_true rfl⟩) hC hP hS (ow_q0_0) rfl rfl rfl hl.1 rfl (Nat.le_of_ble_eq_true rfl) dX3_started_2 ⟨Nat.zero_le _, Nat.zero_le _⟩) hS (by simp only [fX3_kindNumbered, if_neg c_1, if_pos c_2]) (fun H locs hP hS => ?_)
      refine lv_astore_n (lv' := [(2, .ref (ad 1 1)), (0, .ref (ad 0 0)), (1, .int x1)]) hx hb dX3_started_5 rfl hl (by decide) rfl (fun ls hl => ?_)
      refine lv_aload_n hx hb dX3_started_6 rfl (lv_at hl 0 rfl) ?_
      refine lv_ifnonnull (tgt := 14) hx hb dX3_started_7 (by decide) ?_
      refine lv_aload_n hx hb dX3_started_14 rfl (lv_at hl 0 rfl) ?_
      refine og_getN (C := RX0) (T := TX0) (N := 7) (g := 1) (i := 1) (v := .int (st.1 1 1)) hx hb hts li_X3_started_X0 hown hC hP (ow_q1_1) rfl rfl 5 (by decide) ln_X3_started_0 rfl rfl dX3_started_15 ?_
      exact W.iret (v := (st.1 1 1)) hx hb hr (fun t ht hW => ⟨⟨(st.1 1 1), st, rfl, ⟨(by simp only [fX3_started, if_neg c_1, if_pos c_2]), rfl⟩, ow_Bi ht hP⟩, hS.F ht⟩) hS.2.2 dX3_started_18
    · by_cases c_3 : x1 = 2
      · refine og_cqS (q := ad 1 2) (og_runV (C := RX3) (T := TX3) (N := 14) (g := 0) (i := 0) (As := [.int x1]) (rest := []) ⟨hx, hb, hml, hown, hts⟩ (kX3_kindNumbered l D ca ad A st x1) (cwV 1 hts gX3_started_X3_kindNumbered rfl rfl rfl (by decide +kernel) ⟨Nat.le_of_ble_eq_true rfl, Nat.le_of_ble_eq_true rfl⟩) hC hP hS (ow_q0_0) rfl rfl rfl hl.1 rfl (Nat.le_of_ble_eq_true rfl) dX3_started_2 ⟨Nat.zero_le _, Nat.zero_le _⟩) hS (by simp only [fX3_kindNumbered, if_neg c_1, if_neg c_2, if_pos c_3]) (fun H locs hP hS => ?_)
        refine lv_astore_n (lv' := [(2, .ref (ad 1 2)), (0, .ref (ad 0 0)), (1, .int x1)]) hx hb dX3_started_5 rfl hl (by decide) rfl (fun ls hl => ?_)
        refine lv_aload_n hx hb dX3_started_6 rfl (lv_at hl 0 rfl) ?_
        refine lv_ifnonnull (tgt := 14) hx hb dX3_started_7 (by decide) ?_
        refine lv_aload_n hx hb dX3_started_14 rfl (lv_at hl 0 rfl) ?_
        refine og_getN (C := RX0) (T := TX0) (N := 7) (g := 1) (i := 2) (v := .int (st.1 1 2)) hx hb hts li_X3_started_X0 hown hC hP (ow_q1_2) rfl rfl 5 (by decide) ln_X3_started_0 rfl rfl dX3_started_15 ?_
        exact W.iret (v := (st.1 1 2)) hx hb hr (fun t ht hW => ⟨⟨(st.1 1 2), st, rfl, ⟨(by simp only [fX3_started, if_neg c_1, if_neg c_2, if_pos c_3]), rfl⟩, ow_Bi ht hP⟩, hS.F ht⟩) hS.2.2 dX3_started_18
      · refine og_cqN (og_runV (C := RX3) (T := TX3) (N := 14) (g := 0) (i := 0) (As := [.int x1]) (rest := []) ⟨hx, hb, hml, hown, hts⟩ (kX3_kindNumbered l D ca ad A st x1) (cwV 1 hts gX3_started_X3_kindNumbered rfl rfl rfl (by decide +kernel) ⟨Nat.le_of_ble_eq_true rfl, Nat.le_of_ble_eq_true rfl⟩) hC hP hS (ow_q0_0) rfl rfl rfl hl.1 rfl (Nat.le_of_ble_eq_true rfl) dX3_started_2 ⟨Nat.zero_le _, Nat.zero_le _⟩) hS (by simp only [fX3_kindNumbered, if_neg c_1, if_neg c_2, if_neg c_3]) (fun H locs hP hS => ?_)
        refine lv_astore_nN (lv' := [(2, .null), (0, .ref (ad 0 0)), (1, .int x1)]) hx hb dX3_started_5 rfl hl (by decide) rfl (fun ls hl => ?_)
        refine lv_aload_nN hx hb dX3_started_6 rfl (lv_at hl 0 rfl) ?_
        refine lv_ifnonnullN hx hb dX3_started_7 ?_
        refine lv_iconst (v := (-1)) hx hb dX3_started_10 (by decide) ?_
        refine lv_goto (tgt := 18) hx hb dX3_started_11 (by decide) ?_
        exact W.iret (v := (-1)) hx hb hr (fun t ht hW => ⟨⟨(-1), st, rfl, ⟨(by simp only [fX3_started, if_neg c_1, if_neg c_2, if_neg c_3]), rfl⟩, ow_Bi ht hP⟩, hS.F ht⟩) hS.2.2 dX3_started_18

theorem ln_X3_clear_0 : (.methodLinkNest RX3 134 yX1_size "RecordLabels" : Cond) ∈ ow_nest := by decide +kernel
theorem lk_X3_clear_1 : (.initialized RX1 : Cond) ∈ wsX3_clear := by decide +kernel
theorem lk_X3_clear_2 : (.instanceMethod yX1_size : Cond) ∈ wsX3_clear := by decide +kernel
theorem lk_X3_clear_3 : (.selects RX1 yX1_size yX1_size : Cond) ∈ wsX3_clear := by decide +kernel
theorem ln_X3_clear_4 : (.methodLinkNest RX3 138 yX1_become "RecordLabels" : Cond) ∈ ow_nest := by decide +kernel
theorem lk_X3_clear_5 : (.instanceMethod yX1_become : Cond) ∈ wsX3_clear := by decide +kernel
theorem lk_X3_clear_6 : (.selects RX1 yX1_become yX1_become : Cond) ∈ wsX3_clear := by decide +kernel
def fX3_clear (st : ow_St) (x1 x2 : Int32) : Int32 × ow_St := (if x1 < 0 ∨ 10 ≤ x1 then (if x2 = 0 then ((-1), st) else (if x2 = 1 then ((-1), st) else (if x2 = 2 then ((-1), st) else ((-1), st)))) else (if x2 = 0 then (let st6 := (fX1_become st x1.toNatClampNeg 0 0); ((fX1_size st x1.toNatClampNeg), st6)) else (if x2 = 1 then (let st8 := (fX1_become st x1.toNatClampNeg 1 0); ((fX1_size st x1.toNatClampNeg), st8)) else (if x2 = 2 then (let st10 := (fX1_become st x1.toNatClampNeg 2 0); ((fX1_size st x1.toNatClampNeg), st10)) else ((-1), st)))))
set_option maxHeartbeats 4000000 in
set_option maxRecDepth 100000 in
theorem kX3_clear (l : Launch) (D : va_G) (ca : Nat → ClassId) (ad : ow_Ad) (A : Nat → Prop) (st : ow_St) (x1 : Int32) (x2 : Int32) : Met l yX3_clear wsX3_clear ({ frames := 2, cells := 0, slots := 0, locals := 40 }) (va_Pc [.ref (ad 0 0), .int x1, .int x2] (ow_W D ca ad A st)) (va_Qi (fun r st' => (r, st') = (fX3_clear st x1 x2)) (ow_B D ca ad) A) 0 0 A := by
  refine Met.ofW (cc := cX3_clear) (maxL := 6) (ret := (some .int)) (by decide) rfl ?_
  intro p e s m args below meth c s₁ B hml hv
  obtain ⟨rfl, hP, hC⟩ := hv
  have hx := B.exec
  have hb := B.bytes
  have hr := B.returns
  have hts := atoms_spec (ws := wsX3_clear) B.pre
  have hown : s.vm.findClass RX3 = some m.cls := findClass_of_methodNamed B.named
  have hlocks := B.notSynchronized
  have hS : va_S A s.heap s.heap [] := va_S.rf
  have hl := lv_entry ([.ref (ad 0 0), .int x1, .int x2]) (n := 6) (Nat.le_of_ble_eq_true rfl)
  rw [lg_entry_eq]
  generalize (lg_sl ([.ref (ad 0 0), .int x1, .int x2]) ++ List.replicate (6 - (lg_sl ([.ref (ad 0 0), .int x1, .int x2])).length) Slot.unset).toArray = ls at hl ⊢
  have hl : lv_has ls 6 [(0, .ref (ad 0 0)), (1, .int x1), (2, .int x2)] := hl
  refine lv_aload_n hx hb dX3_clear_0 rfl (lv_at hl 0 rfl) ?_
  refine lv_iload_n hx hb dX3_clear_1 rfl (lv_at hl 1 rfl) ?_
  by_cases c_1 : x1 < 0 ∨ 10 ≤ x1
  · refine og_cqN (og_runV (C := RX3) (T := TX3) (N := 14) (g := 0) (i := 0) (As := [.int x1]) (rest := []) ⟨hx, hb, hml, hown, hts⟩ (kX3_setNumbered l D ca ad A st x1) (cwV 1 hts gX3_clear_X3_setNumbered rfl rfl rfl (by decide +kernel) ⟨Nat.le_of_ble_eq_true rfl, Nat.le_of_ble_eq_true rfl⟩) hC hP hS (ow_q0_0) rfl rfl rfl hl.1 rfl (Nat.le_of_ble_eq_true rfl) dX3_clear_2 ⟨Nat.zero_le _, Nat.zero_le _⟩) hS (setN_none c_1) (fun H locs hP hS => ?_)
    refine lv_astore_nN (lv' := [(3, .null), (0, .ref (ad 0 0)), (1, .int x1), (2, .int x2)]) hx hb dX3_clear_5 rfl hl (by decide) rfl (fun ls hl => ?_)
    refine lv_aload_n hx hb dX3_clear_6 rfl (lv_at hl 1 rfl) ?_
    refine lv_iload_n hx hb dX3_clear_7 rfl (lv_at hl 3 rfl) ?_
    by_cases c_2 : x2 = 0
    · refine og_cqS (q := ad 1 0) (og_runV (C := RX3) (T := TX3) (N := 14) (g := 0) (i := 0) (As := [.int x2]) (rest := []) ⟨hx, hb, hml, hown, hts⟩ (kX3_kindNumbered l D ca ad A st x2) (cwV 1 hts gX3_clear_X3_kindNumbered rfl rfl rfl (by decide +kernel) ⟨Nat.le_of_ble_eq_true rfl, Nat.le_of_ble_eq_true rfl⟩) hC hP hS (ow_q0_0) rfl rfl rfl hl.1 rfl (Nat.le_of_ble_eq_true rfl) dX3_clear_8 ⟨Nat.zero_le _, Nat.zero_le _⟩) hS (by simp only [fX3_kindNumbered, if_pos c_2]) (fun H locs hP hS => ?_)
      refine lv_astore (lv' := [(4, .ref (ad 1 0)), (3, .null), (0, .ref (ad 0 0)), (1, .int x1), (2, .int x2)]) hx hb dX3_clear_11 hl (by decide) rfl (fun ls hl => ?_)
      refine lv_aload_nN hx hb dX3_clear_13 rfl (lv_at hl 1 rfl) ?_
      refine lv_ifnullN (tgt := 22) hx hb dX3_clear_14 (by decide) ?_
      refine lv_iconst (v := (-1)) hx hb dX3_clear_22 (by decide) ?_
      exact W.iret (v := (-1)) hx hb hr (fun t ht hW => ⟨⟨(-1), st, rfl, (by simp only [fX3_clear, if_pos c_1, if_pos c_2]), ow_Bi ht hP⟩, hS.F ht⟩) hS.2.2 dX3_clear_23
    · by_cases c_3 : x2 = 1
      · refine og_cqS (q := ad 1 1) (og_runV (C := RX3) (T := TX3) (N := 14) (g := 0) (i := 0) (As := [.int x2]) (rest := []) ⟨hx, hb, hml, hown, hts⟩ (kX3_kindNumbered l D ca ad A st x2) (cwV 1 hts gX3_clear_X3_kindNumbered rfl rfl rfl (by decide +kernel) ⟨Nat.le_of_ble_eq_true rfl, Nat.le_of_ble_eq_true rfl⟩) hC hP hS (ow_q0_0) rfl rfl rfl hl.1 rfl (Nat.le_of_ble_eq_true rfl) dX3_clear_8 ⟨Nat.zero_le _, Nat.zero_le _⟩) hS (by simp only [fX3_kindNumbered, if_neg c_2, if_pos c_3]) (fun H locs hP hS => ?_)
        refine lv_astore (lv' := [(4, .ref (ad 1 1)), (3, .null), (0, .ref (ad 0 0)), (1, .int x1), (2, .int x2)]) hx hb dX3_clear_11 hl (by decide) rfl (fun ls hl => ?_)
        refine lv_aload_nN hx hb dX3_clear_13 rfl (lv_at hl 1 rfl) ?_
        refine lv_ifnullN (tgt := 22) hx hb dX3_clear_14 (by decide) ?_
        refine lv_iconst (v := (-1)) hx hb dX3_clear_22 (by decide) ?_
        exact W.iret (v := (-1)) hx hb hr (fun t ht hW => ⟨⟨(-1), st, rfl, (by simp only [fX3_clear, if_pos c_1, if_neg c_2, if_pos c_3]), ow_Bi ht hP⟩, hS.F ht⟩) hS.2.2 dX3_clear_23
      · by_cases c_4 : x2 = 2
        · refine og_cqS (q := ad 1 2) (og_runV (C := RX3) (T := TX3) (N := 14) (g := 0) (i := 0) (As := [.int x2]) (rest := []) ⟨hx, hb, hml, hown, hts⟩ (kX3_kindNumbered l D ca ad A st x2) (cwV 1 hts gX3_clear_X3_kindNumbered rfl rfl rfl (by decide +kernel) ⟨Nat.le_of_ble_eq_true rfl, Nat.le_of_ble_eq_true rfl⟩) hC hP hS (ow_q0_0) rfl rfl rfl hl.1 rfl (Nat.le_of_ble_eq_true rfl) dX3_clear_8 ⟨Nat.zero_le _, Nat.zero_le _⟩) hS (by simp only [fX3_kindNumbered, if_neg c_2, if_neg c_3, if_pos c_4]) (fun H locs hP hS => ?_)
          refine lv_astore (lv' := [(4, .ref (ad 1 2)), (3, .null), (0, .ref (ad 0 0)), (1, .int x1), (2, .int x2)]) hx hb dX3_clear_11 hl (by decide) rfl (fun ls hl => ?_)
          refine lv_aload_nN hx hb dX3_clear_13 rfl (lv_at hl 1 rfl) ?_
          refine lv_ifnullN (tgt := 22) hx hb dX3_clear_14 (by decide) ?_
          refine lv_iconst (v := (-1)) hx hb dX3_clear_22 (by decide) ?_
          exact W.iret (v := (-1)) hx hb hr (fun t ht hW => ⟨⟨(-1), st, rfl, (by simp only [fX3_clear, if_pos c_1, if_neg c_2, if_neg c_3, if_pos c_4]), ow_Bi ht hP⟩, hS.F ht⟩) hS.2.2 dX3_clear_23
        · refine og_cqN (og_runV (C := RX3) (T := TX3) (N := 14) (g := 0) (i := 0) (As := [.int x2]) (rest := []) ⟨hx, hb, hml, hown, hts⟩ (kX3_kindNumbered l D ca ad A st x2) (cwV 1 hts gX3_clear_X3_kindNumbered rfl rfl rfl (by decide +kernel) ⟨Nat.le_of_ble_eq_true rfl, Nat.le_of_ble_eq_true rfl⟩) hC hP hS (ow_q0_0) rfl rfl rfl hl.1 rfl (Nat.le_of_ble_eq_true rfl) dX3_clear_8 ⟨Nat.zero_le _, Nat.zero_le _⟩) hS (by simp only [fX3_kindNumbered, if_neg c_2, if_neg c_3, if_neg c_4]) (fun H locs hP hS => ?_)
          refine lv_astoreN (lv' := [(4, .null), (3, .null), (0, .ref (ad 0 0)), (1, .int x1), (2, .int x2)]) hx hb dX3_clear_11 hl (by decide) rfl (fun ls hl => ?_)
          refine lv_aload_nN hx hb dX3_clear_13 rfl (lv_at hl 1 rfl) ?_
          refine lv_ifnullN (tgt := 22) hx hb dX3_clear_14 (by decide) ?_
          refine lv_iconst (v := (-1)) hx hb dX3_clear_22 (by decide) ?_
          exact W.iret (v := (-1)) hx hb hr (fun t ht hW => ⟨⟨(-1), st, rfl, (by simp only [fX3_clear, if_pos c_1, if_neg c_2, if_neg c_3, if_neg c_4]), ow_Bi ht hP⟩, hS.F ht⟩) hS.2.2 dX3_clear_23
  · refine og_cqS (q := ad 5 x1.toNatClampNeg) (og_runV (C := RX3) (T := TX3) (N := 14) (g := 0) (i := 0) (As := [.int x1]) (rest := []) ⟨hx, hb, hml, hown, hts⟩ (kX3_setNumbered l D ca ad A st x1) (cwV 1 hts gX3_clear_X3_setNumbered rfl rfl rfl (by decide +kernel) ⟨Nat.le_of_ble_eq_true rfl, Nat.le_of_ble_eq_true rfl⟩) hC hP hS (ow_q0_0) rfl rfl rfl hl.1 rfl (Nat.le_of_ble_eq_true rfl) dX3_clear_2 ⟨Nat.zero_le _, Nat.zero_le _⟩) hS (setN_some c_1) (fun H locs hP hS => ?_)
    refine lv_astore_n (lv' := [(3, .ref (ad 5 x1.toNatClampNeg)), (0, .ref (ad 0 0)), (1, .int x1), (2, .int x2)]) hx hb dX3_clear_5 rfl hl (by decide) rfl (fun ls hl => ?_)
    refine lv_aload_n hx hb dX3_clear_6 rfl (lv_at hl 1 rfl) ?_
    refine lv_iload_n hx hb dX3_clear_7 rfl (lv_at hl 3 rfl) ?_
    by_cases c_5 : x2 = 0
    · refine og_cqS (q := ad 1 0) (og_runV (C := RX3) (T := TX3) (N := 14) (g := 0) (i := 0) (As := [.int x2]) (rest := []) ⟨hx, hb, hml, hown, hts⟩ (kX3_kindNumbered l D ca ad A st x2) (cwV 1 hts gX3_clear_X3_kindNumbered rfl rfl rfl (by decide +kernel) ⟨Nat.le_of_ble_eq_true rfl, Nat.le_of_ble_eq_true rfl⟩) hC hP hS (ow_q0_0) rfl rfl rfl hl.1 rfl (Nat.le_of_ble_eq_true rfl) dX3_clear_8 ⟨Nat.zero_le _, Nat.zero_le _⟩) hS (by simp only [fX3_kindNumbered, if_pos c_5]) (fun H locs hP hS => ?_)
      refine lv_astore (lv' := [(4, .ref (ad 1 0)), (3, .ref (ad 5 x1.toNatClampNeg)), (0, .ref (ad 0 0)), (1, .int x1), (2, .int x2)]) hx hb dX3_clear_11 hl (by decide) rfl (fun ls hl => ?_)
      refine lv_aload_n hx hb dX3_clear_13 rfl (lv_at hl 1 rfl) ?_
      refine lv_ifnull hx hb dX3_clear_14 ?_
      refine lv_aload hx hb dX3_clear_17 (lv_at hl 0 rfl) ?_
      refine lv_ifnonnull (tgt := 24) hx hb dX3_clear_19 (by decide) ?_
      refine lv_aload_n hx hb dX3_clear_24 rfl (lv_at hl 1 rfl) ?_
      refine og_ciP (og_runVN (C := RX1) (T := TX1) (N := 2) (g := 5) (i := x1.toNatClampNeg) (As := []) (rest := []) ⟨hx, hb, hml, hown, hts⟩ (kX1_size l D ca ad A st x1.toNatClampNeg (setN_b c_1)) ⟨va_cnB 0 hts gX3_clear_X1_size_n134 rfl rfl rfl (hC.2.2.1 _ ln_X3_clear_0) (hts _ lk_X3_clear_1) (by decide +kernel) ⟨Nat.le_of_ble_eq_true rfl, Nat.le_of_ble_eq_true rfl⟩, (hts _ lk_X3_clear_2), (hts _ lk_X3_clear_3)⟩ hC hP hS (ow_m5 (setN_b c_1)) rfl rfl rfl hl.1 rfl (Nat.le_of_ble_eq_true rfl) dX3_clear_25 ⟨Nat.zero_le _, Nat.zero_le _⟩) hS (fun H locs hP hS => ?_)
      refine lv_istore (lv' := [(5, .int (fX1_size st x1.toNatClampNeg)), (4, .ref (ad 1 0)), (3, .ref (ad 5 x1.toNatClampNeg)), (0, .ref (ad 0 0)), (1, .int x1), (2, .int x2)]) hx hb dX3_clear_28 hl (by decide) rfl (fun ls hl => ?_)
      refine lv_aload_n hx hb dX3_clear_30 rfl (lv_at hl 2 rfl) ?_
      refine lv_aload hx hb dX3_clear_31 (lv_at hl 1 rfl) ?_
      refine lv_iconst (v := 0) hx hb dX3_clear_33 (by decide) ?_
      refine og_cvW (og_runVN (C := RX1) (T := TX1) (N := 2) (g := 5) (i := x1.toNatClampNeg) (As := [.ref (ad 1 0), .int 0]) (rest := []) ⟨hx, hb, hml, hown, hts⟩ (kX1_become l D ca ad A st x1.toNatClampNeg (setN_b c_1) 0 0) ⟨va_cnB 2 hts gX3_clear_X1_become_n138 rfl rfl rfl (hC.2.2.1 _ ln_X3_clear_4) (hts _ lk_X3_clear_1) (by decide +kernel) ⟨Nat.le_of_ble_eq_true rfl, Nat.le_of_ble_eq_true rfl⟩, (hts _ lk_X3_clear_5), (hts _ lk_X3_clear_6)⟩ hC hP hS (ow_m5 (setN_b c_1)) rfl rfl rfl hl.1 rfl (Nat.le_of_ble_eq_true rfl) dX3_clear_34 ⟨Nat.zero_le _, Nat.zero_le _⟩) hS (fun H locs hP hS => ?_)
      obtain ⟨st6, e6⟩ : ∃ z, z = (fX1_become st x1.toNatClampNeg 0 0) := ⟨_, rfl⟩
      rw [← e6] at hP
      refine lv_iload hx hb dX3_clear_37 (lv_at hl 0 rfl) ?_
      exact W.iret (v := (fX1_size st x1.toNatClampNeg)) hx hb hr (fun t ht hW => ⟨⟨(fX1_size st x1.toNatClampNeg), st6, rfl, (by subst e6; simp only [fX3_clear, if_neg c_1, if_pos c_5]), ow_Bi ht hP⟩, hS.F ht⟩) hS.2.2 dX3_clear_39
    · by_cases c_7 : x2 = 1
      · refine og_cqS (q := ad 1 1) (og_runV (C := RX3) (T := TX3) (N := 14) (g := 0) (i := 0) (As := [.int x2]) (rest := []) ⟨hx, hb, hml, hown, hts⟩ (kX3_kindNumbered l D ca ad A st x2) (cwV 1 hts gX3_clear_X3_kindNumbered rfl rfl rfl (by decide +kernel) ⟨Nat.le_of_ble_eq_true rfl, Nat.le_of_ble_eq_true rfl⟩) hC hP hS (ow_q0_0) rfl rfl rfl hl.1 rfl (Nat.le_of_ble_eq_true rfl) dX3_clear_8 ⟨Nat.zero_le _, Nat.zero_le _⟩) hS (by simp only [fX3_kindNumbered, if_neg c_5, if_pos c_7]) (fun H locs hP hS => ?_)
        refine lv_astore (lv' := [(4, .ref (ad 1 1)), (3, .ref (ad 5 x1.toNatClampNeg)), (0, .ref (ad 0 0)), (1, .int x1), (2, .int x2)]) hx hb dX3_clear_11 hl (by decide) rfl (fun ls hl => ?_)
        refine lv_aload_n hx hb dX3_clear_13 rfl (lv_at hl 1 rfl) ?_
        refine lv_ifnull hx hb dX3_clear_14 ?_
        refine lv_aload hx hb dX3_clear_17 (lv_at hl 0 rfl) ?_
        refine lv_ifnonnull (tgt := 24) hx hb dX3_clear_19 (by decide) ?_
        refine lv_aload_n hx hb dX3_clear_24 rfl (lv_at hl 1 rfl) ?_
        refine og_ciP (og_runVN (C := RX1) (T := TX1) (N := 2) (g := 5) (i := x1.toNatClampNeg) (As := []) (rest := []) ⟨hx, hb, hml, hown, hts⟩ (kX1_size l D ca ad A st x1.toNatClampNeg (setN_b c_1)) ⟨va_cnB 0 hts gX3_clear_X1_size_n134 rfl rfl rfl (hC.2.2.1 _ ln_X3_clear_0) (hts _ lk_X3_clear_1) (by decide +kernel) ⟨Nat.le_of_ble_eq_true rfl, Nat.le_of_ble_eq_true rfl⟩, (hts _ lk_X3_clear_2), (hts _ lk_X3_clear_3)⟩ hC hP hS (ow_m5 (setN_b c_1)) rfl rfl rfl hl.1 rfl (Nat.le_of_ble_eq_true rfl) dX3_clear_25 ⟨Nat.zero_le _, Nat.zero_le _⟩) hS (fun H locs hP hS => ?_)
        refine lv_istore (lv' := [(5, .int (fX1_size st x1.toNatClampNeg)), (4, .ref (ad 1 1)), (3, .ref (ad 5 x1.toNatClampNeg)), (0, .ref (ad 0 0)), (1, .int x1), (2, .int x2)]) hx hb dX3_clear_28 hl (by decide) rfl (fun ls hl => ?_)
        refine lv_aload_n hx hb dX3_clear_30 rfl (lv_at hl 2 rfl) ?_
        refine lv_aload hx hb dX3_clear_31 (lv_at hl 1 rfl) ?_
        refine lv_iconst (v := 0) hx hb dX3_clear_33 (by decide) ?_
        refine og_cvW (og_runVN (C := RX1) (T := TX1) (N := 2) (g := 5) (i := x1.toNatClampNeg) (As := [.ref (ad 1 1), .int 0]) (rest := []) ⟨hx, hb, hml, hown, hts⟩ (kX1_become l D ca ad A st x1.toNatClampNeg (setN_b c_1) 1 0) ⟨va_cnB 2 hts gX3_clear_X1_become_n138 rfl rfl rfl (hC.2.2.1 _ ln_X3_clear_4) (hts _ lk_X3_clear_1) (by decide +kernel) ⟨Nat.le_of_ble_eq_true rfl, Nat.le_of_ble_eq_true rfl⟩, (hts _ lk_X3_clear_5), (hts _ lk_X3_clear_6)⟩ hC hP hS (ow_m5 (setN_b c_1)) rfl rfl rfl hl.1 rfl (Nat.le_of_ble_eq_true rfl) dX3_clear_34 ⟨Nat.zero_le _, Nat.zero_le _⟩) hS (fun H locs hP hS => ?_)
        obtain ⟨st8, e8⟩ : ∃ z, z = (fX1_become st x1.toNatClampNeg 1 0) := ⟨_, rfl⟩
        rw [← e8] at hP
        refine lv_iload hx hb dX3_clear_37 (lv_at hl 0 rfl) ?_
        exact W.iret (v := (fX1_size st x1.toNatClampNeg)) hx hb hr (fun t ht hW => ⟨⟨(fX1_size st x1.toNatClampNeg), st8, rfl, (by subst e8; simp only [fX3_clear, if_neg c_1, if_neg c_5, if_pos c_7]), ow_Bi ht hP⟩, hS.F ht⟩) hS.2.2 dX3_clear_39
      · by_cases c_9 : x2 = 2
        · refine og_cqS (q := ad 1 2) (og_runV (C := RX3) (T := TX3) (N := 14) (g := 0) (i := 0) (As := [.int x2]) (rest := []) ⟨hx, hb, hml, hown, hts⟩ (kX3_kindNumbered l D ca ad A st x2) (cwV 1 hts gX3_clear_X3_kindNumbered rfl rfl rfl (by decide +kernel) ⟨Nat.le_of_ble_eq_true rfl, Nat.le_of_ble_eq_true rfl⟩) hC hP hS (ow_q0_0) rfl rfl rfl hl.1 rfl (Nat.le_of_ble_eq_true rfl) dX3_clear_8 ⟨Nat.zero_le _, Nat.zero_le _⟩) hS (by simp only [fX3_kindNumbered, if_neg c_5, if_neg c_7, if_pos c_9]) (fun H locs hP hS => ?_)
          refine lv_astore (lv' := [(4, .ref (ad 1 2)), (3, .ref (ad 5 x1.toNatClampNeg)), (0, .ref (ad 0 0)), (1, .int x1), (2, .int x2)]) hx hb dX3_clear_11 hl (by decide) rfl (fun ls hl => ?_)
          refine lv_aload_n hx hb dX3_clear_13 rfl (lv_at hl 1 rfl) ?_
          refine lv_ifnull hx hb dX3_clear_14 ?_
          refine lv_aload hx hb dX3_clear_17 (lv_at hl 0 rfl) ?_
          refine lv_ifnonnull (tgt := 24) hx hb dX3_clear_19 (by decide) ?_
          refine lv_aload_n hx hb dX3_clear_24 rfl (lv_at hl 1 rfl) ?_
          refine og_ciP (og_runVN (C := RX1) (T := TX1) (N := 2) (g := 5) (i := x1.toNatClampNeg) (As := []) (rest := []) ⟨hx, hb, hml, hown, hts⟩ (kX1_size l D ca ad A st x1.toNatClampNeg (setN_b c_1)) ⟨va_cnB 0 hts gX3_clear_X1_size_n134 rfl rfl rfl (hC.2.2.1 _ ln_X3_clear_0) (hts _ lk_X3_clear_1) (by decide +kernel) ⟨Nat.le_of_ble_eq_true rfl, Nat.le_of_ble_eq_true rfl⟩, (hts _ lk_X3_clear_2), (hts _ lk_X3_clear_3)⟩ hC hP hS (ow_m5 (setN_b c_1)) rfl rfl rfl hl.1 rfl (Nat.le_of_ble_eq_true rfl) dX3_clear_25 ⟨Nat.zero_le _, Nat.zero_le _⟩) hS (fun H locs hP hS => ?_)
          refine lv_istore (lv' := [(5, .int (fX1_size st x1.toNatClampNeg)), (4, .ref (ad 1 2)), (3, .ref (ad 5 x1.toNatClampNeg)), (0, .ref (ad 0 0)), (1, .int x1), (2, .int x2)]) hx hb dX3_clear_28 hl (by decide) rfl (fun ls hl => ?_)
          refine lv_aload_n hx hb dX3_clear_30 rfl (lv_at hl 2 rfl) ?_
          refine lv_aload hx hb dX3_clear_31 (lv_at hl 1 rfl) ?_
          refine lv_iconst (v := 0) hx hb dX3_clear_33 (by decide) ?_
          refine og_cvW (og_runVN (C := RX1) (T := TX1) (N := 2) (g := 5) (i := x1.toNatClampNeg) (As := [.ref (ad 1 2), .int 0]) (rest := []) ⟨hx, hb, hml, hown, hts⟩ (kX1_become l D ca ad A st x1.toNatClampNeg (setN_b c_1) 2 0) ⟨va_cnB 2 hts gX3_clear_X1_become_n138 rfl rfl rfl (hC.2.2.1 _ ln_X3_clear_4) (hts _ lk_X3_clear_1) (by decide +kernel) ⟨Nat.le_of_ble_eq_true rfl, Nat.le_of_ble_eq_true rfl⟩, (hts _ lk_X3_clear_5), (hts _ lk_X3_clear_6)⟩ hC hP hS (ow_m5 (setN_b c_1)) rfl rfl rfl hl.1 rfl (Nat.le_of_ble_eq_true rfl) dX3_clear_34 ⟨Nat.zero_le _, Nat.zero_le _⟩) hS (fun H locs hP hS => ?_)
          obtain ⟨st10, e10⟩ : ∃ z, z = (fX1_become st x1.toNatClampNeg 2 0) := ⟨_, rfl⟩
          rw [← e10] at hP
          refine lv_iload hx hb dX3_clear_37 (lv_at hl 0 rfl) ?_
          exact W.iret (v := (fX1_size st x1.toNatClampNeg)) hx hb hr (fun t ht hW => ⟨⟨(fX1_size st x1.toNatClampNeg), st10, rfl, (by subst e10; simp only [fX3_clear, if_neg c_1, if_neg c_5, if_neg c_7, if_pos c_9]), ow_Bi ht hP⟩, hS.F ht⟩) hS.2.2 dX3_clear_39
        · refine og_cqN (og_runV (C := RX3) (T := TX3) (N := 14) (g := 0) (i := 0) (As := [.int x2]) (rest := []) ⟨hx, hb, hml, hown, hts⟩ (kX3_kindNumbered l D ca ad A st x2) (cwV 1 hts gX3_clear_X3_kindNumbered rfl rfl rfl (by decide +kernel) ⟨Nat.le_of_ble_eq_true rfl, Nat.le_of_ble_eq_true rfl⟩) hC hP hS (ow_q0_0) rfl rfl rfl hl.1 rfl (Nat.le_of_ble_eq_true rfl) dX3_clear_8 ⟨Nat.zero_le _, Nat.zero_le _⟩) hS (by simp only [fX3_kindNumbered, if_neg c_5, if_neg c_7, if_neg c_9]) (fun H locs hP hS => ?_)
          refine lv_astoreN (lv' := [(4, .null), (3, .ref (ad 5 x1.toNatClampNeg)), (0, .ref (ad 0 0)), (1, .int x1), (2, .int x2)]) hx hb dX3_clear_11 hl (by decide) rfl (fun ls hl => ?_)
          refine lv_aload_n hx hb dX3_clear_13 rfl (lv_at hl 1 rfl) ?_
          refine lv_ifnull hx hb dX3_clear_14 ?_
          refine lv_aloadN hx hb dX3_clear_17 (lv_at hl 0 rfl) ?_
          refine lv_ifnonnullN hx hb dX3_clear_19 ?_
          refine lv_iconst (v := (-1)) hx hb dX3_clear_22 (by decide) ?_
          exact W.iret (v := (-1)) hx hb hr (fun t ht hW => ⟨⟨(-1), st, rfl, (by simp only [fX3_clear, if_neg c_1, if_neg c_5, if_neg c_7, if_neg c_9]), ow_Bi ht hP⟩, hS.F ht⟩) hS.2.2 dX3_clear_23

theorem ln_X3_put_0 : (.fieldLinkNest RX3 142 "RecordLabels$LabelSet" "kind" "LRecordLabels$Kind;" "RecordLabels" : Cond) ∈ ow_nest := by decide +kernel
theorem li_X3_put_X1 : ∀ w ∈ u_ws RX1 TX1 2, w ∈ wsX3_put := by decide +kernel
theorem ln_X3_put_2 : (.methodLinkNest RX3 94 yX0_has "RecordLabels" : Cond) ∈ ow_nest := by decide +kernel
theorem lk_X3_put_3 : (.initialized RX0 : Cond) ∈ wsX3_put := by decide +kernel
theorem lk_X3_put_4 : (.instanceMethod yX0_has : Cond) ∈ wsX3_put := by decide +kernel
theorem lk_X3_put_5 : (.selects RX0 yX0_has yX0_has : Cond) ∈ wsX3_put := by decide +kernel
theorem ln_X3_put_6 : (.methodLinkNest RX3 108 yX0_constantOf "RecordLabels" : Cond) ∈ ow_nest := by decide +kernel
theorem lk_X3_put_7 : (.instanceMethod yX0_constantOf : Cond) ∈ wsX3_put := by decide +kernel
theorem lk_X3_put_8 : (.selects RX0 yX0_constantOf yX0_constantOf : Cond) ∈ wsX3_put := by decide +kernel
theorem ln_X3_put_9 : (.methodLinkNest RX3 145 yX1_holds "RecordLabels" : Cond) ∈ ow_nest := by decide +kernel
theorem lk_X3_put_10 : (.initialized RX1 : Cond) ∈ wsX3_put := by decide +kernel
theorem lk_X3_put_11 : (.instanceMethod yX1_holds : Cond) ∈ wsX3_put := by decide +kernel
theorem lk_X3_put_12 : (.selects RX1 yX1_holds yX1_holds : Cond) ∈ wsX3_put := by decide +kernel
theorem ln_X3_put_13 : (.fieldLinkNest RX3 148 "RecordLabels$LabelSet" "members" "I" "RecordLabels" : Cond) ∈ ow_nest := by decide +kernel
def fX3_put (st : ow_St) (x1 x2 x3 : Int32) : Int32 × ow_St := (if x1 < 0 ∨ 10 ≤ x1 then ((-1), st) else (if (fX0_has st (st.2.2 (x1.toNatClampNeg + 1)) x2) = 0 then ((-1), st) else (if x3 = 0 then (let st4 := (ow_si st 3 x1.toNatClampNeg ((st.1 3 x1.toNatClampNeg) &&& ((1 <<< ((fX0_constantOf st (st.2.2 (x1.toNatClampNeg + 1)) x2) &&& 31)) ^^^ (-1)))); ((fX3_oneIf st (fX1_holds st x1.toNatClampNeg (fX0_constantOf st (st.2.2 (x1.toNatClampNeg + 1)) x2))), st4)) else (let st5 := (ow_si st 3 x1.toNatClampNeg ((st.1 3 x1.toNatClampNeg) ||| (1 <<< ((fX0_constantOf st (st.2.2 (x1.toNatClampNeg + 1)) x2) &&& 31)))); ((fX3_oneIf st (fX1_holds st x1.toNatClampNeg (fX0_constantOf st (st.2.2 (x1.toNatClampNeg + 1)) x2))), st5)))))
set_option maxHeartbeats 4000000 in
set_option maxRecDepth 100000 in
theorem kX3_put (l : Launch) (D : va_G) (ca : Nat → ClassId) (ad : ow_Ad) (A : Nat → Prop) (st : ow_St) (x1 : Int32) (x2 : Int32) (x3 : Int32) (hsk : iv_sk st) : Met l yX3_put wsX3_put ({ frames := 2, cells := 0, slots := 0, locals := 42 }) (va_Pc [.ref (ad 0 0), .int x1, .int x2, .int x3] (ow_W D ca ad A st)) (va_Qi (fun r st' => (r, st') = (fX3_put st x1 x2 x3)) (ow_B D ca ad) A) 0 0 A := by
  refine Met.ofW (cc := cX3_put) (maxL := 8) (ret := (some .int)) (by decide) rfl ?_
  intro p e s m args below meth c s₁ B hml hv
  obtain ⟨rfl, hP, hC⟩ := hv
  have hx := B.exec
  have hb := B.bytes
  have hr := B.returns
  have hts := atoms_spec (ws := wsX3_put) B.pre
  have hown : s.vm.findClass RX3 = some m.cls := findClass_of_methodNamed B.named
  have hlocks := B.notSynchronized
  have hS : va_S A s.heap s.heap [] := va_S.rf
  have hl := lv_entry ([.ref (ad 0 0), .int x1, .int x2, .int x3]) (n := 8) (Nat.le_of_ble_eq_true rfl)
  rw [lg_entry_eq]
  generalize (lg_sl ([.ref (ad 0 0), .int x1, .int x2, .int x3]) ++ List.replicate (8 - (lg_sl ([.ref (ad 0 0), .int x1, .int x2, .int x3])).length) Slot.unset).toArray = ls at hl ⊢
  have hl : lv_has ls 8 [(0, .ref (ad 0 0)), (1, .int x1), (2, .int x2), (3, .int x3)] := hl
  refine lv_aload_n hx hb dX3_put_0 rfl (lv_at hl 0 rfl) ?_
  refine lv_iload_n hx hb dX3_put_1 rfl (lv_at hl 1 rfl) ?_
  by_cases c_1 : x1 < 0 ∨ 10 ≤ x1
  · refine og_cqN (og_runV (C := RX3) (T := TX3) (N := 14) (g := 0) (i := 0) (As := [.int x1]) (rest := []) ⟨hx, hb, hml, hown, hts⟩ (kX3_setNumbered l D ca ad A st x1) (cwV 1 hts gX3_put_X3_setNumbered rfl rfl rfl (by decide +kernel) ⟨Nat.le_of_ble_eq_true rfl, Nat.le_of_ble_eq_true rfl⟩) hC hP hS (ow_q0_0) rfl rfl rfl hl.1 rfl (Nat.le_of_ble_eq_true rfl) dX3_put_2 ⟨Nat.zero_le _, Nat.zero_le _⟩) hS (setN_none c_1) (fun H locs hP hS => ?_)
    refine lv_astoreN (lv' := [(4, .null), (0, .ref (ad 0 0)), (1, .int x1), (2, .int x2), (3, .int x3)]) hx hb dX3_put_5 hl (by decide) rfl (fun ls hl => ?_)
    refine lv_aloadN hx hb dX3_put_7 (lv_at hl 0 rfl) ?_
    refine lv_ifnullN (tgt := 24) hx hb dX3_put_9 (by decide) ?_
    refine lv_iconst (v := (-1)) hx hb dX3_put_24 (by decide) ?_
    exact W.iret (v := (-1)) hx hb hr (fun t ht hW => ⟨⟨(-1), st, rfl, (by simp only [fX3_put, if_pos c_1]), ow_Bi ht hP⟩, hS.F ht⟩) hS.2.2 dX3_put_25
  · refine og_cqS (q := ad 5 x1.toNatClampNeg) (og_runV (C := RX3) (T := TX3) (N := 14) (g := 0) (i := 0) (As := [.int x1]) (rest := []) ⟨hx, hb, hml, hown, hts⟩ (kX3_setNumbered l D ca ad A st x1) (cwV 1 hts gX3_put_X3_setNumbered rfl rfl rfl (by decide +kernel) ⟨Nat.le_of_ble_eq_true rfl, Nat.le_of_ble_eq_true rfl⟩) hC hP hS (ow_q0_0) rfl rfl rfl hl.1 rfl (Nat.le_of_ble_eq_true rfl) dX3_put_2 ⟨Nat.zero_le _, Nat.zero_le _⟩) hS (setN_some c_1) (fun H locs hP hS => ?_)
    refine lv_astore (lv' := [(4, .ref (ad 5 x1.toNatClampNeg)), (0, .ref (ad 0 0)), (1, .int x1), (2, .int x2), (3, .int x3)]) hx hb dX3_put_5 hl (by decide) rfl (fun ls hl => ?_)
    refine lv_aload hx hb dX3_put_7 (lv_at hl 0 rfl) ?_
    refine lv_ifnull hx hb dX3_put_9 ?_
    refine lv_aload hx hb dX3_put_12 (lv_at hl 0 rfl) ?_
    refine og_getN (C := RX1) (T := TX1) (N := 2) (g := 5) (i := x1.toNatClampNeg) (v := .ref (ad 1 (st.2.2 (x1.toNatClampNeg + 1)))) hx hb hts li_X3_put_X1 hown hC hP (ow_m5 (setN_b c_1)) rfl rfl 0 (by decide) ln_X3_put_0 rfl rfl dX3_put_14 ?_
    refine lv_iload_n hx hb dX3_put_17 rfl (lv_at hl 3 rfl) ?_
    refine og_ciP (og_runVN (C := RX0) (T := TX0) (N := 7) (g := 1) (i := (st.2.2 (x1.toNatClampNeg + 1))) (As := [.int x2]) (rest := []) ⟨hx, hb, hml, hown, hts⟩ (kX0_has l D ca ad A st (st.2.2 (x1.toNatClampNeg + 1)) (hsk _ (setN_b c_1)) x2) ⟨va_cnB 1 hts gX3_put_X0_has_n94 rfl rfl rfl (hC.2.2.1 _ ln_X3_put_2) (hts _ lk_X3_put_3) (by decide +kernel) ⟨Nat.le_of_ble_eq_true rfl, Nat.le_of_ble_eq_true rfl⟩, (hts _ lk_X3_put_4), (hts _ lk_X3_put_5)⟩ hC hP hS (ow_m1 (hsk _ (setN_b c_1))) rfl rfl rfl hl.1 rfl (Nat.le_of_ble_eq_true rfl) dX3_put_18 ⟨Nat.zero_le _, Nat.zero_le _⟩) hS (fun H locs hP hS => ?_)
    refine lv_if_ne (tgt := 26) hx hb dX3_put_21 (by decide) (fun c_2 => ?_) (fun c_2 => ?_)
    · refine lv_aload hx hb dX3_put_26 (lv_at hl 0 rfl) ?_
      refine og_getN (C := RX1) (T := TX1) (N := 2) (g := 5) (i := x1.toNatClampNeg) (v := .ref (ad 1 (st.2.2 (x1.toNatClampNeg + 1)))) hx hb hts li_X3_put_X1 hown hC hP (ow_m5 (setN_b c_1)) rfl rfl 0 (by decide) ln_X3_put_0 rfl rfl dX3_put_28 ?_
      refine lv_iload_n hx hb dX3_put_31 rfl (lv_at hl 3 rfl) ?_
      refine og_ciP (og_runVN (C := RX0) (T := TX0) (N := 7) (g := 1) (i := (st.2.2 (x1.toNatClampNeg + 1))) (As := [.int x2]) (rest := []) ⟨hx, hb, hml, hown, hts⟩ (kX0_constantOf l D ca ad A st (st.2.2 (x1.toNatClampNeg + 1)) (hsk _ (setN_b c_1)) x2) ⟨va_cnB 1 hts gX3_put_X0_constantOf_n108 rfl rfl rfl (hC.2.2.1 _ ln_X3_put_6) (hts _ lk_X3_put_3) (by decide +kernel) ⟨Nat.le_of_ble_eq_true rfl, Nat.le_of_ble_eq_true rfl⟩, (hts _ lk_X3_put_7), (hts _ lk_X3_put_8)⟩ hC hP hS (ow_m1 (hsk _ (setN_b c_1))) rfl rfl rfl hl.1 rfl (Nat.le_of_ble_eq_true rfl) dX3_put_32 ⟨Nat.zero_le _, Nat.zero_le _⟩) hS (fun H locs hP hS => ?_)
      refine lv_istore (lv' := [(5, .int (fX0_constantOf st (st.2.2 (x1.toNatClampNeg + 1)) x2)), (4, .ref (ad 5 x1.toNatClampNeg)), (0, .ref (ad 0 0)), (1, .int x1), (2, .int x2), (3, .int x3)]) hx hb dX3_put_35 hl (by decide) rfl (fun ls hl => ?_)
      refine lv_aload hx hb dX3_put_37 (lv_at hl 1 rfl) ?_
      refine lv_iload hx hb dX3_put_39 (lv_at hl 0 rfl) ?_
      refine og_ciP (og_runVN (C := RX1) (T := TX1) (N := 2) (g := 5) (i := x1.toNatClampNeg) (As := [.int (fX0_constantOf st (st.2.2 (x1.toNatClampNeg + 1)) x2)]) (rest := []) ⟨hx, hb, hml, hown, hts⟩ (kX1_holds l D ca ad A st x1.toNatClampNeg (setN_b c_1) (hsk _ (setN_b c_1)) (fX0_constantOf st (st.2.2 (x1.toNatClampNeg + 1)) x2)) ⟨va_cnB 1 hts gX3_put_X1_holds_n145 rfl rfl rfl (hC.2.2.1 _ ln_X3_put_9) (hts _ lk_X3_put_10) (by decide +kernel) ⟨Nat.le_of_ble_eq_true rfl, Nat.le_of_ble_eq_true rfl⟩, (hts _ lk_X3_put_11), (hts _ lk_X3_put_12)⟩ hC hP hS (ow_m5 (setN_b c_1)) rfl rfl rfl hl.1 rfl (Nat.le_of_ble_eq_true rfl) dX3_put_41 ⟨Nat.zero_le _, Nat.zero_le _⟩) hS (fun H locs hP hS => ?_)
      refine og_ciP (og_runS (As := [.int (fX1_holds st x1.toNatClampNeg (fX0_constantOf st (st.2.2 (x1.toNatClampNeg + 1)) x2))]) (rest := []) ⟨hx, hb, hml, hown, hts⟩ (kX3_oneIf l D ca ad A st (fX1_holds st x1.toNatClampNeg (fX0_constantOf st (st.2.2 (x1.toNatClampNeg + 1)) x2))) (va_cwS 1 hts gX3_put_X3_oneIf rfl rfl rfl (by decide +kernel) ⟨Nat.le_of_ble_eq_true rfl, Nat.le_of_ble_eq_true rfl⟩) hC hP hS rfl hl.1 rfl (Nat.le_of_ble_eq_true rfl) dX3_put_44 ⟨Nat.zero_le _, Nat.zero_le _⟩) hS (fun H locs hP hS => ?_)
      refine lv_istore (lv' := [(6, .int (fX3_oneIf st (fX1_holds st x1.toNatClampNeg (fX0_constantOf st (st.2.2 (x1.toNatClampNeg + 1)) x2)))), (5, .int (fX0_constantOf st (st.2.2 (x1.toNatClampNeg + 1)) x2)), (4, .ref (ad 5 x1.toNatClampNeg)), (0, .ref (ad 0 0)), (1, .int x1), (2, .int x2), (3, .int x3)]) hx hb dX3_put_47 hl (by decide) rfl (fun ls hl => ?_)
      refine lv_iconst (v := 1) hx hb dX3_put_49 (by decide) ?_
      refine lv_iload hx hb dX3_put_50 (lv_at hl 1 rfl) ?_
      refine lv_ishl hx hb dX3_put_52 ?_
      refine lv_istore (lv' := [(7, .int (1 <<< ((fX0_constantOf st (st.2.2 (x1.toNatClampNeg + 1)) x2) &&& 31))), (6, .int (fX3_oneIf st (fX1_holds st x1.toNatClampNeg (fX0_constantOf st (st.2.2 (x1.toNatClampNeg + 1)) x2)))), (5, .int (fX0_constantOf st (st.2.2 (x1.toNatClampNeg + 1)) x2)), (4, .ref (ad 5 x1.toNatClampNeg)), (0, .ref (ad 0 0)), (1, .int x1), (2, .int x2), (3, .int x3)]) hx hb dX3_put_53 hl (by decide) rfl (fun ls hl => ?_)
      refine lv_aload hx hb dX3_put_55 (lv_at hl 3 rfl) ?_
      refine lv_iload_n hx hb dX3_put_57 rfl (lv_at hl 7 rfl) ?_
      refine lv_if_eq (tgt := 72) hx hb dX3_put_58 (by decide) (fun c_3 => ?_) (fun c_3 => ?_)
      · refine lv_aload hx hb dX3_put_72 (lv_at hl 3 rfl) ?_
        refine og_getN (C := RX1) (T := TX1) (N := 2) (g := 5) (i := x1.toNatClampNeg) (v := .int (st.1 3 x1.toNatClampNeg)) hx hb hts li_X3_put_X1 hown hC hP (ow_m5 (setN_b c_1)) rfl rfl 1 (by decide) ln_X3_put_13 rfl rfl dX3_put_74 ?_
        refine lv_iload hx hb dX3_put_77 (lv_at hl 0 rfl) ?_
        refine lv_iconst (v := (-1)) hx hb dX3_put_79 (by decide) ?_
        refine lv_ixor hx hb dX3_put_80 ?_
        refine lv_iand hx hb dX3_put_81 ?_
        refine og_putN (C := RX1) (T := TX1) (N := 2) (g := 5) (i := x1.toNatClampNeg) (v := .int ((st.1 3 x1.toNatClampNeg) &&& ((1 <<< ((fX0_constantOf st (st.2.2 (x1.toNatClampNeg + 1)) x2) &&& 31)) ^^^ (-1)))) (ty := .int) hx hb hts li_X3_put_X1 tyX1 tyX1_ok nmX1 hown hC hP hS (ow_m5 (setN_b c_1)) rfl rfl 1 (by decide) ln_X3_put_13 rfl rfl (by decide +kernel) rfl rfl (Nat.le_of_ble_eq_true rfl) (we_5_m st x1.toNatClampNeg ((st.1 3 x1.toNatClampNeg) &&& ((1 <<< ((fX0_constantOf st (st.2.2 (x1.toNatClampNeg + 1)) x2) &&& 31)) ^^^ (-1)))) dX3_put_82 (fun H locs hP hS => ?_)
        obtain ⟨st4, e4⟩ : ∃ z, z = (ow_si st 3 x1.toNatClampNeg ((st.1 3 x1.toNatClampNeg) &&& ((1 <<< ((fX0_constantOf st (st.2.2 (x1.toNatClampNeg + 1)) x2) &&& 31)) ^^^ (-1)))) := ⟨_, rfl⟩
        rw [← e4] at hP
        refine lv_iload hx hb dX3_put_85 (lv_at hl 1 rfl) ?_
        exact W.iret (v := (fX3_oneIf st (fX1_holds st x1.toNatClampNeg (fX0_constantOf st (st.2.2 (x1.toNatClampNeg + 1)) x2)))) hx hb hr (fun t ht hW => ⟨⟨(fX3_oneIf st (fX1_holds st x1.toNatClampNeg (fX0_constantOf st (st.2.2 (x1.toNatClampNeg + 1)) x2))), st4, rfl, (by subst e4; simp only [fX3_put, if_neg c_1, if_neg c_2, if_pos c_3]), ow_Bi ht hP⟩, hS.F ht⟩) hS.2.2 dX3_put_87
      · refine lv_aload hx hb dX3_put_61 (lv_at hl 3 rfl) ?_
        refine og_getN (C := RX1) (T := TX1) (N := 2) (g := 5) (i := x1.toNatClampNeg) (v := .int (st.1 3 x1.toNatClampNeg)) hx hb hts li_X3_put_X1 hown hC hP (ow_m5 (setN_b c_1)) rfl rfl 1 (by decide) ln_X3_put_13 rfl rfl dX3_put_63 ?_
        refine lv_iload hx hb dX3_put_66 (lv_at hl 0 rfl) ?_
        refine lv_ior hx hb dX3_put_68 ?_
        refine lv_goto (tgt := 82) hx hb dX3_put_69 (by decide) ?_
        refine og_putN (C := RX1) (T := TX1) (N := 2) (g := 5) (i := x1.toNatClampNeg) (v := .int ((st.1 3 x1.toNatClampNeg) ||| (1 <<< ((fX0_constantOf st (st.2.2 (x1.toNatClampNeg + 1)) x2) &&& 31)))) (ty := .int) hx hb hts li_X3_put_X1 tyX1 tyX1_ok nmX1 hown hC hP hS (ow_m5 (setN_b c_1)) rfl rfl 1 (by decide) ln_X3_put_13 rfl rfl (by decide +kernel) rfl rfl (Nat.le_of_ble_eq_true rfl) (we_5_m st x1.toNatClampNeg ((st.1 3 x1.toNatClampNeg) ||| (1 <<< ((fX0_constantOf st (st.2.2 (x1.toNatClampNeg + 1)) x2) &&& 31)))) dX3_put_82 (fun H locs hP hS => ?_)
        obtain ⟨st5, e5⟩ : ∃ z, z = (ow_si st 3 x1.toNatClampNeg ((st.1 3 x1.toNatClampNeg) ||| (1 <<< ((fX0_constantOf st (st.2.2 (x1.toNatClampNeg + 1)) x2) &&& 31)))) := ⟨_, rfl⟩
        rw [← e5] at hP
        refine lv_iload hx hb dX3_put_85 (lv_at hl 1 rfl) ?_
        exact W.iret (v := (fX3_oneIf st (fX1_holds st x1.toNatClampNeg (fX0_constantOf st (st.2.2 (x1.toNatClampNeg + 1)) x2)))) hx hb hr (fun t ht hW => ⟨⟨(fX3_oneIf st (fX1_holds st x1.toNatClampNeg (fX0_constantOf st (st.2.2 (x1.toNatClampNeg + 1)) x2))), st5, rfl, (by subst e5; simp only [fX3_put, if_neg c_1, if_neg c_2, if_neg c_3]), ow_Bi ht hP⟩, hS.F ht⟩) hS.2.2 dX3_put_87
    · refine lv_iconst (v := (-1)) hx hb dX3_put_24 (by decide) ?_
      exact W.iret (v := (-1)) hx hb hr (fun t ht hW => ⟨⟨(-1), st, rfl, (by simp only [fX3_put, if_neg c_1, if_pos c_2]), ow_Bi ht hP⟩, hS.F ht⟩) hS.2.2 dX3_put_25

theorem ln_X3_join_0 : (.fieldLinkNest RX3 142 "RecordLabels$LabelSet" "kind" "LRecordLabels$Kind;" "RecordLabels" : Cond) ∈ ow_nest := by decide +kernel
theorem li_X3_join_X1 : ∀ w ∈ u_ws RX1 TX1 2, w ∈ wsX3_join := by decide +kernel
theorem ln_X3_join_2 : (.methodLinkNest RX3 138 yX1_become "RecordLabels" : Cond) ∈ ow_nest := by decide +kernel
theorem lk_X3_join_3 : (.initialized RX1 : Cond) ∈ wsX3_join := by decide +kernel
theorem lk_X3_join_4 : (.instanceMethod yX1_become : Cond) ∈ wsX3_join := by decide +kernel
theorem lk_X3_join_5 : (.selects RX1 yX1_become yX1_become : Cond) ∈ wsX3_join := by decide +kernel
theorem ln_X3_join_6 : (.methodLinkNest RX3 134 yX1_size "RecordLabels" : Cond) ∈ ow_nest := by decide +kernel
theorem lk_X3_join_7 : (.instanceMethod yX1_size : Cond) ∈ wsX3_join := by decide +kernel
theorem lk_X3_join_8 : (.selects RX1 yX1_size yX1_size : Cond) ∈ wsX3_join := by decide +kernel
def fX3_join (st : ow_St) (x1 x2 x3 x4 : Int32) : Int32 × ow_St := (if x2 < 0 ∨ 10 ≤ x2 then (if x3 < 0 ∨ 10 ≤ x3 then (if x4 < 0 ∨ 10 ≤ x4 then (if x1 < 0 then ((-1), st) else (if 3 < x1 then ((-1), st) else ((-1), st))) else (if x1 < 0 then ((-1), st) else (if 3 < x1 then ((-1), st) else ((-1), st)))) else (if x4 < 0 ∨ 10 ≤ x4 then (if x1 < 0 then ((-1), st) else (if 3 < x1 then ((-1), st) else ((-1), st))) else (if x1 < 0 then ((-1), st) else (if 3 < x1 then ((-1), st) else ((-1), st))))) else (if x3 < 0 ∨ 10 ≤ x3 then (if x4 < 0 ∨ 10 ≤ x4 then (if x1 < 0 then ((-1), st) else (if 3 < x1 then ((-1), st) else ((-1), st))) else (if x1 < 0 then ((-1), st) else (if 3 < x1 then ((-1), st) else ((-1), st)))) else (if x4 < 0 ∨ 10 ≤ x4 then (if x1 < 0 then ((-1), st) else (if 3 < x1 then ((-1), st) else ((-1), st))) else (if x1 < 0 then ((-1), st) else (if 3 < x1 then ((-1), st) else (if x1 = 3 then (let st25 := (fX1_become st x4.toNatClampNeg (st.2.2 (x2.toNatClampNeg + 1)) (fX3_joined st x1 x2.toNatClampNeg x3.toNatClampNeg)); ((fX1_size st25 x4.toNatClampNeg), st25)) else (if (st.2.2 (x2.toNatClampNeg + 1)) = (st.2.2 (x3.toNatClampNeg + 1)) then (let st27 := (fX1_become st x4.toNatClampNeg (st.2.2 (x2.toNatClampNeg + 1)) (fX3_joined st x1 x2.toNatClampNeg x3.toNatClampNeg)); ((fX1_size st27 x4.toNatClampNeg), st27)) else ((-3), st))))))))
set_option maxHeartbeats 4000000 in
set_option maxRecDepth 100000 in
theorem kX3_join (l : Launch) (D : va_G) (ca : Nat → ClassId) (ad : ow_Ad) (A : Nat → Prop) (st : ow_St) (x1 : Int32) (x2 : Int32) (x3 : Int32) (x4 : Int32) (hsk : iv_sk st) : Met l yX3_join wsX3_join ({ frames := 2, cells := 0, slots := 0, locals := 40 }) (va_Pc [.ref (ad 0 0), .int x1, .int x2, .int x3, .int x4] (ow_W D ca ad A st)) (va_Qi (fun r st' => (r, st') = (fX3_join st x1 x2 x3 x4)) (ow_B D ca ad) A) 0 0 A := by
  refine Met.ofW (cc := cX3_join) (maxL := 8) (ret := (some .int)) (by decide) rfl ?_
  intro p e s m args below meth c s₁ B hml hv
  obtain ⟨rfl, hP, hC⟩ := hv
  have hx := B.exec
  have hb := B.bytes
  have hr := B.returns
  have hts := atoms_spec (ws := wsX3_join) B.pre
  have hown : s.vm.findClass RX3 = some m.cls := findClass_of_methodNamed B.named
  have hlocks := B.notSynchronized
  have hS : va_S A s.heap s.heap [] := va_S.rf
  have hl := lv_entry ([.ref (ad 0 0), .int x1, .int x2, .int x3, .int x4]) (n := 8) (Nat.le_of_ble_eq_true rfl)
  rw [lg_entry_eq]
  generalize (lg_sl ([.ref (ad 0 0), .int x1, .int x2, .int x3, .int x4]) ++ List.replicate (8 - (lg_sl ([.ref (ad 0 0), .int x1, .int x2, .int x3, .int x4])).length) Slot.unset).toArray = ls at hl ⊢
  have hl : lv_has ls 8 [(0, .ref (ad 0 0)), (1, .int x1), (2, .int x2), (3, .int x3), (4, .int x4)] := hl
  refine lv_aload_n hx hb dX3_join_0 rfl (lv_at hl 0 rfl) ?_
  refine lv_iload_n hx hb dX3_join_1 rfl (lv_at hl 2 rfl) ?_
  by_cases c_1 : x2 < 0 ∨ 10 ≤ x2
  · refine og_cqN (og_runV (C := RX3) (T := TX3) (N := 14) (g := 0) (i := 0) (As := [.int x2]) (rest := []) ⟨hx, hb, hml, hown, hts⟩ (kX3_setNumbered l D ca ad A st x2) (cwV 1 hts gX3_join_X3_setNumbered rfl rfl rfl (by decide +kernel) ⟨Nat.le_of_ble_eq_true rfl, Nat.le_of_ble_eq_true rfl⟩) hC hP hS (ow_q0_0) rfl rfl rfl hl.1 rfl (Nat.le_of_ble_eq_true rfl) dX3_join_2 ⟨Nat.zero_le _, Nat.zero_le _⟩) hS (setN_none c_1) (fun H locs hP hS => ?_)
    refine lv_astoreN (lv' := [(5, .null), (0, .ref (ad 0 0)), (1, .int x1), (2, .int x2), (3, .int x3), (4, .int x4)]) hx hb dX3_join_5 hl (by decide) rfl (fun ls hl => ?_)
    refine lv_aload_n hx hb dX3_join_7 rfl (lv_at hl 1 rfl) ?_
    refine lv_iload_n hx hb dX3_join_8 rfl (lv_at hl 4 rfl) ?_
    by_cases c_2 : x3 < 0 ∨ 10 ≤ x3
    · refine og_cqN (og_runV (C := RX3) (T := TX3) (N := 14) (g := 0) (i := 0) (As := [.int x3]) (rest := []) ⟨hx, hb, hml, hown, hts⟩ (kX3_setNumbered l D ca ad A st x3) (cwV 1 hts gX3_join_X3_setNumbered rfl rfl rfl (by decide +kernel) ⟨Nat.le_of_ble_eq_true rfl, Nat.le_of_ble_eq_true rfl⟩) hC hP hS (ow_q0_0) rfl rfl rfl hl.1 rfl (Nat.le_of_ble_eq_true rfl) dX3_join_9 ⟨Nat.zero_le _, Nat.zero_le _⟩) hS (setN_none c_2) (fun H locs hP hS => ?_)
      refine lv_astoreN (lv' := [(6, .null), (5, .null), (0, .ref (ad 0 0)), (1, .int x1), (2, .int x2), (3, .int x3), (4, .int x4)]) hx hb dX3_join_12 hl (by decide) rfl (fun ls hl => ?_)
      refine lv_aload_n hx hb dX3_join_14 rfl (lv_at hl 2 rfl) ?_
      refine lv_iload hx hb dX3_join_15 (lv_at hl 6 rfl) ?_
      by_cases c_3 : x4 < 0 ∨ 10 ≤ x4
      · refine og_cqN (og_runV (C := RX3) (T := TX3) (N := 14) (g := 0) (i := 0) (As := [.int x4]) (rest := []) ⟨hx, hb, hml, hown, hts⟩ (kX3_setNumbered l D ca ad A st x4) (cwV 1 hts gX3_join_X3_setNumbered rfl rfl rfl (by decide +kernel) ⟨Nat.le_of_ble_eq_true rfl, Nat.le_of_ble_eq_true rfl⟩) hC hP hS (ow_q0_0) rfl rfl rfl hl.1 rfl (Nat.le_of_ble_eq_true rfl) dX3_join_17 ⟨Nat.zero_le _, Nat.zero_le _⟩) hS (setN_none c_3) (fun H locs hP hS => ?_)
        refine lv_astoreN (lv' := [(7, .null), (6, .null), (5, .null), (0, .ref (ad 0 0)), (1, .int x1), (2, .int x2), (3, .int x3), (4, .int x4)]) hx hb dX3_join_20 hl (by decide) rfl (fun ls hl => ?_)
        refine lv_iload_n hx hb dX3_join_22 rfl (lv_at hl 4 rfl) ?_
        refine lv_if_lt (tgt := 46) hx hb dX3_join_23 (by decide) (fun c_4 => ?_) (fun c_4 => ?_)
        · refine lv_iconst (v := (-1)) hx hb dX3_join_46 (by decide) ?_
          exact W.iret (v := (-1)) hx hb hr (fun t ht hW => ⟨⟨(-1), st, rfl, (by simp only [fX3_join, if_pos c_1, if_pos c_2, if_pos c_3, if_pos c_4]), ow_Bi ht hP⟩, hS.F ht⟩) hS.2.2 dX3_join_47
        · refine lv_iload_n hx hb dX3_join_26 rfl (lv_at hl 4 rfl) ?_
          refine lv_iconst (v := 3) hx hb dX3_join_27 (by decide) ?_
          refine lv_icmp_gt (tgt := 46) hx hb dX3_join_28 (by decide) (fun c_5 => ?_) (fun c_5 => ?_)
          · refine lv_iconst (v := (-1)) hx hb dX3_join_46 (by decide) ?_
            exact W.iret (v := (-1)) hx hb hr (fun t ht hW => ⟨⟨(-1), st, rfl, (by simp only [fX3_join, if_pos c_1, if_pos c_2, if_pos c_3, if_neg c_4, if_pos c_5]), ow_Bi ht hP⟩, hS.F ht⟩) hS.2.2 dX3_join_47
          · refine lv_aloadN hx hb dX3_join_31 (lv_at hl 2 rfl) ?_
            refine lv_ifnullN (tgt := 46) hx hb dX3_join_33 (by decide) ?_
            refine lv_iconst (v := (-1)) hx hb dX3_join_46 (by decide) ?_
            exact W.iret (v := (-1)) hx hb hr (fun t ht hW => ⟨⟨(-1), st, rfl, (by simp only [fX3_join, if_pos c_1, if_pos c_2, if_pos c_3, if_neg c_4, if_neg c_5]), ow_Bi ht hP⟩, hS.F ht⟩) hS.2.2 dX3_join_47
      · refine og_cqS (q := ad 5 x4.toNatClampNeg) (og_runV (C := RX3) (T := TX3) (N := 14) (g := 0) (i := 0) (As := [.int x4]) (rest := []) ⟨hx, hb, hml, hown, hts⟩ (kX3_setNumbered l D ca ad A st x4) (cwV 1 hts gX3_join_X3_setNumbered rfl rfl rfl (by decide +kernel) ⟨Nat.le_of_ble_eq_true rfl, Nat.le_of_ble_eq_true rfl⟩) hC hP hS (ow_q0_0) rfl rfl rfl hl.1 rfl (Nat.le_of_ble_eq_true rfl) dX3_join_17 ⟨Nat.zero_le _, Nat.zero_le _⟩) hS (setN_some c_3) (fun H locs hP hS => ?_)
        refine lv_astore (lv' := [(7, .ref (ad 5 x4.toNatClampNeg)), (6, .null), (5, .null), (0, .ref (ad 0 0)), (1, .int x1), (2, .int x2), (3, .int x3), (4, .int x4)]) hx hb dX3_join_20 hl (by decide) rfl (fun ls hl => ?_)
        refine lv_iload_n hx hb dX3_join_22 rfl (lv_at hl 4 rfl) ?_
        refine lv_if_lt (tgt := 46) hx hb dX3_join_23 (by decide) (fun c_6 => ?_) (fun c_6 => ?_)
        · refine lv_iconst (v := (-1)) hx hb dX3_join_46 (by decide) ?_
          exact W.iret (v := (-1)) hx hb hr (fun t ht hW => ⟨⟨(-1), st, rfl, (by simp only [fX3_join, if_pos c_1, if_pos c_2, if_neg c_3, if_pos c_6]), ow_Bi ht hP⟩, hS.F ht⟩) hS.2.2 dX3_join_47
        · refine lv_iload_n hx hb dX3_join_26 rfl (lv_at hl 4 rfl) ?_
          refine lv_iconst (v := 3) hx hb dX3_join_27 (by decide) ?_
          refine lv_icmp_gt (tgt := 46) hx hb dX3_join_28 (by decide) (fun c_7 => ?_) (fun c_7 => ?_)
          · refine lv_iconst (v := (-1)) hx hb dX3_join_46 (by decide) ?_
            exact W.iret (v := (-1)) hx hb hr (fun t ht hW => ⟨⟨(-1), st, rfl, (by simp only [fX3_join, if_pos c_1, if_pos c_2, if_neg c_3, if_neg c_6, if_pos c_7]), ow_Bi ht hP⟩, hS.F ht⟩) hS.2.2 dX3_join_47
          · refine lv_aloadN hx hb dX3_join_31 (lv_at hl 2 rfl) ?_
            refine lv_ifnullN (tgt := 46) hx hb dX3_join_33 (by decide) ?_
            refine lv_iconst (v := (-1)) hx hb dX3_join_46 (by decide) ?_
            exact W.iret (v := (-1)) hx hb hr (fun t ht hW => ⟨⟨(-1), st, rfl, (by simp only [fX3_join, if_pos c_1, if_pos c_2, if_neg c_3, if_neg c_6, if_neg c_7]), ow_Bi ht hP⟩, hS.F ht⟩) hS.2.2 dX3_join_47
    · refine og_cqS (q := ad 5 x3.toNatClampNeg) (og_runV (C := RX3) (T := TX3) (N := 14) (g := 0) (i := 0) (As := [.int x3]) (rest := []) ⟨hx, hb, hml, hown, hts⟩ (kX3_setNumbered l D ca ad A st x3) (cwV 1 hts gX3_join_X3_setNumbered rfl rfl rfl (by decide +kernel) ⟨Nat.le_of_ble_eq_true rfl, Nat.le_of_ble_eq_true rfl⟩) hC hP hS (ow_q0_0) rfl rfl rfl hl.1 rfl (Nat.le_of_ble_eq_true rfl) dX3_join_9 ⟨Nat.zero_le _, Nat.zero_le _⟩) hS (setN_some c_2) (fun H locs hP hS => ?_)
      refine lv_astore (lv' := [(6, .ref (ad 5 x3.toNatClampNeg)), (5, .null), (0, .ref (ad 0 0)), (1, .int x1), (2, .int x2), (3, .int x3), (4, .int x4)]) hx hb dX3_join_12 hl (by decide) rfl (fun ls hl => ?_)
      refine lv_aload_n hx hb dX3_join_14 rfl (lv_at hl 2 rfl) ?_
      refine lv_iload hx hb dX3_join_15 (lv_at hl 6 rfl) ?_
      by_cases c_8 : x4 < 0 ∨ 10 ≤ x4
      · refine og_cqN (og_runV (C := RX3) (T := TX3) (N := 14) (g := 0) (i := 0) (As := [.int x4]) (rest := []) ⟨hx, hb, hml, hown, hts⟩ (kX3_setNumbered l D ca ad A st x4) (cwV 1 hts gX3_join_X3_setNumbered rfl rfl rfl (by decide +kernel) ⟨Nat.le_of_ble_eq_true rfl, Nat.le_of_ble_eq_true rfl⟩) hC hP hS (ow_q0_0) rfl rfl rfl hl.1 rfl (Nat.le_of_ble_eq_true rfl) dX3_join_17 ⟨Nat.zero_le _, Nat.zero_le _⟩) hS (setN_none c_8) (fun H locs hP hS => ?_)
        refine lv_astoreN (lv' := [(7, .null), (6, .ref (ad 5 x3.toNatClampNeg)), (5, .null), (0, .ref (ad 0 0)), (1, .int x1), (2, .int x2), (3, .int x3), (4, .int x4)]) hx hb dX3_join_20 hl (by decide) rfl (fun ls hl => ?_)
        refine lv_iload_n hx hb dX3_join_22 rfl (lv_at hl 4 rfl) ?_
        refine lv_if_lt (tgt := 46) hx hb dX3_join_23 (by decide) (fun c_9 => ?_) (fun c_9 => ?_)
        · refine lv_iconst (v := (-1)) hx hb dX3_join_46 (by decide) ?_
          exact W.iret (v := (-1)) hx hb hr (fun t ht hW => ⟨⟨(-1), st, rfl, (by simp only [fX3_join, if_pos c_1, if_neg c_2, if_pos c_8, if_pos c_9]), ow_Bi ht hP⟩, hS.F ht⟩) hS.2.2 dX3_join_47
        · refine lv_iload_n hx hb dX3_join_26 rfl (lv_at hl 4 rfl) ?_
          refine lv_iconst (v := 3) hx hb dX3_join_27 (by decide) ?_
          refine lv_icmp_gt (tgt := 46) hx hb dX3_join_28 (by decide) (fun c_10 => ?_) (fun c_10 => ?_)
          · refine lv_iconst (v := (-1)) hx hb dX3_join_46 (by decide) ?_
            exact W.iret (v := (-1)) hx hb hr (fun t ht hW => ⟨⟨(-1), st, rfl, (by simp only [fX3_join, if_pos c_1, if_neg c_2, if_pos c_8, if_neg c_9, if_pos c_10]), ow_Bi ht hP⟩, hS.F ht⟩) hS.2.2 dX3_join_47
          · refine lv_aloadN hx hb dX3_join_31 (lv_at hl 2 rfl) ?_
            refine lv_ifnullN (tgt := 46) hx hb dX3_join_33 (by decide) ?_
            refine lv_iconst (v := (-1)) hx hb dX3_join_46 (by decide) ?_
            exact W.iret (v := (-1)) hx hb hr (fun t ht hW => ⟨⟨(-1), st, rfl, (by simp only [fX3_join, if_pos c_1, if_neg c_2, if_pos c_8, if_neg c_9, if_neg c_10]), ow_Bi ht hP⟩, hS.F ht⟩) hS.2.2 dX3_join_47
      · refine og_cqS (q := ad 5 x4.toNatClampNeg) (og_runV (C := RX3) (T := TX3) (N := 14) (g := 0) (i := 0) (As := [.int x4]) (rest := []) ⟨hx, hb, hml, hown, hts⟩ (kX3_setNumbered l D ca ad A st x4) (cwV 1 hts gX3_join_X3_setNumbered rfl rfl rfl (by decide +kernel) ⟨Nat.le_of_ble_eq_true rfl, Nat.le_of_ble_eq_true rfl⟩) hC hP hS (ow_q0_0) rfl rfl rfl hl.1 rfl (Nat.le_of_ble_eq_true rfl) dX3_join_17 ⟨Nat.zero_le _, Nat.zero_le _⟩) hS (setN_some c_8) (fun H locs hP hS => ?_)
        refine lv_astore (lv' := [(7, .ref (ad 5 x4.toNatClampNeg)), (6, .ref (ad 5 x3.toNatClampNeg)), (5, .null), (0, .ref (ad 0 0)), (1, .int x1), (2, .int x2), (3, .int x3), (4, .int x4)]) hx hb dX3_join_20 hl (by decide) rfl (fun ls hl => ?_)
        refine lv_iload_n hx hb dX3_join_22 rfl (lv_at hl 4 rfl) ?_
        refine lv_if_lt (tgt := 46) hx hb dX3_join_23 (by decide) (fun c_11 => ?_) (fun c_11 => ?_)
        · refine lv_iconst (v := (-1)) hx hb dX3_join_46 (by decide) ?_
          exact W.iret (v := (-1)) hx hb hr (fun t ht hW => ⟨⟨(-1), st, rfl, (by simp only [fX3_join, if_pos c_1, if_neg c_2, if_neg c_8, if_pos c_11]), ow_Bi ht hP⟩, hS.F ht⟩) hS.2.2 dX3_join_47
        · refine lv_iload_n hx hb dX3_join_26 rfl (lv_at hl 4 rfl) ?_
          refine lv_iconst (v := 3) hx hb dX3_join_27 (by decide) ?_
          refine lv_icmp_gt (tgt := 46) hx hb dX3_join_28 (by decide) (fun c_12 => ?_) (fun c_12 => ?_)
          · refine lv_iconst (v := (-1)) hx hb dX3_join_46 (by decide) ?_
            exact W.iret (v := (-1)) hx hb hr (fun t ht hW => ⟨⟨(-1), st, rfl, (by simp only [fX3_join, if_pos c_1, if_neg c_2, if_neg c_8, if_neg c_11, if_pos c_12]), ow_Bi ht hP⟩, hS.F ht⟩) hS.2.2 dX3_join_47
          · refine lv_aloadN hx hb dX3_join_31 (lv_at hl 2 rfl) ?_
            refine lv_ifnullN (tgt := 46) hx hb dX3_join_33 (by decide) ?_
            refine lv_iconst (v := (-1)) hx hb dX3_join_46 (by decide) ?_
            exact W.iret (v := (-1)) hx hb hr (fun t ht hW => ⟨⟨(-1), st, rfl, (by simp only [fX3_join, if_pos c_1, if_neg c_2, if_neg c_8, if_neg c_11, if_neg c_12]), ow_Bi ht hP⟩, hS.F ht⟩) hS.2.2 dX3_join_47
  · refine og_cqS (q := ad 5 x2.toNatClampNeg) (og_runV (C := RX3) (T := TX3) (N := 14) (g := 0) (i := 0) (As := [.int x2]) (rest := []) ⟨hx, hb, hml, hown, hts⟩ (kX3_setNumbered l D ca ad A st x2) (cwV 1 hts gX3_join_X3_setNumbered rfl rfl rfl (by decide +kernel) ⟨Nat.le_of_ble_eq_true rfl, Nat.le_of_ble_eq_true rfl⟩) hC hP hS (ow_q0_0) rfl rfl rfl hl.1 rfl (Nat.le_of_ble_eq_true rfl) dX3_join_2 ⟨Nat.zero_le _, Nat.zero_le _⟩) hS (setN_some c_1) (fun H locs hP hS => ?_)
    refine lv_astore (lv' := [(5, .ref (ad 5 x2.toNatClampNeg)), (0, .ref (ad 0 0)), (1, .int x1), (2, .int x2), (3, .int x3), (4, .int x4)]) hx hb dX3_join_5 hl (by decide) rfl (fun ls hl => ?_)
    refine lv_aload_n hx hb dX3_join_7 rfl (lv_at hl 1 rfl) ?_
    refine lv_iload_n hx hb dX3_join_8 rfl (lv_at hl 4 rfl) ?_
    by_cases c_13 : x3 < 0 ∨ 10 ≤ x3
    · refine og_cqN (og_runV (C := RX3) (T := TX3) (N := 14) (g := 0) (i := 0) (As := [.int x3]) (rest := []) ⟨hx, hb, hml, hown, hts⟩ (kX3_setNumbered l D ca ad A st x3) (cwV 1 hts gX3_join_X3_setNumbered rfl rfl rfl (by decide +kernel) ⟨Nat.le_of_ble_eq_true rfl, Nat.le_of_ble_eq_true rfl⟩) hC hP hS (ow_q0_0) rfl rfl rfl hl.1 rfl (Nat.le_of_ble_eq_true rfl) dX3_join_9 ⟨Nat.zero_le _, Nat.zero_le _⟩) hS (setN_none c_13) (fun H locs hP hS => ?_)
      refine lv_astoreN (lv' := [(6, .null), (5, .ref (ad 5 x2.toNatClampNeg)), (0, .ref (ad 0 0)), (1, .int x1), (2, .int x2), (3, .int x3), (4, .int x4)]) hx hb dX3_join_12 hl (by decide) rfl (fun ls hl => ?_)
      refine lv_aload_n hx hb dX3_join_14 rfl (lv_at hl 2 rfl) ?_
      refine lv_iload hx hb dX3_join_15 (lv_at hl 6 rfl) ?_
      by_cases c_14 : x4 < 0 ∨ 10 ≤ x4
      · refine og_cqN (og_runV (C := RX3) (T := TX3) (N := 14) (g := 0) (i := 0) (As := [.int x4]) (rest := []) ⟨hx, hb, hml, hown, hts⟩ (kX3_setNumbered l D ca ad A st x4) (cwV 1 hts gX3_join_X3_setNumbered rfl rfl rfl (by decide +kernel) ⟨Nat.le_of_ble_eq_true rfl, Nat.le_of_ble_eq_true rfl⟩) hC hP hS (ow_q0_0) rfl rfl rfl hl.1 rfl (Nat.le_of_ble_eq_true rfl) dX3_join_17 ⟨Nat.zero_le _, Nat.zero_le _⟩) hS (setN_none c_14) (fun H locs hP hS => ?_)
        refine lv_astoreN (lv' := [(7, .null), (6, .null), (5, .ref (ad 5 x2.toNatClampNeg)), (0, .ref (ad 0 0)), (1, .int x1), (2, .int x2), (3, .int x3), (4, .int x4)]) hx hb dX3_join_20 hl (by decide) rfl (fun ls hl => ?_)
        refine lv_iload_n hx hb dX3_join_22 rfl (lv_at hl 4 rfl) ?_
        refine lv_if_lt (tgt := 46) hx hb dX3_join_23 (by decide) (fun c_15 => ?_) (fun c_15 => ?_)
        · refine lv_iconst (v := (-1)) hx hb dX3_join_46 (by decide) ?_
          exact W.iret (v := (-1)) hx hb hr (fun t ht hW => ⟨⟨(-1), st, rfl, (by simp only [fX3_join, if_neg c_1, if_pos c_13, if_pos c_14, if_pos c_15]), ow_Bi ht hP⟩, hS.F ht⟩) hS.2.2 dX3_join_47
        · refine lv_iload_n hx hb dX3_join_26 rfl (lv_at hl 4 rfl) ?_
          refine lv_iconst (v := 3) hx hb dX3_join_27 (by decide) ?_
          refine lv_icmp_gt (tgt := 46) hx hb dX3_join_28 (by decide) (fun c_16 => ?_) (fun c_16 => ?_)
          · refine lv_iconst (v := (-1)) hx hb dX3_join_46 (by decide) ?_
            exact W.iret (v := (-1)) hx hb hr (fun t ht hW => ⟨⟨(-1), st, rfl, (by simp only [fX3_join, if_neg c_1, if_pos c_13, if_pos c_14, if_neg c_15, if_pos c_16]), ow_Bi ht hP⟩, hS.F ht⟩) hS.2.2 dX3_join_47
          · refine lv_aload hx hb dX3_join_31 (lv_at hl 2 rfl) ?_
            refine lv_ifnull hx hb dX3_join_33 ?_
            refine lv_aloadN hx hb dX3_join_36 (lv_at hl 1 rfl) ?_
            refine lv_ifnullN (tgt := 46) hx hb dX3_join_38 (by decide) ?_
            refine lv_iconst (v := (-1)) hx hb dX3_join_46 (by decide) ?_
            exact W.iret (v := (-1)) hx hb hr (fun t ht hW => ⟨⟨(-1), st, rfl, (by simp only [fX3_join, if_neg c_1, if_pos c_13, if_pos c_14, if_neg c_15, if_neg c_16]), ow_Bi ht hP⟩, hS.F ht⟩) hS.2.2 dX3_join_47
      · refine og_cqS (q := ad 5 x4.toNatClampNeg) (og_runV (C := RX3) (T := TX3) (N := 14) (g := 0) (i := 0) (As := [.int x4]) (rest := []) ⟨hx, hb, hml, hown, hts⟩ (kX3_setNumbered l D ca ad A st x4) (cwV 1 hts gX3_join_X3_setNumbered rfl rfl rfl (by decide +kernel) ⟨Nat.le_of_ble_eq_true rfl, Nat.le_of_ble_eq_true rfl⟩) hC hP hS (ow_q0_0) rfl rfl rfl hl.1 rfl (Nat.le_of_ble_eq_true rfl) dX3_join_17 ⟨Nat.zero_le _, Nat.zero_le _⟩) hS (setN_some c_14) (fun H locs hP hS => ?_)
        refine lv_astore (lv' := [(7, .ref (ad 5 x4.toNatClampNeg)), (6, .null), (5, .ref (ad 5 x2.toNatClampNeg)), (0, .ref (ad 0 0)), (1, .int x1), (2, .int x2), (3, .int x3), (4, .int x4)]) hx hb dX3_join_20 hl (by decide) rfl (fun ls hl => ?_)
        refine lv_iload_n hx hb dX3_join_22 rfl (lv_at hl 4 rfl) ?_
        refine lv_if_lt (tgt := 46) hx hb dX3_join_23 (by decide) (fun c_17 => ?_) (fun c_17 => ?_)
        · refine lv_iconst (v := (-1)) hx hb dX3_join_46 (by decide) ?_
          exact W.iret (v := (-1)) hx hb hr (fun t ht hW => ⟨⟨(-1), st, rfl, (by simp only [fX3_join, if_neg c_1, if_pos c_13, if_neg c_14, if_pos c_17]), ow_Bi ht hP⟩, hS.F ht⟩) hS.2.2 dX3_join_47
        · refine lv_iload_n hx hb dX3_join_26 rfl (lv_at hl 4 rfl) ?_
          refine lv_iconst (v := 3) hx hb dX3_join_27 (by decide) ?_
          refine lv_icmp_gt (tgt := 46) hx hb dX3_join_28 (by decide) (fun c_18 => ?_) (fun c_18 => ?_)
          · refine lv_iconst (v := (-1)) hx hb dX3_join_46 (by decide) ?_
            exact W.iret (v := (-1)) hx hb hr (fun t ht hW => ⟨⟨(-1), st, rfl, (by simp only [fX3_join, if_neg c_1, if_pos c_13, if_neg c_14, if_neg c_17, if_pos c_18]), ow_Bi ht hP⟩, hS.F ht⟩) hS.2.2 dX3_join_47
          · refine lv_aload hx hb dX3_join_31 (lv_at hl 2 rfl) ?_
            refine lv_ifnull hx hb dX3_join_33 ?_
            refine lv_aloadN hx hb dX3_join_36 (lv_at hl 1 rfl) ?_
            refine lv_ifnullN (tgt := 46) hx hb dX3_join_38 (by decide) ?_
            refine lv_iconst (v := (-1)) hx hb dX3_join_46 (by decide) ?_
            exact W.iret (v := (-1)) hx hb hr (fun t ht hW => ⟨⟨(-1), st, rfl, (by simp only [fX3_join, if_neg c_1, if_pos c_13, if_neg c_14, if_neg c_17, if_neg c_18]), ow_Bi ht hP⟩, hS.F ht⟩) hS.2.2 dX3_join_47
    · refine og_cqS (q := ad 5 x3.toNatClampNeg) (og_runV (C := RX3) (T := TX3) (N := 14) (g := 0) (i := 0) (As := [.int x3]) (rest := []) ⟨hx, hb, hml, hown, hts⟩ (kX3_setNumbered l D ca ad A st x3) (cwV 1 hts gX3_join_X3_setNumbered rfl rfl rfl (by decide +kernel) ⟨Nat.le_of_ble_eq_true rfl, Nat.le_of_ble_eq_true rfl⟩) hC hP hS (ow_q0_0) rfl rfl rfl hl.1 rfl (Nat.le_of_ble_eq_true rfl) dX3_join_9 ⟨Nat.zero_le _, Nat.zero_le _⟩) hS (setN_some c_13) (fun H locs hP hS => ?_)
      refine lv_astore (lv' := [(6, .ref (ad 5 x3.toNatClampNeg)), (5, .ref (ad 5 x2.toNatClampNeg)), (0, .ref (ad 0 0)), (1, .int x1), (2, .int x2), (3, .int x3), (4, .int x4)]) hx hb dX3_join_12 hl (by decide) rfl (fun ls hl => ?_)
      refine lv_aload_n hx hb dX3_join_14 rfl (lv_at hl 2 rfl) ?_
      refine lv_iload hx hb dX3_join_15 (lv_at hl 6 rfl) ?_
      by_cases c_19 : x4 < 0 ∨ 10 ≤ x4
      · refine og_cqN (og_runV (C := RX3) (T := TX3) (N := 14) (g := 0) (i := 0) (As := [.int x4]) (rest := []) ⟨hx, hb, hml, hown, hts⟩ (kX3_setNumbered l D ca ad A st x4) (cwV 1 hts gX3_join_X3_setNumbered rfl rfl rfl (by decide +kernel) ⟨Nat.le_of_ble_eq_true rfl, Nat.le_of_ble_eq_true rfl⟩) hC hP hS (ow_q0_0) rfl rfl rfl hl.1 rfl (Nat.le_of_ble_eq_true rfl) dX3_join_17 ⟨Nat.zero_le _, Nat.zero_le _⟩) hS (setN_none c_19) (fun H locs hP hS => ?_)
        refine lv_astoreN (lv' := [(7, .null), (6, .ref (ad 5 x3.toNatClampNeg)), (5, .ref (ad 5 x2.toNatClampNeg)), (0, .ref (ad 0 0)), (1, .int x1), (2, .int x2), (3, .int x3), (4, .int x4)]) hx hb dX3_join_20 hl (by decide) rfl (fun ls hl => ?_)
        refine lv_iload_n hx hb dX3_join_22 rfl (lv_at hl 4 rfl) ?_
        refine lv_if_lt (tgt := 46) hx hb dX3_join_23 (by decide) (fun c_20 => ?_) (fun c_20 => ?_)
        · refine lv_iconst (v := (-1)) hx hb dX3_join_46 (by decide) ?_
          exact W.iret (v := (-1)) hx hb hr (fun t ht hW => ⟨⟨(-1), st, rfl, (by simp only [fX3_join, if_neg c_1, if_neg c_13, if_pos c_19, if_pos c_20]), ow_Bi ht hP⟩, hS.F ht⟩) hS.2.2 dX3_join_47
        · refine lv_iload_n hx hb dX3_join_26 rfl (lv_at hl 4 rfl) ?_
          refine lv_iconst (v := 3) hx hb dX3_join_27 (by decide) ?_
          refine lv_icmp_gt (tgt := 46) hx hb dX3_join_28 (by decide) (fun c_21 => ?_) (fun c_21 => ?_)
          · refine lv_iconst (v := (-1)) hx hb dX3_join_46 (by decide) ?_
            exact W.iret (v := (-1)) hx hb hr (fun t ht hW => ⟨⟨(-1), st, rfl, (by simp only [fX3_join, if_neg c_1, if_neg c_13, if_pos c_19, if_neg c_20, if_pos c_21]), ow_Bi ht hP⟩, hS.F ht⟩) hS.2.2 dX3_join_47
          · refine lv_aload hx hb dX3_join_31 (lv_at hl 2 rfl) ?_
            refine lv_ifnull hx hb dX3_join_33 ?_
            refine lv_aload hx hb dX3_join_36 (lv_at hl 1 rfl) ?_
            refine lv_ifnull hx hb dX3_join_38 ?_
            refine lv_aloadN hx hb dX3_join_41 (lv_at hl 0 rfl) ?_
            refine lv_ifnonnullN hx hb dX3_join_43 ?_
            refine lv_iconst (v := (-1)) hx hb dX3_join_46 (by decide) ?_
            exact W.iret (v := (-1)) hx hb hr (fun t ht hW => ⟨⟨(-1), st, rfl, (by simp only [fX3_join, if_neg c_1, if_neg c_13, if_pos c_19, if_neg c_20, if_neg c_21]), ow_Bi ht hP⟩, hS.F ht⟩) hS.2.2 dX3_join_47
      · refine og_cqS (q := ad 5 x4.toNatClampNeg) (og_runV (C := RX3) (T := TX3) (N := 14) (g := 0) (i := 0) (As := [.int x4]) (rest := []) ⟨hx, hb, hml, hown, hts⟩ (kX3_setNumbered l D ca ad A st x4) (cwV 1 hts gX3_join_X3_setNumbered rfl rfl rfl (by decide +kernel) ⟨Nat.le_of_ble_eq_true rfl, Nat.le_of_ble_eq_true rfl⟩) hC hP hS (ow_q0_0) rfl rfl rfl hl.1 rfl (Nat.le_of_ble_eq_true rfl) dX3_join_17 ⟨Nat.zero_le _, Nat.zero_le _⟩) hS (setN_some c_19) (fun H locs hP hS => ?_)
        refine lv_astore (lv' := [(7, .ref (ad 5 x4.toNatClampNeg)), (6, .ref (ad 5 x3.toNatClampNeg)), (5, .ref (ad 5 x2.toNatClampNeg)), (0, .ref (ad 0 0)), (1, .int x1), (2, .int x2), (3, .int x3), (4, .int x4)]) hx hb dX3_join_20 hl (by decide) rfl (fun ls hl => ?_)
        refine lv_iload_n hx hb dX3_join_22 rfl (lv_at hl 4 rfl) ?_
        refine lv_if_lt (tgt := 46) hx hb dX3_join_23 (by decide) (fun c_22 => ?_) (fun c_22 => ?_)
        · refine lv_iconst (v := (-1)) hx hb dX3_join_46 (by decide) ?_
          exact W.iret (v := (-1)) hx hb hr (fun t ht hW => ⟨⟨(-1), st, rfl, (by simp only [fX3_join, if_neg c_1, if_neg c_13, if_neg c_19, if_pos c_22]), ow_Bi ht hP⟩, hS.F ht⟩) hS.2.2 dX3_join_47
        · refine lv_iload_n hx hb dX3_join_26 rfl (lv_at hl 4 rfl) ?_
          refine lv_iconst (v := 3) hx hb dX3_join_27 (by decide) ?_
          refine lv_icmp_gt (tgt := 46) hx hb dX3_join_28 (by decide) (fun c_23 => ?_) (fun c_23 => ?_)
          · refine lv_iconst (v := (-1)) hx hb dX3_join_46 (by decide) ?_
            exact W.iret (v := (-1)) hx hb hr (fun t ht hW => ⟨⟨(-1), st, rfl, (by simp only [fX3_join, if_neg c_1, if_neg c_13, if_neg c_19, if_neg c_22, if_pos c_23]), ow_Bi ht hP⟩, hS.F ht⟩) hS.2.2 dX3_join_47
          · refine lv_aload hx hb dX3_join_31 (lv_at hl 2 rfl) ?_
            refine lv_ifnull hx hb dX3_join_33 ?_
            refine lv_aload hx hb dX3_join_36 (lv_at hl 1 rfl) ?_
            refine lv_ifnull hx hb dX3_join_38 ?_
            refine lv_aload hx hb dX3_join_41 (lv_at hl 0 rfl) ?_
            refine lv_ifnonnull (tgt := 48) hx hb dX3_join_43 (by decide) ?_
            refine lv_iload_n hx hb dX3_join_48 rfl (lv_at hl 4 rfl) ?_
            refine lv_iconst (v := 3) hx hb dX3_join_49 (by decide) ?_
            refine lv_icmp_eq (tgt := 69) hx hb dX3_join_50 (by decide) (fun c_24 => ?_) (fun c_24 => ?_)
            · refine lv_aload hx hb dX3_join_69 (lv_at hl 0 rfl) ?_
              refine lv_aload hx hb dX3_join_71 (lv_at hl 2 rfl) ?_
              refine og_getN (C := RX1) (T := TX1) (N := 2) (g := 5) (i := x2.toNatClampNeg) (v := .ref (ad 1 (st.2.2 (x2.toNatClampNeg + 1)))) hx hb hts li_X3_join_X1 hown hC hP (ow_m5 (setN_b c_1)) rfl rfl 0 (by decide) ln_X3_join_0 rfl rfl dX3_join_73 ?_
              refine lv_iload_n hx hb dX3_join_76 rfl (lv_at hl 4 rfl) ?_
              refine lv_aload hx hb dX3_join_77 (lv_at hl 2 rfl) ?_
              refine lv_aload hx hb dX3_join_79 (lv_at hl 1 rfl) ?_
              refine og_ciP (og_runS (As := [.int x1, .ref (ad 5 x2.toNatClampNeg), .ref (ad 5 x3.toNatClampNeg)]) (rest := [.ref (ad 1 (st.2.2 (x2.toNatClampNeg + 1))), .ref (ad 5 x4.toNatClampNeg)]) ⟨hx, hb, hml, hown, hts⟩ (kX3_joined l D ca ad A st x1 x2.toNatClampNeg (setN_b c_1) x3.toNatClampNeg (setN_b c_13) (hsk _ (setN_b c_1))) (va_cwS 3 hts gX3_join_X3_joined rfl rfl rfl (by decide +kernel) ⟨Nat.le_of_ble_eq_true rfl, Nat.le_of_ble_eq_true rfl⟩) hC hP hS rfl hl.1 rfl (Nat.le_of_ble_eq_true rfl) dX3_join_81 ⟨Nat.zero_le _, Nat.zero_le _⟩) hS (fun H locs hP hS => ?_)
              refine og_cvW (og_runVN (C := RX1) (T := TX1) (N := 2) (g := 5) (i := x4.toNatClampNeg) (As := [.ref (ad 1 (st.2.2 (x2.toNatClampNeg + 1))), .int (fX3_joined st x1 x2.toNatClampNeg x3.toNatClampNeg)]) (rest := []) ⟨hx, hb, hml, hown, hts⟩ (kX1_become l D ca ad A st x4.toNatClampNeg (setN_b c_19) (st.2.2 (x2.toNatClampNeg + 1)) (fX3_joined st x1 x2.toNatClampNeg x3.toNatClampNeg)) ⟨va_cnB 2 hts gX3_join_X1_become_n138 rfl rfl rfl (hC.2.2.1 _ ln_X3_join_2) (hts _ lk_X3_join_3) (by decide +kernel) ⟨Nat.le_of_ble_eq_true rfl, Nat.le_of_ble_eq_true rfl⟩, (hts _ lk_X3_join_4), (hts _ lk_X3_join_5)⟩ hC hP hS (ow_m5 (setN_b c_19)) rfl rfl rfl hl.1 rfl (Nat.le_of_ble_eq_true rfl) dX3_join_84 ⟨Nat.zero_le _, Nat.zero_le _⟩) hS (fun H locs hP hS => ?_)
              obtain ⟨st25, e25⟩ : ∃ z, z = (fX1_become st x4.toNatClampNeg (st.2.2 (x2.toNatClampNeg + 1)) (fX3_joined st x1 x2.toNatClampNeg x3.toNatClampNeg)) := ⟨_, rfl⟩
              rw [← e25] at hP
              refine lv_aload hx hb dX3_join_87 (lv_at hl 0 rfl) ?_
              refine og_ciP (og_runVN (C := RX1) (T := TX1) (N := 2) (g := 5) (i := x4.toNatClampNeg) (As := []) (rest := []) ⟨hx, hb, hml, hown, hts⟩ (kX1_size l D ca ad A st25 x4.toNatClampNeg (setN_b c_19)) ⟨va_cnB 0 hts gX3_join_X1_size_n134 rfl rfl rfl (hC.2.2.1 _ ln_X3_join_6) (hts _ lk_X3_join_3) (by decide +kernel) ⟨Nat.le_of_ble_eq_true rfl, Nat.le_of_ble_eq_true rfl⟩, (hts _ lk_X3_join_7), (hts _ lk_X3_join_8)⟩ hC hP hS (ow_m5 (setN_b c_19)) rfl rfl rfl hl.1 rfl (Nat.le_of_ble_eq_true rfl) dX3_join_89 ⟨Nat.zero_le _, Nat.zero_le _⟩) hS (fun H locs hP hS => ?_)
              exact W.iret (v := (fX1_size st25 x4.toNatClampNeg)) hx hb hr (fun t ht hW => ⟨⟨(fX1_size st25 x4.toNatClampNeg), st25, rfl, (by subst e25; simp only [fX3_join, if_neg c_1, if_neg c_13, if_neg c_19, if_neg c_22, if_neg c_23, if_pos c_24]), ow_Bi ht hP⟩, hS.F ht⟩) hS.2.2 dX3_join_92
            · refine lv_aload hx hb dX3_join_53 (lv_at hl 2 rfl) ?_
              refine og_getN (C := RX1) (T := TX1) (N := 2) (g := 5) (i := x2.toNatClampNeg) (v := .ref (ad 1 (st.2.2 (x2.toNatClampNeg + 1)))) hx hb hts li_X3_join_X1 hown hC hP (ow_m5 (setN_b c_1)) rfl rfl 0 (by decide) ln_X3_join_0 rfl rfl dX3_join_55 ?_
              refine lv_aload hx hb dX3_join_58 (lv_at hl 1 rfl) ?_
              refine og_getN (C := RX1) (T := TX1) (N := 2) (g := 5) (i := x3.toNatClampNeg) (v := .ref (ad 1 (st.2.2 (x3.toNatClampNeg + 1)))) hx hb hts li_X3_join_X1 hown hC hP (ow_m5 (setN_b c_13)) rfl rfl 0 (by decide) ln_X3_join_0 rfl rfl dX3_join_60 ?_
              by_cases c_26 : (st.2.2 (x2.toNatClampNeg + 1)) = (st.2.2 (x3.toNatClampNeg + 1))
              · refine lv_acmp_eq (rx := some (ad 1 (st.2.2 (x2.toNatClampNeg + 1)))) (ry := some (ad 1 (st.2.2 (x3.toNatClampNeg + 1)))) (tgt := 69) hx hb dX3_join_63 (by decide) (fun _ => ?_) (fun c => absurd (congrArg some (congrArg (ad 1) c_26)) c)
                refine lv_aload hx hb dX3_join_69 (lv_at hl 0 rfl) ?_
                refine lv_aload hx hb dX3_join_71 (lv_at hl 2 rfl) ?_
                refine og_getN (C := RX1) (T := TX1) (N := 2) (g := 5) (i := x2.toNatClampNeg) (v := .ref (ad 1 (st.2.2 (x2.toNatClampNeg + 1)))) hx hb hts li_X3_join_X1 hown hC hP (ow_m5 (setN_b c_1)) rfl rfl 0 (by decide) ln_X3_join_0 rfl rfl dX3_join_73 ?_
                refine lv_iload_n hx hb dX3_join_76 rfl (lv_at hl 4 rfl) ?_
                refine lv_aload hx hb dX3_join_77 (lv_at hl 2 rfl) ?_
                refine lv_aload hx hb dX3_join_79 (lv_at hl 1 rfl) ?_
                refine og_ciP (og_runS (As := [.int x1, .ref (ad 5 x2.toNatClampNeg), .ref (ad 5 x3.toNatClampNeg)]) (rest := [.ref (ad 1 (st.2.2 (x2.toNatClampNeg + 1))), .ref (ad 5 x4.toNatClampNeg)]) ⟨hx, hb, hml, hown, hts⟩ (kX3_joined l D ca ad A st x1 x2.toNatClampNeg (setN_b c_1) x3.toNatClampNeg (setN_b c_13) (hsk _ (setN_b c_1))) (va_cwS 3 hts gX3_join_X3_joined rfl rfl rfl (by decide +kernel) ⟨Nat.le_of_ble_eq_true rfl, Nat.le_of_ble_eq_true rfl⟩) hC hP hS rfl hl.1 rfl (Nat.le_of_ble_eq_true rfl) dX3_join_81 ⟨Nat.zero_le _, Nat.zero_le _⟩) hS (fun H locs hP hS => ?_)
                refine og_cvW (og_runVN (C := RX1) (T := TX1) (N := 2) (g := 5) (i := x4.toNatClampNeg) (As := [.ref (ad 1 (st.2.2 (x2.toNatClampNeg + 1))), .int (fX3_joined st x1 x2.toNatClampNeg x3.toNatClampNeg)]) (rest := []) ⟨hx, hb, hml, hown, hts⟩ (kX1_become l D ca ad A st x4.toNatClampNeg (setN_b c_19) (st.2.2 (x2.toNatClampNeg + 1)) (fX3_joined st x1 x2.toNatClampNeg x3.toNatClampNeg)) ⟨va_cnB 2 hts gX3_join_X1_become_n138 rfl rfl rfl (hC.2.2.1 _ ln_X3_join_2) (hts _ lk_X3_join_3) (by decide +kernel) ⟨Nat.le_of_ble_eq_true rfl, Nat.le_of_ble_eq_true rfl⟩, (hts _ lk_X3_join_4), (hts _ lk_X3_join_5)⟩ hC hP hS (ow_m5 (setN_b c_19)) rfl rfl rfl hl.1 rfl (Nat.le_of_ble_eq_true rfl) dX3_join_84 ⟨Nat.zero_le _, Nat.zero_le _⟩) hS (fun H locs hP hS => ?_)
                obtain ⟨st27, e27⟩ : ∃ z, z = (fX1_become st x4.toNatClampNeg (st.2.2 (x2.toNatClampNeg + 1)) (fX3_joined st x1 x2.toNatClampNeg x3.toNatClampNeg)) := ⟨_, rfl⟩
                rw [← e27] at hP
                refine lv_aload hx hb dX3_join_87 (lv_at hl 0 rfl) ?_
                refine og_ciP (og_runVN (C := RX1) (T := TX1) (N := 2) (g := 5) (i := x4.toNatClampNeg) (As := []) (rest := []) ⟨hx, hb, hml, hown, hts⟩ (kX1_size l D ca ad A st27 x4.toNatClampNeg (setN_b c_19)) ⟨va_cnB 0 hts gX3_join_X1_size_n134 rfl rfl rfl (hC.2.2.1 _ ln_X3_join_6) (hts _ lk_X3_join_3) (by decide +kernel) ⟨Nat.le_of_ble_eq_true rfl, Nat.le_of_ble_eq_true rfl⟩, (hts _ lk_X3_join_7), (hts _ lk_X3_join_8)⟩ hC hP hS (ow_m5 (setN_b c_19)) rfl rfl rfl hl.1 rfl (Nat.le_of_ble_eq_true rfl) dX3_join_89 ⟨Nat.zero_le _, Nat.zero_le _⟩) hS (fun H locs hP hS => ?_)
                exact W.iret (v := (fX1_size st27 x4.toNatClampNeg)) hx hb hr (fun t ht hW => ⟨⟨(fX1_size st27 x4.toNatClampNeg), st27, rfl, (by subst e27; simp only [fX3_join, if_neg c_1, if_neg c_13, if_neg c_19, if_neg c_22, if_neg c_23, if_neg c_24, if_pos c_26]), ow_Bi ht hP⟩, hS.F ht⟩) hS.2.2 dX3_join_92
              · refine lv_acmp_eq (rx := some (ad 1 (st.2.2 (x2.toNatClampNeg + 1)))) (ry := some (ad 1 (st.2.2 (x3.toNatClampNeg + 1)))) (tgt := 69) hx hb dX3_join_63 (by decide) (fun c => absurd c (fun h => c_26 (ow_inj hC.2.1 (ow_m1 (hsk _ (setN_b c_1))) (ow_m1 (hsk _ (setN_b c_13))) (Option.some.inj h)).2)) (fun _ => ?_)
                refine lv_bipush (v := (-3)) hx hb dX3_join_66 (by decide) ?_
                exact W.iret (v := (-3)) hx hb hr (fun t ht hW => ⟨⟨(-3), st, rfl, (by simp only [fX3_join, if_neg c_1, if_neg c_13, if_neg c_19, if_neg c_22, if_neg c_23, if_neg c_24, if_neg c_26]), ow_Bi ht hP⟩, hS.F ht⟩) hS.2.2 dX3_join_68

theorem ln_X3_member_0 : (.fieldLinkNest RX3 142 "RecordLabels$LabelSet" "kind" "LRecordLabels$Kind;" "RecordLabels" : Cond) ∈ ow_nest := by decide +kernel
theorem li_X3_member_X1 : ∀ w ∈ u_ws RX1 TX1 2, w ∈ wsX3_member := by decide +kernel
theorem ln_X3_member_2 : (.fieldLinkNest RX3 155 "RecordLabels$Kind" "size" "I" "RecordLabels" : Cond) ∈ ow_nest := by decide +kernel
theorem li_X3_member_X0 : ∀ w ∈ u_ws RX0 TX0 7, w ∈ wsX3_member := by decide +kernel
theorem ln_X3_member_4 : (.methodLinkNest RX3 108 yX0_constantOf "RecordLabels" : Cond) ∈ ow_nest := by decide +kernel
theorem lk_X3_member_5 : (.initialized RX0 : Cond) ∈ wsX3_member := by decide +kernel
theorem lk_X3_member_6 : (.instanceMethod yX0_constantOf : Cond) ∈ wsX3_member := by decide +kernel
theorem lk_X3_member_7 : (.selects RX0 yX0_constantOf yX0_constantOf : Cond) ∈ wsX3_member := by decide +kernel
theorem ln_X3_member_8 : (.methodLinkNest RX3 145 yX1_holds "RecordLabels" : Cond) ∈ ow_nest := by decide +kernel
theorem lk_X3_member_9 : (.initialized RX1 : Cond) ∈ wsX3_member := by decide +kernel
theorem lk_X3_member_10 : (.instanceMethod yX1_holds : Cond) ∈ wsX3_member := by decide +kernel
theorem lk_X3_member_11 : (.selects RX1 yX1_holds yX1_holds : Cond) ∈ wsX3_member := by decide +kernel
def flX3_member (st : ow_St) (x1 x2 : Int32) : Nat → Nat → Int32 → Int32
  | 0, _, _ => 0
  | n + 1, i, w4 => (if (nI (mn (st.2.2 (x1.toNatClampNeg + 1)))) ≤ (nI i) then (-4) else (if (fX1_holds st x1.toNatClampNeg (fX0_constantOf st (st.2.2 (x1.toNatClampNeg + 1)) (nI i))) = 0 then (flX3_member st x1 x2 n (i + 1) w4 ) else (if w4 = x2 then (nI i) else (flX3_member st x1 x2 n (i + 1) (w4 + 1) ))))
def fX3_member (st : ow_St) (x1 x2 : Int32) : Int32 := (if x1 < 0 ∨ 10 ≤ x1 then (-1) else (flX3_member st x1 x2 ((mn (st.2.2 (x1.toNatClampNeg + 1))) + 1) 0 (0 : Int32) ))
set_option maxHeartbeats 4000000 in
set_option maxRecDepth 100000 in
theorem kX3_member (l : Launch) (D : va_G) (ca : Nat → ClassId) (ad : ow_Ad) (A : Nat → Prop) (st : ow_St) (x1 : Int32) (x2 : Int32) (hsk : iv_sk st) : Met l yX3_member wsX3_member ({ frames := 2, cells := 0, slots := 0, locals := 42 }) (va_Pc [.ref (ad 0 0), .int x1, .int x2] (ow_W D ca ad A st)) (va_Qi (fun r st' => r = (fX3_member st x1 x2) ∧ st' = st) (ow_B D ca ad) A) 0 0 A := by
  refine Met.ofW (cc := cX3_member) (maxL := 6) (ret := (some .int)) (by decide) rfl ?_
  intro p e s m args below meth c s₁ B hml hv
  obtain ⟨rfl, hP, hC⟩ := hv
  have hx := B.exec
  have hb := B.bytes
  have hr := B.returns
  have hts := atoms_spec (ws := wsX3_member) B.pre
  have hown : s.vm.findClass RX3 = some m.cls := findClass_of_methodNamed B.named
  have hlocks := B.notSynchronized
  have hS : va_S A s.heap s.heap [] := va_S.rf
  have hl := lv_entry ([.ref (ad 0 0), .int x1, .int x2]) (n := 6) (Nat.le_of_ble_eq_true rfl)
  rw [lg_entry_eq]
  generalize (lg_sl ([.ref (ad 0 0), .int x1, .int x2]) ++ List.replicate (6 - (lg_sl ([.ref (ad 0 0), .int x1, .int x2])).length) Slot.unset).toArray = ls at hl ⊢
  have hl : lv_has ls 6 [(0, .ref (ad 0 0)), (1, .int x1), (2, .int x2)] := hl
  refine lv_aload_n hx hb dX3_member_0 rfl (lv_at hl 0 rfl) ?_
  refine lv_iload_n hx hb dX3_member_1 rfl (lv_at hl 1 rfl) ?_
  by_cases c_1 : x1 < 0 ∨ 10 ≤ x1
  · refine og_cqN (og_runV (C := RX3) (T := TX3) (N := 14) (g := 0) (i := 0) (As := [.int x1]) (rest := []) ⟨hx, hb, hml, hown, hts⟩ (kX3_setNumbered l D ca ad A st x1) (cwV 1 hts gX3_member_X3_setNumbered rfl rfl rfl (by decide +kernel) ⟨Nat.le_of_ble_eq_true rfl, Nat.le_of_ble_eq_true rfl⟩) hC hP hS (ow_q0_0) rfl rfl rfl hl.1 rfl (Nat.le_of_ble_eq_true rfl) dX3_member_2 ⟨Nat.zero_le _, Nat.zero_le _⟩) hS (setN_none c_1) (fun H locs hP hS => ?_)
    refine lv_astore_nN (lv' := [(3, .null), (0, .ref (ad 0 0)), (1, .int x1), (2, .int x2)]) hx hb dX3_member_5 rfl hl (by decide) rfl (fun ls hl => ?_)
    refine lv_aload_nN hx hb dX3_member_6 rfl (lv_at hl 0 rfl) ?_
    refine lv_ifnonnullN hx hb dX3_member_7 ?_
    refine lv_iconst (v := (-1)) hx hb dX3_member_10 (by decide) ?_
    exact W.iret (v := (-1)) hx hb hr (fun t ht hW => ⟨⟨(-1), st, rfl, ⟨(by simp only [fX3_member, if_pos c_1]), rfl⟩, ow_Bi ht hP⟩, hS.F ht⟩) hS.2.2 dX3_member_11
  · refine og_cqS (q := ad 5 x1.toNatClampNeg) (og_runV (C := RX3) (T := TX3) (N := 14) (g := 0) (i := 0) (As := [.int x1]) (rest := []) ⟨hx, hb, hml, hown, hts⟩ (kX3_setNumbered l D ca ad A st x1) (cwV 1 hts gX3_member_X3_setNumbered rfl rfl rfl (by decide +kernel) ⟨Nat.le_of_ble_eq_true rfl, Nat.le_of_ble_eq_true rfl⟩) hC hP hS (ow_q0_0) rfl rfl rfl hl.1 rfl (Nat.le_of_ble_eq_true rfl) dX3_member_2 ⟨Nat.zero_le _, Nat.zero_le _⟩) hS (setN_some c_1) (fun H locs hP hS => ?_)
    refine lv_astore_n (lv' := [(3, .ref (ad 5 x1.toNatClampNeg)), (0, .ref (ad 0 0)), (1, .int x1), (2, .int x2)]) hx hb dX3_member_5 rfl hl (by decide) rfl (fun ls hl => ?_)
    refine lv_aload_n hx hb dX3_member_6 rfl (lv_at hl 0 rfl) ?_
    refine lv_ifnonnull (tgt := 12) hx hb dX3_member_7 (by decide) ?_
    refine lv_iconst (v := 0) hx hb dX3_member_12 (by decide) ?_
    refine lv_istore (lv' := [(4, .int 0), (3, .ref (ad 5 x1.toNatClampNeg)), (0, .ref (ad 0 0)), (1, .int x1), (2, .int x2)]) hx hb dX3_member_13 hl (by decide) rfl (fun ls hl => ?_)
    refine lv_iconst (v := 0) hx hb dX3_member_15 (by decide) ?_
    refine lv_istore (lv' := [(5, .int 0), (4, .int 0), (3, .ref (ad 5 x1.toNatClampNeg)), (0, .ref (ad 0 0)), (1, .int x1), (2, .int x2)]) hx hb dX3_member_16 hl (by decide) rfl (fun ls hl => ?_)
    have loop : ∀ (n i : Nat) (w4 : Int32) (H : Heap) (locs : List Loc) (ls : Array Slot), i ≤ (mn (st.2.2 (x1.toNatClampNeg + 1))) → (mn (st.2.2 (x1.toNatClampNeg + 1))) < i + n → flX3_member st x1 x2 n i w4 = (fX3_member st x1 x2) → va_P D vwCl (ow_ws ad (ow_c ca ad st)) H → va_S A s.heap H locs → lv_has ls 6 [(5, .int (nI i)), (4, .int w4), (3, .ref (ad 5 x1.toNatClampNeg)), (0, .ref (ad 0 0)), (1, .int x1), (2, .int x2)] → W p l e (headSpec wsX3_member ({ frames := 2, cells := 0, slots := 0, locals := 42 } : Room)).room s m ([.ref (ad 0 0), .int x1, .int x2] : List Value).toArray below meth c H locs 0 0 (MQ below (va_Qi (fun r st' => r = (fX3_member st x1 x2) ∧ st' = st) (ow_B D ca ad) A) ([.ref (ad 0 0), .int x1, .int x2] : List Value).toArray s 0 0 A) (F0 m 18 ls []) := by
      intro n
      induction n with
      | zero => intro i w4 H locs ls h1 h2; exact absurd h2 (by omega)
      | succ n ih =>
        intro i w4 H locs ls hle hlt  heq hP hS hl
        refine lv_iload hx hb dX3_member_18 (lv_at hl 0 rfl) ?_
        refine lv_aload_n hx hb dX3_member_20 rfl (lv_at hl 2 rfl) ?_
        refine og_getN (C := RX1) (T := TX1) (N := 2) (g := 5) (i := x1.toNatClampNeg) (v := .ref (ad 1 (st.2.2 (x1.toNatClampNeg + 1)))) hx hb hts li_X3_member_X1 hown hC hP (ow_m5 (setN_b c_1)) rfl rfl 0 (by decide) ln_X3_member_0 rfl rfl dX3_member_21 ?_
        refine og_getN (C := RX0) (T := TX0) (N := 7) (g := 1) (i := (st.2.2 (x1.toNatClampNeg + 1))) (v := .int (nI (mn (st.2.2 (x1.toNatClampNeg + 1))))) hx hb hts li_X3_member_X0 hown hC hP (ow_m1 (hsk _ (setN_b c_1))) rfl rfl 2 (by decide) ln_X3_member_2 rfl rfl dX3_member_24 ?_
        refine lv_icmp_ge (tgt := 64) hx hb dX3_member_27 (by decide) (fun c_2 => ?_) (fun c_2 => ?_)
        · refine lv_bipush (v := (-4)) hx hb dX3_member_64 (by decide) ?_
          exact W.iret (v := (-4)) hx hb hr (fun t ht hW => ⟨⟨(-4), st, rfl, ⟨(by rw [← heq]; simp only [flX3_member, if_pos c_2]), rfl⟩, ow_Bi ht hP⟩, hS.F ht⟩) hS.2.2 dX3_member_66
        · refine lv_aload_n hx hb dX3_member_30 rfl (lv_at hl 2 rfl) ?_
          refine lv_aload_n hx hb dX3_member_31 rfl (lv_at hl 2 rfl) ?_
          refine og_getN (C := RX1) (T := TX1) (N := 2) (g := 5) (i := x1.toNatClampNeg) (v := .ref (ad 1 (st.2.2 (x1.toNatClampNeg + 1)))) hx hb hts li_X3_member_X1 hown hC hP (ow_m5 (setN_b c_1)) rfl rfl 0 (by decide) ln_X3_member_0 rfl rfl dX3_member_32 ?_
          refine lv_iload hx hb dX3_member_35 (lv_at hl 0 rfl) ?_
          refine og_ciP (og_runVN (C := RX0) (T := TX0) (N := 7) (g := 1) (i := (st.2.2 (x1.toNatClampNeg + 1))) (As := [.int (nI i)]) (rest := [.ref (ad 5 x1.toNatClampNeg)]) ⟨hx, hb, hml, hown, hts⟩ (kX0_constantOf l D ca ad A st (st.2.2 (x1.toNatClampNeg + 1)) (hsk _ (setN_b c_1)) (nI i)) ⟨va_cnB 1 hts gX3_member_X0_constantOf_n108 rfl rfl rfl (hC.2.2.1 _ ln_X3_member_4) (hts _ lk_X3_member_5) (by decide +kernel) ⟨Nat.le_of_ble_eq_true rfl, Nat.le_of_ble_eq_true rfl⟩, (hts _ lk_X3_member_6), (hts _ lk_X3_member_7)⟩ hC hP hS (ow_m1 (hsk _ (setN_b c_1))) rfl rfl rfl hl.1 rfl (Nat.le_of_ble_eq_true rfl) dX3_member_37 ⟨Nat.zero_le _, Nat.zero_le _⟩) hS (fun H locs hP hS => ?_)
          refine og_ciP (og_runVN (C := RX1) (T := TX1) (N := 2) (g := 5) (i := x1.toNatClampNeg) (As := [.int (fX0_constantOf st (st.2.2 (x1.toNatClampNeg + 1)) (nI i))]) (rest := []) ⟨hx, hb, hml, hown, hts⟩ (kX1_holds l D ca ad A st x1.toNatClampNeg (setN_b c_1) (hsk _ (setN_b c_1)) (fX0_constantOf st (st.2.2 (x1.toNatClampNeg + 1)) (nI i))) ⟨va_cnB 1 hts gX3_member_X1_holds_n145 rfl rfl rfl (hC.2.2.1 _ ln_X3_member_8) (hts _ lk_X3_member_9) (by decide +kernel) ⟨Nat.le_of_ble_eq_true rfl, Nat.le_of_ble_eq_true rfl⟩, (hts _ lk_X3_member_10), (hts _ lk_X3_member_11)⟩ hC hP hS (ow_m5 (setN_b c_1)) rfl rfl rfl hl.1 rfl (Nat.le_of_ble_eq_true rfl) dX3_member_40 ⟨Nat.zero_le _, Nat.zero_le _⟩) hS (fun H locs hP hS => ?_)
          refine lv_if_eq (tgt := 58) hx hb dX3_member_43 (by decide) (fun c_3 => ?_) (fun c_3 => ?_)
          · refine lv_iinc (v := (nI (i + 1))) (lv' := [(5, .int (nI (i + 1))), (4, .int w4), (3, .ref (ad 5 x1.toNatClampNeg)), (0, .ref (ad 0 0)), (1, .int x1), (2, .int x2)]) hx hb dX3_member_58 hl (k := 0) rfl (nI_1 _) (by decide) rfl (fun ls hl => ?_)
            refine lv_goto (tgt := 18) hx hb dX3_member_61 (by decide) ?_
            exact ih (i + 1) w4  _ _ _ (ow_lt c_2 hle (ow_mn _)) (by omega)  (by rw [← heq]; simp only [flX3_member, if_neg c_2, if_pos c_3]) hP hS (lv_sub hl [0, 1, 2, 3, 4, 5] rfl)
          · refine lv_iload hx hb dX3_member_46 (lv_at hl 1 rfl) ?_
            refine lv_iload_n hx hb dX3_member_48 rfl (lv_at hl 5 rfl) ?_
            refine lv_icmp_ne (tgt := 55) hx hb dX3_member_49 (by decide) (fun c_4 => ?_) (fun c_4 => ?_)
            · refine lv_iinc (v := (w4 + 1)) (lv' := [(4, .int (w4 + 1)), (5, .int (nI i)), (3, .ref (ad 5 x1.toNatClampNeg)), (0, .ref (ad 0 0)), (1, .int x1), (2, .int x2)]) hx hb dX3_member_55 hl (k := 1) rfl rfl (by decide) rfl (fun ls hl => ?_)
              refine lv_iinc (v := (nI (i + 1))) (lv' := [(5, .int (nI (i + 1))), (4, .int (w4 + 1)), (3, .ref (ad 5 x1.toNatClampNeg)), (0, .ref (ad 0 0)), (1, .int x1), (2, .int x2)]) hx hb dX3_member_58 hl (k := 1) rfl (nI_1 _) (by decide) rfl (fun ls hl => ?_)
              refine lv_goto (tgt := 18) hx hb dX3_member_61 (by decide) ?_
              exact ih (i + 1) (w4 + 1)  _ _ _ (ow_lt c_2 hle (ow_mn _)) (by omega)  (by rw [← heq]; simp only [flX3_member, if_neg c_2, if_neg c_3, if_neg c_4]) hP hS (lv_sub hl [0, 1, 2, 3, 4, 5] rfl)
            · refine lv_iload hx hb dX3_member_52 (lv_at hl 0 rfl) ?_
              exact W.iret (v := (nI i)) hx hb hr (fun t ht hW => ⟨⟨(nI i), st, rfl, ⟨(by rw [← heq]; simp only [flX3_member, if_neg c_2, if_neg c_3, if_pos c_4]), rfl⟩, ow_Bi ht hP⟩, hS.F ht⟩) hS.2.2 dX3_member_54
    exact loop ((mn (st.2.2 (x1.toNatClampNeg + 1))) + 1) 0 (0 : Int32)  _ _ _ (Nat.zero_le _) (by omega)  (by simp only [fX3_member, if_neg c_1]) hP hS (lv_sub hl [0, 1, 2, 3, 4, 5] rfl)

theorem ln_X3_about_0 : (.methodLinkNest RX3 134 yX1_size "RecordLabels" : Cond) ∈ ow_nest := by decide +kernel
theorem lk_X3_about_1 : (.initialized RX1 : Cond) ∈ wsX3_about := by decide +kernel
theorem lk_X3_about_2 : (.instanceMethod yX1_size : Cond) ∈ wsX3_about := by decide +kernel
theorem lk_X3_about_3 : (.selects RX1 yX1_size yX1_size : Cond) ∈ wsX3_about := by decide +kernel
theorem ln_X3_about_4 : (.fieldLinkNest RX3 142 "RecordLabels$LabelSet" "kind" "LRecordLabels$Kind;" "RecordLabels" : Cond) ∈ ow_nest := by decide +kernel
theorem li_X3_about_X1 : ∀ w ∈ u_ws RX1 TX1 2, w ∈ wsX3_about := by decide +kernel
theorem ln_X3_about_6 : (.fieldLinkNest RX3 157 "RecordLabels$Kind" "number" "I" "RecordLabels" : Cond) ∈ ow_nest := by decide +kernel
theorem li_X3_about_X0 : ∀ w ∈ u_ws RX0 TX0 7, w ∈ wsX3_about := by decide +kernel
def fX3_about (st : ow_St) (x1 x2 : Int32) : Int32 := (if x1 < 0 ∨ 10 ≤ x1 then (-1) else (if x2 = 0 then (fX1_size st x1.toNatClampNeg) else (if x2 = 1 then (nI (st.2.2 (x1.toNatClampNeg + 1))) else (-1))))
set_option maxHeartbeats 4000000 in
set_option maxRecDepth 100000 in
theorem kX3_about (l : Launch) (D : va_G) (ca : Nat → ClassId) (ad : ow_Ad) (A : Nat → Prop) (st : ow_St) (x1 : Int32) (x2 : Int32) (hsk : iv_sk st) : Met l yX3_about wsX3_about ({ frames := 2, cells := 0, slots := 0, locals := 40 }) (va_Pc [.ref (ad 0 0), .int x1, .int x2] (ow_W D ca ad A st)) (va_Qi (fun r st' => r = (fX3_about st x1 x2) ∧ st' = st) (ow_B D ca ad) A) 0 0 A := by
  refine Met.ofW (cc := cX3_about) (maxL := 4) (ret := (some .int)) (by decide) rfl ?_
  intro p e s m args below meth c s₁ B hml hv
  obtain ⟨rfl, hP, hC⟩ := hv
  have hx := B.exec
  have hb := B.bytes
  have hr := B.returns
  have hts := atoms_spec (ws := wsX3_about) B.pre
  have hown : s.vm.findClass RX3 = some m.cls := findClass_of_methodNamed B.named
  have hlocks := B.notSynchronized
  have hS : va_S A s.heap s.heap [] := va_S.rf
  have hl := lv_entry ([.ref (ad 0 0), .int x1, .int x2]) (n := 4) (Nat.le_of_ble_eq_true rfl)
  rw [lg_entry_eq]
  generalize (lg_sl ([.ref (ad 0 0), .int x1, .int x2]) ++ List.replicate (4 - (lg_sl ([.ref (ad 0 0), .int x1, .int x2])).length) Slot.unset).toArray = ls at hl ⊢
  have hl : lv_has ls 4 [(0, .ref (ad 0 0)), (1, .int x1), (2, .int x2)] := hl
  refine lv_aload_n hx hb dX3_about_0 rfl (lv_at hl 0 rfl) ?_
  refine lv_iload_n hx hb dX3_about_1 rfl (lv_at hl 1 rfl) ?_
  by_cases c_1 : x1 < 0 ∨ 10 ≤ x1
  · refine og_cqN (og_runV (C := RX3) (T := TX3) (N := 14) (g := 0) (i := 0) (As := [.int x1]) (rest := []) ⟨hx, hb, hml, hown, hts⟩ (kX3_setNumbered l D ca ad A st x1) (cwV 1 hts gX3_about_X3_setNumbered rfl rfl rfl (by decide +kernel) ⟨Nat.le_of_ble_eq_true rfl, Nat.le_of_ble_eq_true rfl⟩) hC hP hS (ow_q0_0) rfl rfl rfl hl.1 rfl (Nat.le_of_ble_eq_true rfl) dX3_about_2 ⟨Nat.zero_le _, Nat.zero_le _⟩) hS (setN_none c_1) (fun H locs hP hS => ?_)
    refine lv_astore_nN (lv' := [(3, .null), (0, .ref (ad 0 0)), (1, .int x1), (2, .int x2)]) hx hb dX3_about_5 rfl hl (by decide) rfl (fun ls hl => ?_)
    refine lv_aload_nN hx hb dX3_about_6 rfl (lv_at hl 0 rfl) ?_
    refine lv_ifnonnullN hx hb dX3_about_7 ?_
    refine lv_iconst (v := (-1)) hx hb dX3_about_10 (by decide) ?_
    exact W.iret (v := (-1)) hx hb hr (fun t ht hW => ⟨⟨(-1), st, rfl, ⟨(by simp only [fX3_about, if_pos c_1]), rfl⟩, ow_Bi ht hP⟩, hS.F ht⟩) hS.2.2 dX3_about_11
  · refine og_cqS (q := ad 5 x1.toNatClampNeg) (og_runV (C := RX3) (T := TX3) (N := 14) (g := 0) (i := 0) (As := [.int x1]) (rest := []) ⟨hx, hb, hml, hown, hts⟩ (kX3_setNumbered l D ca ad A st x1) (cwV 1 hts gX3_about_X3_setNumbered rfl rfl rfl (by decide +kernel) ⟨Nat.le_of_ble_eq_true rfl, Nat.le_of_ble_eq_true rfl⟩) hC hP hS (ow_q0_0) rfl rfl rfl hl.1 rfl (Nat.le_of_ble_eq_true rfl) dX3_about_2 ⟨Nat.zero_le _, Nat.zero_le _⟩) hS (setN_some c_1) (fun H locs hP hS => ?_)
    refine lv_astore_n (lv' := [(3, .ref (ad 5 x1.toNatClampNeg)), (0, .ref (ad 0 0)), (1, .int x1), (2, .int x2)]) hx hb dX3_about_5 rfl hl (by decide) rfl (fun ls hl => ?_)
    refine lv_aload_n hx hb dX3_about_6 rfl (lv_at hl 0 rfl) ?_
    refine lv_ifnonnull (tgt := 12) hx hb dX3_about_7 (by decide) ?_
    refine lv_iload_n hx hb dX3_about_12 rfl (lv_at hl 3 rfl) ?_
    by_cases c_2 : x2 = 0
    · refine lv_lookup (tgt := 40) (off := 27) hx hb dX3_about_13 (by decide) (by rw [c_2]; decide) (by decide) ?_
      refine lv_aload_n hx hb dX3_about_40 rfl (lv_at hl 0 rfl) ?_
      refine og_ciP (og_runVN (C := RX1) (T := TX1) (N := 2) (g := 5) (i := x1.toNatClampNeg) (As := []) (rest := []) ⟨hx, hb, hml, hown, hts⟩ (kX1_size l D ca ad A st x1.toNatClampNeg (setN_b c_1)) ⟨va_cnB 0 hts gX3_about_X1_size_n134 rfl rfl rfl (hC.2.2.1 _ ln_X3_about_0) (hts _ lk_X3_about_1) (by decide +kernel) ⟨Nat.le_of_ble_eq_true rfl, Nat.le_of_ble_eq_true rfl⟩, (hts _ lk_X3_about_2), (hts _ lk_X3_about_3)⟩ hC hP hS (ow_m5 (setN_b c_1)) rfl rfl rfl hl.1 rfl (Nat.le_of_ble_eq_true rfl) dX3_about_41 ⟨Nat.zero_le _, Nat.zero_le _⟩) hS (fun H locs hP hS => ?_)
      exact W.iret (v := (fX1_size st x1.toNatClampNeg)) hx hb hr (fun t ht hW => ⟨⟨(fX1_size st x1.toNatClampNeg), st, rfl, ⟨(by simp only [fX3_about, if_neg c_1, if_pos c_2]), rfl⟩, ow_Bi ht hP⟩, hS.F ht⟩) hS.2.2 dX3_about_44
    · by_cases c_3 : x2 = 1
      · refine lv_lookup (tgt := 45) (off := 32) hx hb dX3_about_13 (by decide) (by rw [c_3]; decide) (by decide) ?_
        refine lv_aload_n hx hb dX3_about_45 rfl (lv_at hl 0 rfl) ?_
        refine og_getN (C := RX1) (T := TX1) (N := 2) (g := 5) (i := x1.toNatClampNeg) (v := .ref (ad 1 (st.2.2 (x1.toNatClampNeg + 1)))) hx hb hts li_X3_about_X1 hown hC hP (ow_m5 (setN_b c_1)) rfl rfl 0 (by decide) ln_X3_about_4 rfl rfl dX3_about_46 ?_
        refine og_getN (C := RX0) (T := TX0) (N := 7) (g := 1) (i := (st.2.2 (x1.toNatClampNeg + 1))) (v := .int (nI (st.2.2 (x1.toNatClampNeg + 1)))) hx hb hts li_X3_about_X0 hown hC hP (ow_m1 (hsk _ (setN_b c_1))) rfl rfl 0 (by decide) ln_X3_about_6 rfl rfl dX3_about_49 ?_
        exact W.iret (v := (nI (st.2.2 (x1.toNatClampNeg + 1)))) hx hb hr (fun t ht hW => ⟨⟨(nI (st.2.2 (x1.toNatClampNeg + 1))), st, rfl, ⟨(by simp only [fX3_about, if_neg c_1, if_neg c_2, if_pos c_3]), rfl⟩, ow_Bi ht hP⟩, hS.F ht⟩) hS.2.2 dX3_about_52
      · refine lv_lookup (tgt := 53) (off := 40) hx hb dX3_about_13 (by decide) (by simp only []; rw [lv_osw (k := 0) (a := 0) c_2 rfl]; rw [lv_osw (k := 1) (a := 1) c_3 rfl]; rfl) (by decide) ?_
        refine lv_iconst (v := (-1)) hx hb dX3_about_53 (by decide) ?_
        exact W.iret (v := (-1)) hx hb hr (fun t ht hW => ⟨⟨(-1), st, rfl, ⟨(by simp only [fX3_about, if_neg c_1, if_neg c_2, if_neg c_3]), rfl⟩, ow_Bi ht hP⟩, hS.F ht⟩) hS.2.2 dX3_about_54

theorem ln_X3_record_0 : (.fieldLinkNest RX3 164 "RecordLabels$Table" "size" "I" "RecordLabels" : Cond) ∈ ow_nest := by decide +kernel
theorem li_X3_record_X2 : ∀ w ∈ u_ws RX2 TX2 5, w ∈ wsX3_record := by decide +kernel
theorem li_X3_record_X3 : ∀ w ∈ u_ws RX3 TX3 14, w ∈ wsX3_record := by decide +kernel
theorem lk_X3_record_3 : (.fieldLink RX3 63 "RecordLabels" "draft" "[I" : Cond) ∈ wsX3_record := by decide +kernel
theorem ln_X3_record_4 : (.fieldLinkNest RX3 173 "RecordLabels$Table" "items" "I" "RecordLabels" : Cond) ∈ ow_nest := by decide +kernel
theorem ln_X3_record_5 : (.fieldLinkNest RX3 176 "RecordLabels$Table" "columns" "[[I" "RecordLabels" : Cond) ∈ ow_nest := by decide +kernel
def fX3_record (st : ow_St) (x1 x2 x3 x4 x5 : Int32) : Int32 × ow_St := (if x1 = 0 then (if (st.1 4 0) < 30 then (let st3 := (ow_si st 103 0 (fX3_toCell_0 st 0 x2)); (let st4 := (ow_si st3 103 1 (fX3_toCell_0 st3 1 x3)); (let st5 := (ow_si st4 103 2 (fX3_toCell_0 st4 2 x4)); (let st6 := (ow_si st5 103 3 (fX3_toCell_0 st5 3 x5)); (let st7 := (fX3_putTogether_0 st6).2; (if (fX3_putTogether_0 st6).1 = 1 then (let st9 := (ow_si st7 102 ((st7.1 4 0).toNatClampNeg) (st7.1 103 0)); (let st10 := (ow_si st9 106 ((st9.1 4 0).toNatClampNeg) (st9.1 103 1)); (let st11 := (ow_si st10 110 ((st10.1 4 0).toNatClampNeg) (st10.1 103 2)); (let st12 := (ow_si st11 4 0 ((st11.1 4 0) + 1)); (((st12.1 4 0) - 1), st12))))) else ((fX3_putTogether_0 st6).1, st7))))))) else ((-2), st)) else (if x1 = 1 then (if (st.1 4 1) < 30 then (let st15 := (ow_si st 103 0 (fX3_toCell_1 st 0 x2)); (let st16 := (ow_si st15 103 1 (fX3_toCell_1 st15 1 x3)); (let st17 := (ow_si st16 103 2 (fX3_toCell_1 st16 2 x4)); (let st18 := (ow_si st17 103 3 (fX3_toCell_1 st17 3 x5)); (let st19 := (fX3_putTogether_1 st18).2; (if (fX3_putTogether_1 st18).1 = 1 then (let st21 := (ow_si st19 118 ((st19.1 4 1).toNatClampNeg) (st19.1 103 0)); (let st22 := (ow_si st21 122 ((st21.1 4 1).toNatClampNeg) (st21.1 103 1)); (let st23 := (ow_si st22 126 ((st22.1 4 1).toNatClampNeg) (st22.1 103 2)); (let st24 := (ow_si st23 130 ((st23.1 4 1).toNatClampNeg) (st23.1 103 3)); (let st25 := (ow_si st24 4 1 ((st24.1 4 1) + 1)); (((st25.1 4 1) - 1), st25)))))) else ((fX3_putTogether_1 st18).1, st19))))))) else ((-2), st)) else ((-1), st)))
set_option maxHeartbeats 4000000 in
set_option maxRecDepth 100000 in
theorem kX3_record (l : Launch) (D : va_G) (ca : Nat → ClassId) (ad : ow_Ad) (A : Nat → Prop) (st : ow_St) (x1 : Int32) (x2 : Int32) (x3 : Int32) (x4 : Int32) (x5 : Int32) (hz0 : iv_sz st 0) (hz1 : iv_sz st 1) : Met l yX3_record wsX3_record ({ frames := 4, cells := 0, slots := 0, locals := 90 }) (va_Pc [.ref (ad 0 0), .int x1, .int x2, .int x3, .int x4, .int x5] (ow_W D ca ad A st)) (va_Qi (fun r st' => (r, st') = (fX3_record st x1 x2 x3 x4 x5)) (ow_B D ca ad) A) 0 0 A := by
  refine Met.ofW (cc := cX3_record) (maxL := 9) (ret := (some .int)) (by decide) rfl ?_
  intro p e s m args below meth c s₁ B hml hv
  obtain ⟨rfl, hP, hC⟩ := hv
  have hx := B.exec
  have hb := B.bytes
  have hr := B.returns
  have hts := atoms_spec (ws := wsX3_record) B.pre
  have hown : s.vm.findClass RX3 = some m.cls := findClass_of_methodNamed B.named
  have hlocks := B.notSynchronized
  have hS : va_S A s.heap s.heap [] := va_S.rf
  have hl := lv_entry ([.ref (ad 0 0), .int x1, .int x2, .int x3, .int x4, .int x5]) (n := 9) (Nat.le_of_ble_eq_true rfl)
  rw [lg_entry_eq]
  generalize (lg_sl ([.ref (ad 0 0), .int x1, .int x2, .int x3, .int x4, .int x5]) ++ List.replicate (9 - (lg_sl ([.ref (ad 0 0), .int x1, .int x2, .int x3, .int x4, .int x5])).length) Slot.unset).toArray = ls at hl ⊢
  have hl : lv_has ls 9 [(0, .ref (ad 0 0)), (1, .int x1), (2, .int x2), (3, .int x3), (4, .int x4), (5, .int x5)] := hl
  refine lv_aload_n hx hb dX3_record_0 rfl (lv_at hl 0 rfl) ?_
  refine lv_iload_n hx hb dX3_record_1 rfl (lv_at hl 1 rfl) ?_
  by_cases c_1 : x1 = 0
  · refine og_cqS (q := ad 6 0) (og_runV (C := RX3) (T := TX3) (N := 14) (g := 0) (i := 0) (As := [.int x1]) (rest := []) ⟨hx, hb, hml, hown, hts⟩ (kX3_tableNumbered l D ca ad A st x1) (cwV 1 hts gX3_record_X3_tableNumbered rfl rfl rfl (by decide +kernel) ⟨Nat.le_of_ble_eq_true rfl, Nat.le_of_ble_eq_true rfl⟩) hC hP hS (ow_q0_0) rfl rfl rfl hl.1 rfl (Nat.le_of_ble_eq_true rfl) dX3_record_2 ⟨Nat.zero_le _, Nat.zero_le _⟩) hS (by simp only [fX3_tableNumbered, if_pos c_1]) (fun H locs hP hS => ?_)
    refine lv_astore (lv' := [(6, .ref (ad 6 0)), (0, .ref (ad 0 0)), (1, .int x1), (2, .int x2), (3, .int x3), (4, .int x4), (5, .int x5)]) hx hb dX3_record_5 hl (by decide) rfl (fun ls hl => ?_)
    refine lv_aload hx hb dX3_record_7 (lv_at hl 0 rfl) ?_
    refine lv_ifnonnull (tgt := 14) hx hb dX3_record_9 (by decide) ?_
    refine lv_aload hx hb dX3_record_14 (lv_at hl 0 rfl) ?_
    refine og_getN (C := RX2) (T := TX2) (N := 5) (g := 6) (i := 0) (v := .int (st.1 4 0)) hx hb hts li_X3_record_X2 hown hC hP (ow_q6_0) rfl rfl 4 (by decide) ln_X3_record_0 rfl rfl dX3_record_16 ?_
    refine lv_bipush (v := 30) hx hb dX3_record_19 (by decide) ?_
    refine lv_icmp_lt (tgt := 27) hx hb dX3_record_21 (by decide) (fun c_2 => ?_) (fun c_2 => ?_)
    · refine lv_aload_n hx hb dX3_record_27 rfl (lv_at hl 1 rfl) ?_
      refine og_get (C := RX3) (T := TX3) (N := 14) (g := 0) (i := 0) (v := .ref (ad 9 0)) hx hb hts li_X3_record_X3 hown hC hP (ow_q0_0) rfl rfl 9 (by decide) (hts _ lk_X3_record_3) rfl rfl dX3_record_28 ?_
      refine lv_iconst (v := 0) hx hb dX3_record_31 (by decide) ?_
      refine lv_aload_n hx hb dX3_record_32 rfl (lv_at hl 1 rfl) ?_
      refine lv_aload hx hb dX3_record_33 (lv_at hl 0 rfl) ?_
      refine lv_iconst (v := 0) hx hb dX3_record_35 (by decide) ?_
      refine lv_iload_n hx hb dX3_record_36 rfl (lv_at hl 3 rfl) ?_
      refine og_ciP (og_runV (C := RX3) (T := TX3) (N := 14) (g := 0) (i := 0) (As := [.ref (ad 6 0), .int 0, .int x2]) (rest := [.int 0, .ref (ad 9 0)]) ⟨hx, hb, hml, hown, hts⟩ (kX3_toCell_0 l D ca ad A st 0 x2) (cwV 3 hts gX3_record_X3_toCell rfl rfl rfl (by decide +kernel) ⟨Nat.le_of_ble_eq_true rfl, Nat.le_of_ble_eq_true rfl⟩) hC hP hS (ow_q0_0) rfl rfl rfl hl.1 rfl (Nat.le_of_ble_eq_true rfl) dX3_record_37 ⟨Nat.zero_le _, Nat.zero_le _⟩) hS (fun H locs hP hS => ?_)
      refine og_iast (g := 9) (i := 0) (j := 0) (v := (fX3_toCell_0 st 0 x2)) hx hb hC hP hS (ow_q9_0) rfl (by unfold vp_in; decide) rfl (we_9_0 st 0 (fX3_toCell_0 st 0 x2)) dX3_record_40 (fun H locs hP hS => ?_)
      obtain ⟨st3, e3⟩ : ∃ z, z = (ow_si st 103 0 (fX3_toCell_0 st 0 x2)) := ⟨_, rfl⟩
      rw [← e3] at hP
      refine lv_aload_n hx hb dX3_record_41 rfl (lv_at hl 1 rfl) ?_
      refine og_get (C := RX3) (T := TX3) (N := 14) (g := 0) (i := 0) (v := .ref (ad 9 0)) hx hb hts li_X3_record_X3 hown hC hP (ow_q0_0) rfl rfl 9 (by decide) (hts _ lk_X3_record_3) rfl rfl dX3_record_42 ?_
      refine lv_iconst (v := 1) hx hb dX3_record_45 (by decide) ?_
      refine lv_aload_n hx hb dX3_record_46 rfl (lv_at hl 1 rfl) ?_
      refine lv_aload hx hb dX3_record_47 (lv_at hl 0 rfl) ?_
      refine lv_iconst (v := 1) hx hb dX3_record_49 (by decide) ?_
      refine lv_iload_n hx hb dX3_record_50 rfl (lv_at hl 4 rfl) ?_
      refine og_ciP (og_runV (C := RX3) (T := TX3) (N := 14) (g := 0) (i := 0) (As := [.ref (ad 6 0), .int 1, .int x3]) (rest := [.int 1, .ref (ad 9 0)]) ⟨hx, hb, hml, hown, hts⟩ (kX3_toCell_0 l D ca ad A st3 1 x3) (cwV 3 hts gX3_record_X3_toCell rfl rfl rfl (by decide +kernel) ⟨Nat.le_of_ble_eq_true rfl, Nat.le_of_ble_eq_true rfl⟩) hC hP hS (ow_q0_0) rfl rfl rfl hl.1 rfl (Nat.le_of_ble_eq_true rfl) dX3_record_51 ⟨Nat.zero_le _, Nat.zero_le _⟩) hS (fun H locs hP hS => ?_)
      refine og_iast (g := 9) (i := 0) (j := 1) (v := (fX3_toCell_0 st3 1 x3)) hx hb hC hP hS (ow_q9_0) rfl (by unfold vp_in; decide) rfl (we_9_0 st3 1 (fX3_toCell_0 st3 1 x3)) dX3_record_54 (fun H locs hP hS => ?_)
      obtain ⟨st4, e4⟩ : ∃ z, z = (ow_si st3 103 1 (fX3_toCell_0 st3 1 x3)) := ⟨_, rfl⟩
      rw [← e4] at hP
      refine lv_aload_n hx hb dX3_record_55 rfl (lv_at hl 1 rfl) ?_
      refine og_get (C := RX3) (T := TX3) (N := 14) (g := 0) (i := 0) (v := .ref (ad 9 0)) hx hb hts li_X3_record_X3 hown hC hP (ow_q0_0) rfl rfl 9 (by decide) (hts _ lk_X3_record_3) rfl rfl dX3_record_56 ?_
      refine lv_iconst (v := 2) hx hb dX3_record_59 (by decide) ?_
      refine lv_aload_n hx hb dX3_record_60 rfl (lv_at hl 1 rfl) ?_
      refine lv_aload hx hb dX3_record_61 (lv_at hl 0 rfl) ?_
      refine lv_iconst (v := 2) hx hb dX3_record_63 (by decide) ?_
      refine lv_iload hx hb dX3_record_64 (lv_at hl 5 rfl) ?_
      refine og_ciP (og_runV (C := RX3) (T := TX3) (N := 14) (g := 0) (i := 0) (As := [.ref (ad 6 0), .int 2, .int x4]) (rest := [.int 2, .ref (ad 9 0)]) ⟨hx, hb, hml, hown, hts⟩ (kX3_toCell_0 l D ca ad A st4 2 x4) (cwV 3 hts gX3_record_X3_toCell rfl rfl rfl (by decide +kernel) ⟨Nat.le_of_ble_eq_true rfl, Nat.le_of_ble_eq_true rfl⟩) hC hP hS (ow_q0_0) rfl rfl rfl hl.1 rfl (Nat.le_of_ble_eq_true rfl) dX3_record_66 ⟨Nat.zero_le _, Nat.zero_le _⟩) hS (fun H locs hP hS => ?_)
      refine og_iast (g := 9) (i := 0) (j := 2) (v := (fX3_toCell_0 st4 2 x4)) hx hb hC hP hS (ow_q9_0) rfl (by unfold vp_in; decide) rfl (we_9_0 st4 2 (fX3_toCell_0 st4 2 x4)) dX3_record_69 (fun H locs hP hS => ?_)
      obtain ⟨st5, e5⟩ : ∃ z, z = (ow_si st4 103 2 (fX3_toCell_0 st4 2 x4)) := ⟨_, rfl⟩
      rw [← e5] at hP
      refine lv_aload_n hx hb dX3_record_70 rfl (lv_at hl 1 rfl) ?_
      refine og_get (C := RX3) (T := TX3) (N := 14) (g := 0) (i := 0) (v := .ref (ad 9 0)) hx hb hts li_X3_record_X3 hown hC hP (ow_q0_0) rfl rfl 9 (by decide) (hts _ lk_X3_record_3) rfl rfl dX3_record_71 ?_
      refine lv_iconst (v := 3) hx hb dX3_record_74 (by decide) ?_
      refine lv_aload_n hx hb dX3_record_75 rfl (lv_at hl 1 rfl) ?_
      refine lv_aload hx hb dX3_record_76 (lv_at hl 0 rfl) ?_
      refine lv_iconst (v := 3) hx hb dX3_record_78 (by decide) ?_
      refine lv_iload hx hb dX3_record_79 (lv_at hl 6 rfl) ?_
      refine og_ciP (og_runV (C := RX3) (T := TX3) (N := 14) (g := 0) (i := 0) (As := [.ref (ad 6 0), .int 3, .int x5]) (rest := [.int 3, .ref (ad 9 0)]) ⟨hx, hb, hml, hown, hts⟩ (kX3_toCell_0 l D ca ad A st5 3 x5) (cwV 3 hts gX3_record_X3_toCell rfl rfl rfl (by decide +kernel) ⟨Nat.le_of_ble_eq_true rfl, Nat.le_of_ble_eq_true rfl⟩) hC hP hS (ow_q0_0) rfl rfl rfl hl.1 rfl (Nat.le_of_ble_eq_true rfl) dX3_record_81 ⟨Nat.zero_le _, Nat.zero_le _⟩) hS (fun H locs hP hS => ?_)
      refine og_iast (g := 9) (i := 0) (j := 3) (v := (fX3_toCell_0 st5 3 x5)) hx hb hC hP hS (ow_q9_0) rfl (by unfold vp_in; decide) rfl (we_9_0 st5 3 (fX3_toCell_0 st5 3 x5)) dX3_record_84 (fun H locs hP hS => ?_)
      obtain ⟨st6, e6⟩ : ∃ z, z = (ow_si st5 103 3 (fX3_toCell_0 st5 3 x5)) := ⟨_, rfl⟩
      rw [← e6] at hP
      refine lv_aload_n hx hb dX3_record_85 rfl (lv_at hl 1 rfl) ?_
      refine lv_aload hx hb dX3_record_86 (lv_at hl 0 rfl) ?_
      refine og_ciW (og_runV (C := RX3) (T := TX3) (N := 14) (g := 0) (i := 0) (As := [.ref (ad 6 0)]) (rest := []) ⟨hx, hb, hml, hown, hts⟩ (kX3_putTogether_0 l D ca ad A st6) (cwV 1 hts gX3_record_X3_putTogether rfl rfl rfl (by decide +kernel) ⟨Nat.le_of_ble_eq_true rfl, Nat.le_of_ble_eq_true rfl⟩) hC hP hS (ow_q0_0) rfl rfl rfl hl.1 rfl (Nat.le_of_ble_eq_true rfl) dX3_record_88 ⟨Nat.zero_le _, Nat.zero_le _⟩) hS (fun H locs hP hS => ?_)
      obtain ⟨st7, e7⟩ : ∃ z, z = (fX3_putTogether_0 st6).2 := ⟨_, rfl⟩
      rw [← e7] at hP
      refine lv_istore (lv' := [(7, .int ((fX3_putTogether_0 st6).1)), (6, .ref (ad 6 0)), (0, .ref (ad 0 0)), (1, .int x1), (2, .int x2), (3, .int x3), (4, .int x4), (5, .int x5)]) hx hb dX3_record_91 hl (by decide) rfl (fun ls hl => ?_)
      refine lv_iload hx hb dX3_record_93 (lv_at hl 0 rfl) ?_
      refine lv_iconst (v := 1) hx hb dX3_record_95 (by decide) ?_
      refine lv_icmp_eq (tgt := 102) hx hb dX3_record_96 (by decide) (fun c_8 => ?_) (fun c_8 => ?_)
      · refine lv_iconst (v := 0) hx hb dX3_record_102 (by decide) ?_
        refine lv_istore (lv' := [(8, .int 0), (7, .int ((fX3_putTogether_0 st6).1)), (6, .ref (ad 6 0)), (0, .ref (ad 0 0)), (1, .int x1), (2, .int x2), (3, .int x3), (4, .int x4), (5, .int x5)]) hx hb dX3_record_103 hl (by decide) rfl (fun ls hl => ?_)
        refine lv_iload hx hb dX3_record_105 (lv_at hl 0 rfl) ?_
        refine lv_aload hx hb dX3_record_107 (lv_at hl 2 rfl) ?_
        refine og_getN (C := RX2) (T := TX2) (N := 5) (g := 6) (i := 0) (v := .int 3) hx hb hts li_X3_record_X2 hown hC hP (ow_q6_0) rfl rfl 1 (by decide) ln_X3_record_4 rfl rfl dX3_record_109 ?_
        refine lv_icmp_ge (tgt := 142) hx hb dX3_record_112 (by decide) (fun c => absurd c (by decide)) (fun _ => ?_)
        refine lv_aload hx hb dX3_record_115 (lv_at hl 2 rfl) ?_
        refine og_getN (C := RX2) (T := TX2) (N := 5) (g := 6) (i := 0) (v := .ref (ad 7 0)) hx hb hts li_X3_record_X2 hown hC hP (ow_q6_0) rfl rfl 3 (by decide) ln_X3_record_5 rfl rfl dX3_record_117 ?_
        refine lv_iload hx hb dX3_record_120 (lv_at hl 0 rfl) ?_
        refine og_aaldI (g := 7) (i := 0) (v := ad 8 0) hx hb hC hP ow_q7_0 rfl (by unfold vp_in; decide) rfl dX3_record_122 ?_
        refine lv_aload hx hb dX3_record_123 (lv_at hl 2 rfl) ?_
        refine og_getN (C := RX2) (T := TX2) (N := 5) (g := 6) (i := 0) (v := .int (st7.1 4 0)) hx hb hts li_X3_record_X2 hown hC hP (ow_q6_0) rfl rfl 4 (by decide) ln_X3_record_0 rfl rfl dX3_record_125 ?_
        refine lv_aload_n hx hb dX3_record_128 rfl (lv_at hl 3 rfl) ?_
        refine og_get (C := RX3) (T := TX3) (N := 14) (g := 0) (i := 0) (v := .ref (ad 9 0)) hx hb hts li_X3_record_X3 hown hC hP (ow_q0_0) rfl rfl 9 (by decide) (hts _ lk_X3_record_3) rfl rfl dX3_record_129 ?_
        refine lv_iload hx hb dX3_record_132 (lv_at hl 0 rfl) ?_
        refine og_iald (g := 9) (i := 0) (j := 0) (v := (st7.1 103 0)) hx hb hC hP (ow_q9_0) rfl (by unfold vp_in; decide) rfl rfl dX3_record_134 ?_
        refine og_iast (g := 8) (i := 0) (j := ((st7.1 4 0).toNatClampNeg)) (v := (st7.1 103 0)) hx hb hC hP hS (ow_q8_0) rfl (by have h9 := sz_in hz0 c_2; subst e7; subst e6; subst e5; subst e4; subst e3; simp (disch := decide) only [ow_si_ne, pu_fr_0]; exact h9) rfl (we_8 st7 0 ((st7.1 4 0).toNatClampNeg) (st7.1 103 0)) dX3_record_135 (fun H locs hP hS => ?_)
        obtain ⟨st9, e9⟩ : ∃ z, z = (ow_si st7 102 ((st7.1 4 0).toNatClampNeg) (st7.1 103 0)) := ⟨_, rfl⟩
        rw [← e9] at hP
        refine lv_iinc (v := 1) (lv' := [(8, .int 1), (7, .int ((fX3_putTogether_0 st6).1)), (6, .ref (ad 6 0)), (0, .ref (ad 0 0)), (1, .int x1), (2, .int x2), (3, .int x3), (4, .int x4), (5, .int x5)]) hx hb dX3_record_136 hl (k := 0) rfl (by decide) (by decide) rfl (fun ls hl => ?_)
        refine lv_goto (tgt := 105) hx hb dX3_record_139 (by decide) ?_
        refine lv_iload hx hb dX3_record_105 (lv_at hl 0 rfl) ?_
        refine lv_aload hx hb dX3_record_107 (lv_at hl 2 rfl) ?_
        refine og_getN (C := RX2) (T := TX2) (N := 5) (g := 6) (i := 0) (v := .int 3) hx hb hts li_X3_record_X2 hown hC hP (ow_q6_0) rfl rfl 1 (by decide) ln_X3_record_4 rfl rfl dX3_record_109 ?_
        refine lv_icmp_ge (tgt := 142) hx hb dX3_record_112 (by decide) (fun c => absurd c (by decide)) (fun _ => ?_)
        refine lv_aload hx hb dX3_record_115 (lv_at hl 2 rfl) ?_
        refine og_getN (C := RX2) (T := TX2) (N := 5) (g := 6) (i := 0) (v := .ref (ad 7 0)) hx hb hts li_X3_record_X2 hown hC hP (ow_q6_0) rfl rfl 3 (by decide) ln_X3_record_5 rfl rfl dX3_record_117 ?_
        refine lv_iload hx hb dX3_record_120 (lv_at hl 0 rfl) ?_
        refine og_aaldI (g := 7) (i := 0) (v := ad 8 1) hx hb hC hP ow_q7_0 rfl (by unfold vp_in; decide) rfl dX3_record_122 ?_
        refine lv_aload hx hb dX3_record_123 (lv_at hl 2 rfl) ?_
        refine og_getN (C := RX2) (T := TX2) (N := 5) (g := 6) (i := 0) (v := .int (st9.1 4 0)) hx hb hts li_X3_record_X2 hown hC hP (ow_q6_0) rfl rfl 4 (by decide) ln_X3_record_0 rfl rfl dX3_record_125 ?_
        refine lv_aload_n hx hb dX3_record_128 rfl (lv_at hl 3 rfl) ?_
        refine og_get (C := RX3) (T := TX3) (N := 14) (g := 0) (i := 0) (v := .ref (ad 9 0)) hx hb hts li_X3_record_X3 hown hC hP (ow_q0_0) rfl rfl 9 (by decide) (hts _ lk_X3_record_3) rfl rfl dX3_record_129 ?_
        refine lv_iload hx hb dX3_record_132 (lv_at hl 0 rfl) ?_
        refine og_iald (g := 9) (i := 0) (j := 1) (v := (st9.1 103 1)) hx hb hC hP (ow_q9_0) rfl (by unfold vp_in; decide) rfl rfl dX3_record_134 ?_
        refine og_iast (g := 8) (i := 1) (j := ((st9.1 4 0).toNatClampNeg)) (v := (st9.1 103 1)) hx hb hC hP hS (ow_q8_1) rfl (by have h9 := sz_in hz0 c_2; subst e9; subst e7; subst e6; subst e5; subst e4; subst e3; simp (disch := decide) only [ow_si_ne, pu_fr_0]; exact h9) rfl (we_8 st9 1 ((st9.1 4 0).toNatClampNeg) (st9.1 103 1)) dX3_record_135 (fun H locs hP hS => ?_)
        obtain ⟨st10, e10⟩ : ∃ z, z = (ow_si st9 106 ((st9.1 4 0).toNatClampNeg) (st9.1 103 1)) := ⟨_, rfl⟩
        rw [← e10] at hP
        refine lv_iinc (v := 2) (lv' := [(8, .int 2), (7, .int ((fX3_putTogether_0 st6).1)), (6, .ref (ad 6 0)), (0, .ref (ad 0 0)), (1, .int x1), (2, .int x2), (3, .int x3), (4, .int x4), (5, .int x5)]) hx hb dX3_record_136 hl (k := 0) rfl (by decide) (by decide) rfl (fun ls hl => ?_)
        refine lv_goto (tgt := 105) hx hb dX3_record_139 (by decide) ?_
        refine lv_iload hx hb dX3_record_105 (lv_at hl 0 rfl) ?_
        refine lv_aload hx hb dX3_record_107 (lv_at hl 2 rfl) ?_
        refine og_getN (C := RX2) (T := TX2) (N := 5) (g := 6) (i := 0) (v := .int 3) hx hb hts li_X3_record_X2 hown hC hP (ow_q6_0) rfl rfl 1 (by decide) ln_X3_record_4 rfl rfl dX3_record_109 ?_
        refine lv_icmp_ge (tgt := 142) hx hb dX3_record_112 (by decide) (fun c => absurd c (by decide)) (fun _ => ?_)
        refine lv_aload hx hb dX3_record_115 (lv_at hl 2 rfl) ?_
        refine og_getN (C := RX2) (T := TX2) (N := 5) (g := 6) (i := 0) (v := .ref (ad 7 0)) hx hb hts li_X3_record_X2 hown hC hP (ow_q6_0) rfl rfl 3 (by decide) ln_X3_record_5 rfl rfl dX3_record_117 ?_
        refine lv_iload hx hb dX3_record_120 (lv_at hl 0 rfl) ?_
        refine og_aaldI (g := 7) (i := 0) (v := ad 8 2) hx hb hC hP ow_q7_0 rfl (by unfold vp_in; decide) rfl dX3_record_122 ?_
        refine lv_aload hx hb dX3_record_123 (lv_at hl 2 rfl) ?_
        refine og_getN (C := RX2) (T := TX2) (N := 5) (g := 6) (i := 0) (v := .int (st10.1 4 0)) hx hb hts li_X3_record_X2 hown hC hP (ow_q6_0) rfl rfl 4 (by decide) ln_X3_record_0 rfl rfl dX3_record_125 ?_
        refine lv_aload_n hx hb dX3_record_128 rfl (lv_at hl 3 rfl) ?_
        refine og_get (C := RX3) (T := TX3) (N := 14) (g := 0) (i := 0) (v := .ref (ad 9 0)) hx hb hts li_X3_record_X3 hown hC hP (ow_q0_0) rfl rfl 9 (by decide) (hts _ lk_X3_record_3) rfl rfl dX3_record_129 ?_
        refine lv_iload hx hb dX3_record_132 (lv_at hl 0 rfl) ?_
        refine og_iald (g := 9) (i := 0) (j := 2) (v := (st10.1 103 2)) hx hb hC hP (ow_q9_0) rfl (by unfold vp_in; decide) rfl rfl dX3_record_134 ?_
        refine og_iast (g := 8) (i := 2) (j := ((st10.1 4 0).toNatClampNeg)) (v := (st10.1 103 2)) hx hb hC hP hS (ow_q8_2) rfl (by have h9 := sz_in hz0 c_2; subst e10; subst e9; subst e7; subst e6; subst e5; subst e4; subst e3; simp (disch := decide) only [ow_si_ne, pu_fr_0]; exact h9) rfl (we_8 st10 2 ((st10.1 4 0).toNatClampNeg) (st10.1 103 2)) dX3_record_135 (fun H locs hP hS => ?_)
        obtain ⟨st11, e11⟩ : ∃ z, z = (ow_si st10 110 ((st10.1 4 0).toNatClampNeg) (st10.1 103 2)) := ⟨_, rfl⟩
        rw [← e11] at hP
        refine lv_iinc (v := 3) (lv' := [(8, .int 3), (7, .int ((fX3_putTogether_0 st6).1)), (6, .ref (ad 6 0)), (0, .ref (ad 0 0)), (1, .int x1), (2, .int x2), (3, .int x3), (4, .int x4), (5, .int x5)]) hx hb dX3_record_136 hl (k := 0) rfl (by decide) (by decide) rfl (fun ls hl => ?_)
        refine lv_goto (tgt := 105) hx hb dX3_record_139 (by decide) ?_
        refine lv_iload hx hb dX3_record_105 (lv_at hl 0 rfl) ?_
        refine lv_aload hx hb dX3_record_107 (lv_at hl 2 rfl) ?_
        refine og_getN (C := RX2) (T := TX2) (N := 5) (g := 6) (i := 0) (v := .int 3) hx hb hts li_X3_record_X2 hown hC hP (ow_q6_0) rfl rfl 1 (by decide) ln_X3_record_4 rfl rfl dX3_record_109 ?_
        refine lv_icmp_ge (tgt := 142) hx hb dX3_record_112 (by decide) (fun _ => ?_) (fun c => absurd (by decide) c)
        refine lv_aload hx hb dX3_record_142 (lv_at hl 2 rfl) ?_
        refine lv_dup hx hb dX3_record_144 rfl ?_
        refine og_getN (C := RX2) (T := TX2) (N := 5) (g := 6) (i := 0) (v := .int (st11.1 4 0)) hx hb hts li_X3_record_X2 hown hC hP (ow_q6_0) rfl rfl 4 (by decide) ln_X3_record_0 rfl rfl dX3_record_145 ?_
        refine lv_iconst (v := 1) hx hb dX3_record_148 (by decide) ?_
        refine lv_iadd hx hb dX3_record_149 ?_
        refine og_putN (C := RX2) (T := TX2) (N := 5) (g := 6) (i := 0) (v := .int ((st11.1 4 0) + 1)) (ty := .int) hx hb hts li_X3_record_X2 tyX2 tyX2_ok nmX2 hown hC hP hS (ow_q6_0) rfl rfl 4 (by decide) ln_X3_record_0 rfl rfl (by decide +kernel) rfl rfl (Nat.le_of_ble_eq_true rfl) (we_6 st11 0 ((st11.1 4 0) + 1)) dX3_record_150 (fun H locs hP hS => ?_)
        obtain ⟨st12, e12⟩ : ∃ z, z = (ow_si st11 4 0 ((st11.1 4 0) + 1)) := ⟨_, rfl⟩
        rw [← e12] at hP
        refine lv_aload hx hb dX3_record_153 (lv_at hl 2 rfl) ?_
        refine og_getN (C := RX2) (T := TX2) (N := 5) (g := 6) (i := 0) (v := .int (st12.1 4 0)) hx hb hts li_X3_record_X2 hown hC hP (ow_q6_0) rfl rfl 4 (by decide) ln_X3_record_0 rfl rfl dX3_record_155 ?_
        refine lv_iconst (v := 1) hx hb dX3_record_158 (by decide) ?_
        refine lv_isub hx hb dX3_record_159 ?_
        exact W.iret (v := ((st12.1 4 0) - 1)) hx hb hr (fun t ht hW => ⟨⟨((st12.1 4 0) - 1), st12, rfl, (by subst e12; subst e11; subst e10; subst e9; subst e7; subst e6; subst e5; subst e4; subst e3; simp only [fX3_record, if_pos c_1, if_pos c_2, if_pos c_8]), ow_Bi ht hP⟩, hS.F ht⟩) hS.2.2 dX3_record_160
      · refine lv_iload hx hb dX3_record_99 (lv_at hl 0 rfl) ?_
        exact W.iret (v := (fX3_putTogether_0 st6).1) hx hb hr (fun t ht hW => ⟨⟨(fX3_putTogether_0 st6).1, st7, rfl, (by subst e7; subst e6; subst e5; subst e4; subst e3; simp only [fX3_record, if_pos c_1, if_pos c_2, if_neg c_8]), ow_Bi ht hP⟩, hS.F ht⟩) hS.2.2 dX3_record_101
    · refine lv_bipush (v := (-2)) hx hb dX3_record_24 (by decide) ?_
      exact W.iret (v := (-2)) hx hb hr (fun t ht hW => ⟨⟨(-2), st, rfl, (by simp only [fX3_record, if_pos c_1, if_neg c_2]), ow_Bi ht hP⟩, hS.F ht⟩) hS.2.2 dX3_record_26
  · by_cases c_13 : x1 = 1
    · refine og_cqS (q := ad 6 1) (og_runV (C := RX3) (T := TX3) (N := 14) (g := 0) (i := 0) (As := [.int x1]) (rest := []) ⟨hx, hb, hml, hown, hts⟩ (kX3_tableNumbered l D ca ad A st x1) (cwV 1 hts gX3_record_X3_tableNumbered rfl rfl rfl (by decide +kernel) ⟨Nat.le_of_ble_eq_true rfl, Nat.le_of_ble_eq_true rfl⟩) hC hP hS (ow_q0_0) rfl rfl rfl hl.1 rfl (Nat.le_of_ble_eq_true rfl) dX3_record_2 ⟨Nat.zero_le _, Nat.zero_le _⟩) hS (by simp only [fX3_tableNumbered, if_neg c_1, if_pos c_13]) (fun H locs hP hS => ?_)
      refine lv_astore (lv' := [(6, .ref (ad 6 1)), (0, .ref (ad 0 0)), (1, .int x1), (2, .int x2), (3, .int x3), (4, .int x4), (5, .int x5)]) hx hb dX3_record_5 hl (by decide) rfl (fun ls hl => ?_)
      refine lv_aload hx hb dX3_record_7 (lv_at hl 0 rfl) ?_
      refine lv_ifnonnull (tgt := 14) hx hb dX3_record_9 (by decide) ?_
      refine lv_aload hx hb dX3_record_14 (lv_at hl 0 rfl) ?_
      refine og_getN (C := RX2) (T := TX2) (N := 5) (g := 6) (i := 1) (v := .int (st.1 4 1)) hx hb hts li_X3_record_X2 hown hC hP (ow_q6_1) rfl rfl 4 (by decide) ln_X3_record_0 rfl rfl dX3_record_16 ?_
      refine lv_bipush (v := 30) hx hb dX3_record_19 (by decide) ?_
      refine lv_icmp_lt (tgt := 27) hx hb dX3_record_21 (by decide) (fun c_14 => ?_) (fun c_14 => ?_)
      · refine lv_aload_n hx hb dX3_record_27 rfl (lv_at hl 1 rfl) ?_
        refine og_get (C := RX3) (T := TX3) (N := 14) (g := 0) (i := 0) (v := .ref (ad 9 0)) hx hb hts li_X3_record_X3 hown hC hP (ow_q0_0) rfl rfl 9 (by decide) (hts _ lk_X3_record_3) rfl rfl dX3_record_28 ?_
        refine lv_iconst (v := 0) hx hb dX3_record_31 (by decide) ?_
        refine lv_aload_n hx hb dX3_record_32 rfl (lv_at hl 1 rfl) ?_
        refine lv_aload hx hb dX3_record_33 (lv_at hl 0 rfl) ?_
        refine lv_iconst (v := 0) hx hb dX3_record_35 (by decide) ?_
        refine lv_iload_n hx hb dX3_record_36 rfl (lv_at hl 3 rfl) ?_
        refine og_ciP (og_runV (C := RX3) (T := TX3) (N := 14) (g := 0) (i := 0) (As := [.ref (ad 6 1), .int 0, .int x2]) (rest := [.int 0, .ref (ad 9 0)]) ⟨hx, hb, hml, hown, hts⟩ (kX3_toCell_1 l D ca ad A st 0 x2) (cwV 3 hts gX3_record_X3_toCell rfl rfl rfl (by decide +kernel) ⟨Nat.le_of_ble_eq_true rfl, Nat.le_of_ble_eq_true rfl⟩) hC hP hS (ow_q0_0) rfl rfl rfl hl.1 rfl (Nat.le_of_ble_eq_true rfl) dX3_record_37 ⟨Nat.zero_le _, Nat.zero_le _⟩) hS (fun H locs hP hS => ?_)
        refine og_iast (g := 9) (i := 0) (j := 0) (v := (fX3_toCell_1 st 0 x2)) hx hb hC hP hS (ow_q9_0) rfl (by unfold vp_in; decide) rfl (we_9_0 st 0 (fX3_toCell_1 st 0 x2)) dX3_record_40 (fun H locs hP hS => ?_)
        obtain ⟨st15, e15⟩ : ∃ z, z = (ow_si st 103 0 (fX3_toCell_1 st 0 x2)) := ⟨_, rfl⟩
        rw [← e15] at hP
        refine lv_aload_n hx hb dX3_record_41 rfl (lv_at hl 1 rfl) ?_
        refine og_get (C := RX3) (T := TX3) (N := 14) (g := 0) (i := 0) (v := .ref (ad 9 0)) hx hb hts li_X3_record_X3 hown hC hP (ow_q0_0) rfl rfl 9 (by decide) (hts _ lk_X3_record_3) rfl rfl dX3_record_42 ?_
        refine lv_iconst (v := 1) hx hb dX3_record_45 (by decide) ?_
        refine lv_aload_n hx hb dX3_record_46 rfl (lv_at hl 1 rfl) ?_
        refine lv_aload hx hb dX3_record_47 (lv_at hl 0 rfl) ?_
        refine lv_iconst (v := 1) hx hb dX3_record_49 (by decide) ?_
        refine lv_iload_n hx hb dX3_record_50 rfl (lv_at hl 4 rfl) ?_
        refine og_ciP (og_runV (C := RX3) (T := TX3) (N := 14) (g := 0) (i := 0) (As := [.ref (ad 6 1), .int 1, .int x3]) (rest := [.int 1, .ref (ad 9 0)]) ⟨hx, hb, hml, hown, hts⟩ (kX3_toCell_1 l D ca ad A st15 1 x3) (cwV 3 hts gX3_record_X3_toCell rfl rfl rfl (by decide +kernel) ⟨Nat.le_of_ble_eq_true rfl, Nat.le_of_ble_eq_true rfl⟩) hC hP hS (ow_q0_0) rfl rfl rfl hl.1 rfl (Nat.le_of_ble_eq_true rfl) dX3_record_51 ⟨Nat.zero_le _, Nat.zero_le _⟩) hS (fun H locs hP hS => ?_)
        refine og_iast (g := 9) (i := 0) (j := 1) (v := (fX3_toCell_1 st15 1 x3)) hx hb hC hP hS (ow_q9_0) rfl (by unfold vp_in; decide) rfl (we_9_0 st15 1 (fX3_toCell_1 st15 1 x3)) dX3_record_54 (fun H locs hP hS => ?_)
        obtain ⟨st16, e16⟩ : ∃ z, z = (ow_si st15 103 1 (fX3_toCell_1 st15 1 x3)) := ⟨_, rfl⟩
        rw [← e16] at hP
        refine lv_aload_n hx hb dX3_record_55 rfl (lv_at hl 1 rfl) ?_
        refine og_get (C := RX3) (T := TX3) (N := 14) (g := 0) (i := 0) (v := .ref (ad 9 0)) hx hb hts li_X3_record_X3 hown hC hP (ow_q0_0) rfl rfl 9 (by decide) (hts _ lk_X3_record_3) rfl rfl dX3_record_56 ?_
        refine lv_iconst (v := 2) hx hb dX3_record_59 (by decide) ?_
        refine lv_aload_n hx hb dX3_record_60 rfl (lv_at hl 1 rfl) ?_
        refine lv_aload hx hb dX3_record_61 (lv_at hl 0 rfl) ?_
        refine lv_iconst (v := 2) hx hb dX3_record_63 (by decide) ?_
        refine lv_iload hx hb dX3_record_64 (lv_at hl 5 rfl) ?_
        refine og_ciP (og_runV (C := RX3) (T := TX3) (N := 14) (g := 0) (i := 0) (As := [.ref (ad 6 1), .int 2, .int x4]) (rest := [.int 2, .ref (ad 9 0)]) ⟨hx, hb, hml, hown, hts⟩ (kX3_toCell_1 l D ca ad A st16 2 x4) (cwV 3 hts gX3_record_X3_toCell rfl rfl rfl (by decide +kernel) ⟨Nat.le_of_ble_eq_true rfl, Nat.le_of_ble_eq_true rfl⟩) hC hP hS (ow_q0_0) rfl rfl rfl hl.1 rfl (Nat.le_of_ble_eq_true rfl) dX3_record_66 ⟨Nat.zero_le _, Nat.zero_le _⟩) hS (fun H locs hP hS => ?_)
        refine og_iast (g := 9) (i := 0) (j := 2) (v := (fX3_toCell_1 st16 2 x4)) hx hb hC hP hS (ow_q9_0) rfl (by unfold vp_in; decide) rfl (we_9_0 st16 2 (fX3_toCell_1 st16 2 x4)) dX3_record_69 (fun H locs hP hS => ?_)
        obtain ⟨st17, e17⟩ : ∃ z, z = (ow_si st16 103 2 (fX3_toCell_1 st16 2 x4)) := ⟨_, rfl⟩
        rw [← e17] at hP
        refine lv_aload_n hx hb dX3_record_70 rfl (lv_at hl 1 rfl) ?_
        refine og_get (C := RX3) (T := TX3) (N := 14) (g := 0) (i := 0) (v := .ref (ad 9 0)) hx hb hts li_X3_record_X3 hown hC hP (ow_q0_0) rfl rfl 9 (by decide) (hts _ lk_X3_record_3) rfl rfl dX3_record_71 ?_
        refine lv_iconst (v := 3) hx hb dX3_record_74 (by decide) ?_
        refine lv_aload_n hx hb dX3_record_75 rfl (lv_at hl 1 rfl) ?_
        refine lv_aload hx hb dX3_record_76 (lv_at hl 0 rfl) ?_
        refine lv_iconst (v := 3) hx hb dX3_record_78 (by decide) ?_
        refine lv_iload hx hb dX3_record_79 (lv_at hl 6 rfl) ?_
        refine og_ciP (og_runV (C := RX3) (T := TX3) (N := 14) (g := 0) (i := 0) (As := [.ref (ad 6 1), .int 3, .int x5]) (rest := [.int 3, .ref (ad 9 0)]) ⟨hx, hb, hml, hown, hts⟩ (kX3_toCell_1 l D ca ad A st17 3 x5) (cwV 3 hts gX3_record_X3_toCell rfl rfl rfl (by decide +kernel) ⟨Nat.le_of_ble_eq_true rfl, Nat.le_of_ble_eq_true rfl⟩) hC hP hS (ow_q0_0) rfl rfl rfl hl.1 rfl (Nat.le_of_ble_eq_true rfl) dX3_record_81 ⟨Nat.zero_le _, Nat.zero_le _⟩) hS (fun H locs hP hS => ?_)
        refine og_iast (g := 9) (i := 0) (j := 3) (v := (fX3_toCell_1 st17 3 x5)) hx hb hC hP hS (ow_q9_0) rfl (by unfold vp_in; decide) rfl (we_9_0 st17 3 (fX3_toCell_1 st17 3 x5)) dX3_record_84 (fun H locs hP hS => ?_)
        obtain ⟨st18, e18⟩ : ∃ z, z = (ow_si st17 103 3 (fX3_toCell_1 st17 3 x5)) := ⟨_, rfl⟩
        rw [← e18] at hP
        refine lv_aload_n hx hb dX3_record_85 rfl (lv_at hl 1 rfl) ?_
        refine lv_aload hx hb dX3_record_86 (lv_at hl 0 rfl) ?_
        refine og_ciW (og_runV (C := RX3) (T := TX3) (N := 14) (g := 0) (i := 0) (As := [.ref (ad 6 1)]) (rest := []) ⟨hx, hb, hml, hown, hts⟩ (kX3_putTogether_1 l D ca ad A st18) (cwV 1 hts gX3_record_X3_putTogether rfl rfl rfl (by decide +kernel) ⟨Nat.le_of_ble_eq_true rfl, Nat.le_of_ble_eq_true rfl⟩) hC hP hS (ow_q0_0) rfl rfl rfl hl.1 rfl (Nat.le_of_ble_eq_true rfl) dX3_record_88 ⟨Nat.zero_le _, Nat.zero_le _⟩) hS (fun H locs hP hS => ?_)
        obtain ⟨st19, e19⟩ : ∃ z, z = (fX3_putTogether_1 st18).2 := ⟨_, rfl⟩
        rw [← e19] at hP
        refine lv_istore (lv' := [(7, .int ((fX3_putTogether_1 st18).1)), (6, .ref (ad 6 1)), (0, .ref (ad 0 0)), (1, .int x1), (2, .int x2), (3, .int x3), (4, .int x4), (5, .int x5)]) hx hb dX3_record_91 hl (by decide) rfl (fun ls hl => ?_)
        refine lv_iload hx hb dX3_record_93 (lv_at hl 0 rfl) ?_
        refine lv_iconst (v := 1) hx hb dX3_record_95 (by decide) ?_
        refine lv_icmp_eq (tgt := 102) hx hb dX3_record_96 (by decide) (fun c_20 => ?_) (fun c_20 => ?_)
        · refine lv_iconst (v := 0) hx hb dX3_record_102 (by decide) ?_
          refine lv_istore (lv' := [(8, .int 0), (7, .int ((fX3_putTogether_1 st18).1)), (6, .ref (ad 6 1)), (0, .ref (ad 0 0)), (1, .int x1), (2, .int x2), (3, .int x3), (4, .int x4), (5, .int x5)]) hx hb dX3_record_103 hl (by decide) rfl (fun ls hl => ?_)
          refine lv_iload hx hb dX3_record_105 (lv_at hl 0 rfl) ?_
          refine lv_aload hx hb dX3_record_107 (lv_at hl 2 rfl) ?_
          refine og_getN (C := RX2) (T := TX2) (N := 5) (g := 6) (i := 1) (v := .int 4) hx hb hts li_X3_record_X2 hown hC hP (ow_q6_1) rfl rfl 1 (by decide) ln_X3_record_4 rfl rfl dX3_record_109 ?_
          refine lv_icmp_ge (tgt := 142) hx hb dX3_record_112 (by decide) (fun c => absurd c (by decide)) (fun _ => ?_)
          refine lv_aload hx hb dX3_record_115 (lv_at hl 2 rfl) ?_
          refine og_getN (C := RX2) (T := TX2) (N := 5) (g := 6) (i := 1) (v := .ref (ad 7 1)) hx hb hts li_X3_record_X2 hown hC hP (ow_q6_1) rfl rfl 3 (by decide) ln_X3_record_5 rfl rfl dX3_record_117 ?_
          refine lv_iload hx hb dX3_record_120 (lv_at hl 0 rfl) ?_
          refine og_aaldI (g := 7) (i := 1) (v := ad 8 4) hx hb hC hP ow_q7_1 rfl (by unfold vp_in; decide) rfl dX3_record_122 ?_
          refine lv_aload hx hb dX3_record_123 (lv_at hl 2 rfl) ?_
          refine og_getN (C := RX2) (T := TX2) (N := 5) (g := 6) (i := 1) (v := .int (st19.1 4 1)) hx hb hts li_X3_record_X2 hown hC hP (ow_q6_1) rfl rfl 4 (by decide) ln_X3_record_0 rfl rfl dX3_record_125 ?_
          refine lv_aload_n hx hb dX3_record_128 rfl (lv_at hl 3 rfl) ?_
          refine og_get (C := RX3) (T := TX3) (N := 14) (g := 0) (i := 0) (v := .ref (ad 9 0)) hx hb hts li_X3_record_X3 hown hC hP (ow_q0_0) rfl rfl 9 (by decide) (hts _ lk_X3_record_3) rfl rfl dX3_record_129 ?_
          refine lv_iload hx hb dX3_record_132 (lv_at hl 0 rfl) ?_
          refine og_iald (g := 9) (i := 0) (j := 0) (v := (st19.1 103 0)) hx hb hC hP (ow_q9_0) rfl (by unfold vp_in; decide) rfl rfl dX3_record_134 ?_
          refine og_iast (g := 8) (i := 4) (j := ((st19.1 4 1).toNatClampNeg)) (v := (st19.1 103 0)) hx hb hC hP hS (ow_q8_4) rfl (by have h9 := sz_in hz1 c_14; subst e19; subst e18; subst e17; subst e16; subst e15; simp (disch := decide) only [ow_si_ne, pu_fr_1]; exact h9) rfl (we_8 st19 4 ((st19.1 4 1).toNatClampNeg) (st19.1 103 0)) dX3_record_135 (fun H locs hP hS => ?_)
          obtain ⟨st21, e21⟩ : ∃ z, z = (ow_si st19 118 ((st19.1 4 1).toNatClampNeg) (st19.1 103 0)) := ⟨_, rfl⟩
          rw [← e21] at hP
          refine lv_iinc (v := 1) (lv' := [(8, .int 1), (7, .int ((fX3_putTogether_1 st18).1)), (6, .ref (ad 6 1)), (0, .ref (ad 0 0)), (1, .int x1), (2, .int x2), (3, .int x3), (4, .int x4), (5, .int x5)]) hx hb dX3_record_136 hl (k := 0) rfl (by decide) (by decide) rfl (fun ls hl => ?_)
          refine lv_goto (tgt := 105) hx hb dX3_record_139 (by decide) ?_
          refine lv_iload hx hb dX3_record_105 (lv_at hl 0 rfl) ?_
          refine lv_aload hx hb dX3_record_107 (lv_at hl 2 rfl) ?_
          refine og_getN (C := RX2) (T := TX2) (N := 5) (g := 6) (i := 1) (v := .int 4) hx hb hts li_X3_record_X2 hown hC hP (ow_q6_1) rfl rfl 1 (by decide) ln_X3_record_4 rfl rfl dX3_record_109 ?_
          refine lv_icmp_ge (tgt := 142) hx hb dX3_record_112 (by decide) (fun c => absurd c (by decide)) (fun _ => ?_)
          refine lv_aload hx hb dX3_record_115 (lv_at hl 2 rfl) ?_
          refine og_getN (C := RX2) (T := TX2) (N := 5) (g := 6) (i := 1) (v := .ref (ad 7 1)) hx hb hts li_X3_record_X2 hown hC hP (ow_q6_1) rfl rfl 3 (by decide) ln_X3_record_5 rfl rfl dX3_record_117 ?_
          refine lv_iload hx hb dX3_record_120 (lv_at hl 0 rfl) ?_
          refine og_aaldI (g := 7) (i := 1) (v := ad 8 5) hx hb hC hP ow_q7_1 rfl (by unfold vp_in; decide) rfl dX3_record_122 ?_
          refine lv_aload hx hb dX3_record_123 (lv_at hl 2 rfl) ?_
          refine og_getN (C := RX2) (T := TX2) (N := 5) (g := 6) (i := 1) (v := .int (st21.1 4 1)) hx hb hts li_X3_record_X2 hown hC hP (ow_q6_1) rfl rfl 4 (by decide) ln_X3_record_0 rfl rfl dX3_record_125 ?_
          refine lv_aload_n hx hb dX3_record_128 rfl (lv_at hl 3 rfl) ?_
          refine og_get (C := RX3) (T := TX3) (N := 14) (g := 0) (i := 0) (v := .ref (ad 9 0)) hx hb hts li_X3_record_X3 hown hC hP (ow_q0_0) rfl rfl 9 (by decide) (hts _ lk_X3_record_3) rfl rfl dX3_record_129 ?_
          refine lv_iload hx hb dX3_record_132 (lv_at hl 0 rfl) ?_
          refine og_iald (g := 9) (i := 0) (j := 1) (v := (st21.1 103 1)) hx hb hC hP (ow_q9_0) rfl (by unfold vp_in; decide) rfl rfl dX3_record_134 ?_
          refine og_iast (g := 8) (i := 5) (j := ((st21.1 4 1).toNatClampNeg)) (v := (st21.1 103 1)) hx hb hC hP hS (ow_q8_5) rfl (by have h9 := sz_in hz1 c_14; subst e21; subst e19; subst e18; subst e17; subst e16; subst e15; simp (disch := decide) only [ow_si_ne, pu_fr_1]; exact h9) rfl (we_8 st21 5 ((st21.1 4 1).toNatClampNeg) (st21.1 103 1)) dX3_record_135 (fun H locs hP hS => ?_)
          obtain ⟨st22, e22⟩ : ∃ z, z = (ow_si st21 122 ((st21.1 4 1).toNatClampNeg) (st21.1 103 1)) := ⟨_, rfl⟩
          rw [← e22] at hP
          refine lv_iinc (v := 2) (lv' := [(8, .int 2), (7, .int ((fX3_putTogether_1 st18).1)), (6, .ref (ad 6 1)), (0, .ref (ad 0 0)), (1, .int x1), (2, .int x2), (3, .int x3), (4, .int x4), (5, .int x5)]) hx hb dX3_record_136 hl (k := 0) rfl (by decide) (by decide) rfl (fun ls hl => ?_)
          refine lv_goto (tgt := 105) hx hb dX3_record_139 (by decide) ?_
          refine lv_iload hx hb dX3_record_105 (lv_at hl 0 rfl) ?_
          refine lv_aload hx hb dX3_record_107 (lv_at hl 2 rfl) ?_
          refine og_getN (C := RX2) (T := TX2) (N := 5) (g := 6) (i := 1) (v := .int 4) hx hb hts li_X3_record_X2 hown hC hP (ow_q6_1) rfl rfl 1 (by decide) ln_X3_record_4 rfl rfl dX3_record_109 ?_
          refine lv_icmp_ge (tgt := 142) hx hb dX3_record_112 (by decide) (fun c => absurd c (by decide)) (fun _ => ?_)
          refine lv_aload hx hb dX3_record_115 (lv_at hl 2 rfl) ?_
          refine og_getN (C := RX2) (T := TX2) (N := 5) (g := 6) (i := 1) (v := .ref (ad 7 1)) hx hb hts li_X3_record_X2 hown hC hP (ow_q6_1) rfl rfl 3 (by decide) ln_X3_record_5 rfl rfl dX3_record_117 ?_
          refine lv_iload hx hb dX3_record_120 (lv_at hl 0 rfl) ?_
          refine og_aaldI (g := 7) (i := 1) (v := ad 8 6) hx hb hC hP ow_q7_1 rfl (by unfold vp_in; decide) rfl dX3_record_122 ?_
          refine lv_aload hx hb dX3_record_123 (lv_at hl 2 rfl) ?_
          refine og_getN (C := RX2) (T := TX2) (N := 5) (g := 6) (i := 1) (v := .int (st22.1 4 1)) hx hb hts li_X3_record_X2 hown hC hP (ow_q6_1) rfl rfl 4 (by decide) ln_X3_record_0 rfl rfl dX3_record_125 ?_
          refine lv_aload_n hx hb dX3_record_128 rfl (lv_at hl 3 rfl) ?_
          refine og_get (C := RX3) (T := TX3) (N := 14) (g := 0) (i := 0) (v := .ref (ad 9 0)) hx hb hts li_X3_record_X3 hown hC hP (ow_q0_0) rfl rfl 9 (by decide) (hts _ lk_X3_record_3) rfl rfl dX3_record_129 ?_
          refine lv_iload hx hb dX3_record_132 (lv_at hl 0 rfl) ?_
          refine og_iald (g := 9) (i := 0) (j := 2) (v := (st22.1 103 2)) hx hb hC hP (ow_q9_0) rfl (by unfold vp_in; decide) rfl rfl dX3_record_134 ?_
          refine og_iast (g := 8) (i := 6) (j := ((st22.1 4 1).toNatClampNeg)) (v := (st22.1 103 2)) hx hb hC hP hS (ow_q8_6) rfl (by have h9 := sz_in hz1 c_14; subst e22; subst e21; subst e19; subst e18; subst e17; subst e16; subst e15; simp (disch := decide) only [ow_si_ne, pu_fr_1]; exact h9) rfl (we_8 st22 6 ((st22.1 4 1).toNatClampNeg) (st22.1 103 2)) dX3_record_135 (fun H locs hP hS => ?_)
          obtain ⟨st23, e23⟩ : ∃ z, z = (ow_si st22 126 ((st22.1 4 1).toNatClampNeg) (st22.1 103 2)) := ⟨_, rfl⟩
          rw [← e23] at hP
          refine lv_iinc (v := 3) (lv' := [(8, .int 3), (7, .int ((fX3_putTogether_1 st18).1)), (6, .ref (ad 6 1)), (0, .ref (ad 0 0)), (1, .int x1), (2, .int x2), (3, .int x3), (4, .int x4), (5, .int x5)]) hx hb dX3_record_136 hl (k := 0) rfl (by decide) (by decide) rfl (fun ls hl => ?_)
          refine lv_goto (tgt := 105) hx hb dX3_record_139 (by decide) ?_
          refine lv_iload hx hb dX3_record_105 (lv_at hl 0 rfl) ?_
          refine lv_aload hx hb dX3_record_107 (lv_at hl 2 rfl) ?_
          refine og_getN (C := RX2) (T := TX2) (N := 5) (g := 6) (i := 1) (v := .int 4) hx hb hts li_X3_record_X2 hown hC hP (ow_q6_1) rfl rfl 1 (by decide) ln_X3_record_4 rfl rfl dX3_record_109 ?_
          refine lv_icmp_ge (tgt := 142) hx hb dX3_record_112 (by decide) (fun c => absurd c (by decide)) (fun _ => ?_)
          refine lv_aload hx hb dX3_record_115 (lv_at hl 2 rfl) ?_
          refine og_getN (C := RX2) (T := TX2) (N := 5) (g := 6) (i := 1) (v := .ref (ad 7 1)) hx hb hts li_X3_record_X2 hown hC hP (ow_q6_1) rfl rfl 3 (by decide) ln_X3_record_5 rfl rfl dX3_record_117 ?_
          refine lv_iload hx hb dX3_record_120 (lv_at hl 0 rfl) ?_
          refine og_aaldI (g := 7) (i := 1) (v := ad 8 7) hx hb hC hP ow_q7_1 rfl (by unfold vp_in; decide) rfl dX3_record_122 ?_
          refine lv_aload hx hb dX3_record_123 (lv_at hl 2 rfl) ?_
          refine og_getN (C := RX2) (T := TX2) (N := 5) (g := 6) (i := 1) (v := .int (st23.1 4 1)) hx hb hts li_X3_record_X2 hown hC hP (ow_q6_1) rfl rfl 4 (by decide) ln_X3_record_0 rfl rfl dX3_record_125 ?_
          refine lv_aload_n hx hb dX3_record_128 rfl (lv_at hl 3 rfl) ?_
          refine og_get (C := RX3) (T := TX3) (N := 14) (g := 0) (i := 0) (v := .ref (ad 9 0)) hx hb hts li_X3_record_X3 hown hC hP (ow_q0_0) rfl rfl 9 (by decide) (hts _ lk_X3_record_3) rfl rfl dX3_record_129 ?_
          refine lv_iload hx hb dX3_record_132 (lv_at hl 0 rfl) ?_
          refine og_iald (g := 9) (i := 0) (j := 3) (v := (st23.1 103 3)) hx hb hC hP (ow_q9_0) rfl (by unfold vp_in; decide) rfl rfl dX3_record_134 ?_
          refine og_iast (g := 8) (i := 7) (j := ((st23.1 4 1).toNatClampNeg)) (v := (st23.1 103 3)) hx hb hC hP hS (ow_q8_7) rfl (by have h9 := sz_in hz1 c_14; subst e23; subst e22; subst e21; subst e19; subst e18; subst e17; subst e16; subst e15; simp (disch := decide) only [ow_si_ne, pu_fr_1]; exact h9) rfl (we_8 st23 7 ((st23.1 4 1).toNatClampNeg) (st23.1 103 3)) dX3_record_135 (fun H locs hP hS => ?_)
          obtain ⟨st24, e24⟩ : ∃ z, z = (ow_si st23 130 ((st23.1 4 1).toNatClampNeg) (st23.1 103 3)) := ⟨_, rfl⟩
          rw [← e24] at hP
          refine lv_iinc (v := 4) (lv' := [(8, .int 4), (7, .int ((fX3_putTogether_1 st18).1)), (6, .ref (ad 6 1)), (0, .ref (ad 0 0)), (1, .int x1), (2, .int x2), (3, .int x3), (4, .int x4), (5, .int x5)]) hx hb dX3_record_136 hl (k := 0) rfl (by decide) (by decide) rfl (fun ls hl => ?_)
          refine lv_goto (tgt := 105) hx hb dX3_record_139 (by decide) ?_
          refine lv_iload hx hb dX3_record_105 (lv_at hl 0 rfl) ?_
          refine lv_aload hx hb dX3_record_107 (lv_at hl 2 rfl) ?_
          refine og_getN (C := RX2) (T := TX2) (N := 5) (g := 6) (i := 1) (v := .int 4) hx hb hts li_X3_record_X2 hown hC hP (ow_q6_1) rfl rfl 1 (by decide) ln_X3_record_4 rfl rfl dX3_record_109 ?_
          refine lv_icmp_ge (tgt := 142) hx hb dX3_record_112 (by decide) (fun _ => ?_) (fun c => absurd (by decide) c)
          refine lv_aload hx hb dX3_record_142 (lv_at hl 2 rfl) ?_
          refine lv_dup hx hb dX3_record_144 rfl ?_
          refine og_getN (C := RX2) (T := TX2) (N := 5) (g := 6) (i := 1) (v := .int (st24.1 4 1)) hx hb hts li_X3_record_X2 hown hC hP (ow_q6_1) rfl rfl 4 (by decide) ln_X3_record_0 rfl rfl dX3_record_145 ?_
          refine lv_iconst (v := 1) hx hb dX3_record_148 (by decide) ?_
          refine lv_iadd hx hb dX3_record_149 ?_
          refine og_putN (C := RX2) (T := TX2) (N := 5) (g := 6) (i := 1) (v := .int ((st24.1 4 1) + 1)) (ty := .int) hx hb hts li_X3_record_X2 tyX2 tyX2_ok nmX2 hown hC hP hS (ow_q6_1) rfl rfl 4 (by decide) ln_X3_record_0 rfl rfl (by decide +kernel) rfl rfl (Nat.le_of_ble_eq_true rfl) (we_6 st24 1 ((st24.1 4 1) + 1)) dX3_record_150 (fun H locs hP hS => ?_)
          obtain ⟨st25, e25⟩ : ∃ z, z = (ow_si st24 4 1 ((st24.1 4 1) + 1)) := ⟨_, rfl⟩
          rw [← e25] at hP
          refine lv_aload hx hb dX3_record_153 (lv_at hl 2 rfl) ?_
          refine og_getN (C := RX2) (T := TX2) (N := 5) (g := 6) (i := 1) (v := .int (st25.1 4 1)) hx hb hts li_X3_record_X2 hown hC hP (ow_q6_1) rfl rfl 4 (by decide) ln_X3_record_0 rfl rfl dX3_record_155 ?_
          refine lv_iconst (v := 1) hx hb dX3_record_158 (by decide) ?_
          refine lv_isub hx hb dX3_record_159 ?_
          exact W.iret (v := ((st25.1 4 1) - 1)) hx hb hr (fun t ht hW => ⟨⟨((st25.1 4 1) - 1), st25, rfl, (by subst e25; subst e24; subst e23; subst e22; subst e21; subst e19; subst e18; subst e17; subst e16; subst e15; simp only [fX3_record, if_neg c_1, if_pos c_13, if_pos c_14, if_pos c_20]), ow_Bi ht hP⟩, hS.F ht⟩) hS.2.2 dX3_record_160
        · refine lv_iload hx hb dX3_record_99 (lv_at hl 0 rfl) ?_
          exact W.iret (v := (fX3_putTogether_1 st18).1) hx hb hr (fun t ht hW => ⟨⟨(fX3_putTogether_1 st18).1, st19, rfl, (by subst e19; subst e18; subst e17; subst e16; subst e15; simp only [fX3_record, if_neg c_1, if_pos c_13, if_pos c_14, if_neg c_20]), ow_Bi ht hP⟩, hS.F ht⟩) hS.2.2 dX3_record_101
      · refine lv_bipush (v := (-2)) hx hb dX3_record_24 (by decide) ?_
        exact W.iret (v := (-2)) hx hb hr (fun t ht hW => ⟨⟨(-2), st, rfl, (by simp only [fX3_record, if_neg c_1, if_pos c_13, if_neg c_14]), ow_Bi ht hP⟩, hS.F ht⟩) hS.2.2 dX3_record_26
    · refine og_cqN (og_runV (C := RX3) (T := TX3) (N := 14) (g := 0) (i := 0) (As := [.int x1]) (rest := []) ⟨hx, hb, hml, hown, hts⟩ (kX3_tableNumbered l D ca ad A st x1) (cwV 1 hts gX3_record_X3_tableNumbered rfl rfl rfl (by decide +kernel) ⟨Nat.le_of_ble_eq_true rfl, Nat.le_of_ble_eq_true rfl⟩) hC hP hS (ow_q0_0) rfl rfl rfl hl.1 rfl (Nat.le_of_ble_eq_true rfl) dX3_record_2 ⟨Nat.zero_le _, Nat.zero_le _⟩) hS (by simp only [fX3_tableNumbered, if_neg c_1, if_neg c_13]) (fun H locs hP hS => ?_)
      refine lv_astoreN (lv' := [(6, .null), (0, .ref (ad 0 0)), (1, .int x1), (2, .int x2), (3, .int x3), (4, .int x4), (5, .int x5)]) hx hb dX3_record_5 hl (by decide) rfl (fun ls hl => ?_)
      refine lv_aloadN hx hb dX3_record_7 (lv_at hl 0 rfl) ?_
      refine lv_ifnonnullN hx hb dX3_record_9 ?_
      refine lv_iconst (v := (-1)) hx hb dX3_record_12 (by decide) ?_
      exact W.iret (v := (-1)) hx hb hr (fun t ht hW => ⟨⟨(-1), st, rfl, (by simp only [fX3_record, if_neg c_1, if_neg c_13]), ow_Bi ht hP⟩, hS.F ht⟩) hS.2.2 dX3_record_13

theorem ln_X3_lay_0 : (.methodLinkNest RX3 180 yX2_hasRecord "RecordLabels" : Cond) ∈ ow_nest := by decide +kernel
theorem lk_X3_lay_1 : (.initialized RX2 : Cond) ∈ wsX3_lay := by decide +kernel
theorem lk_X3_lay_2 : (.instanceMethod yX2_hasRecord : Cond) ∈ wsX3_lay := by decide +kernel
theorem lk_X3_lay_3 : (.selects RX2 yX2_hasRecord yX2_hasRecord : Cond) ∈ wsX3_lay := by decide +kernel
theorem ln_X3_lay_4 : (.methodLinkNest RX3 183 yX2_hasItem "RecordLabels" : Cond) ∈ ow_nest := by decide +kernel
theorem lk_X3_lay_5 : (.instanceMethod yX2_hasItem : Cond) ∈ wsX3_lay := by decide +kernel
theorem lk_X3_lay_6 : (.selects RX2 yX2_hasItem yX2_hasItem : Cond) ∈ wsX3_lay := by decide +kernel
theorem ln_X3_lay_7 : (.fieldLinkNest RX3 176 "RecordLabels$Table" "columns" "[[I" "RecordLabels" : Cond) ∈ ow_nest := by decide +kernel
theorem li_X3_lay_X2 : ∀ w ∈ u_ws RX2 TX2 5, w ∈ wsX3_lay := by decide +kernel
def fX3_lay (st : ow_St) (x1 x2 x3 x4 : Int32) : Int32 × ow_St := (if x1 = 0 then (if (fX2_hasRecord_0 st x2) = 0 then ((-1), st) else (if (fX2_hasItem_0 st x3) = 0 then ((-1), st) else (let st4 := (ow_si st (102 + 4 * (4 * 0 + x3.toNatClampNeg)) x2.toNatClampNeg (fX3_toCell_0 st x3 x4)); (1, st4)))) else (if x1 = 1 then (if (fX2_hasRecord_1 st x2) = 0 then ((-1), st) else (if (fX2_hasItem_1 st x3) = 0 then ((-1), st) else (let st8 := (ow_si st (102 + 4 * (4 * 1 + x3.toNatClampNeg)) x2.toNatClampNeg (fX3_toCell_1 st x3 x4)); (1, st8)))) else ((-1), st)))
set_option maxHeartbeats 4000000 in
set_option maxRecDepth 100000 in
theorem kX3_lay (l : Launch) (D : va_G) (ca : Nat → ClassId) (ad : ow_Ad) (A : Nat → Prop) (st : ow_St) (x1 : Int32) (x2 : Int32) (x3 : Int32) (x4 : Int32) (hz0 : iv_sz st 0) (hz1 : iv_sz st 1) : Met l yX3_lay wsX3_lay ({ frames := 3, cells := 0, slots := 0, locals := 66 }) (va_Pc [.ref (ad 0 0), .int x1, .int x2, .int x3, .int x4] (ow_W D ca ad A st)) (va_Qi (fun r st' => (r, st') = (fX3_lay st x1 x2 x3 x4)) (ow_B D ca ad) A) 0 0 A := by
  refine Met.ofW (cc := cX3_lay) (maxL := 6) (ret := (some .int)) (by decide) rfl ?_
  intro p e s m args below meth c s₁ B hml hv
  obtain ⟨rfl, hP, hC⟩ := hv
  have hx := B.exec
  have hb := B.bytes
  have hr := B.returns
  have hts := atoms_spec (ws := wsX3_lay) B.pre
  have hown : s.vm.findClass RX3 = some m.cls := findClass_of_methodNamed B.named
  have hlocks := B.notSynchronized
  have hS : va_S A s.heap s.heap [] := va_S.rf
  have hl := lv_entry ([.ref (ad 0 0), .int x1, .int x2, .int x3, .int x4]) (n := 6) (Nat.le_of_ble_eq_true rfl)
  rw [lg_entry_eq]
  generalize (lg_sl ([.ref (ad 0 0), .int x1, .int x2, .int x3, .int x4]) ++ List.replicate (6 - (lg_sl ([.ref (ad 0 0), .int x1, .int x2, .int x3, .int x4])).length) Slot.unset).toArray = ls at hl ⊢
  have hl : lv_has ls 6 [(0, .ref (ad 0 0)), (1, .int x1), (2, .int x2), (3, .int x3), (4, .int x4)] := hl
  refine lv_aload_n hx hb dX3_lay_0 rfl (lv_at hl 0 rfl) ?_
  refine lv_iload_n hx hb dX3_lay_1 rfl (lv_at hl 1 rfl) ?_
  by_cases c_1 : x1 = 0
  · refine og_cqS (q := ad 6 0) (og_runV (C := RX3) (T := TX3) (N := 14) (g := 0) (i := 0) (As := [.int x1]) (rest := []) ⟨hx, hb, hml, hown, hts⟩ (kX3_tableNumbered l D ca ad A st x1) (cwV 1 hts gX3_lay_X3_tableNumbered rfl rfl rfl (by decide +kernel) ⟨Nat.le_of_ble_eq_true rfl, Nat.le_of_ble_eq_true rfl⟩) hC hP hS (ow_q0_0) rfl rfl rfl hl.1 rfl (Nat.le_of_ble_eq_true rfl) dX3_lay_2 ⟨Nat.zero_le _, Nat.zero_le _⟩) hS (by simp only [fX3_tableNumbered, if_pos c_1]) (fun H locs hP hS => ?_)
    refine lv_astore (lv' := [(5, .ref (ad 6 0)), (0, .ref (ad 0 0)), (1, .int x1), (2, .int x2), (3, .int x3), (4, .int x4)]) hx hb dX3_lay_5 hl (by decide) rfl (fun ls hl => ?_)
    refine lv_aload hx hb dX3_lay_7 (lv_at hl 0 rfl) ?_
    refine lv_ifnull hx hb dX3_lay_9 ?_
    refine lv_aload hx hb dX3_lay_12 (lv_at hl 0 rfl) ?_
    refine lv_iload_n hx hb dX3_lay_14 rfl (lv_at hl 3 rfl) ?_
    refine og_ciP (og_runVN (C := RX2) (T := TX2) (N := 5) (g := 6) (i := 0) (As := [.int x2]) (rest := []) ⟨hx, hb, hml, hown, hts⟩ (kX2_hasRecord_0 l D ca ad A st x2) ⟨va_cnB 1 hts gX3_lay_X2_hasRecord_n180 rfl rfl rfl (hC.2.2.1 _ ln_X3_lay_0) (hts _ lk_X3_lay_1) (by decide +kernel) ⟨Nat.le_of_ble_eq_true rfl, Nat.le_of_ble_eq_true rfl⟩, (hts _ lk_X3_lay_2), (hts _ lk_X3_lay_3)⟩ hC hP hS (ow_q6_0) rfl rfl rfl hl.1 rfl (Nat.le_of_ble_eq_true rfl) dX3_lay_15 ⟨Nat.zero_le _, Nat.zero_le _⟩) hS (fun H locs hP hS => ?_)
    refine lv_if_eq (tgt := 30) hx hb dX3_lay_18 (by decide) (fun c_2 => ?_) (fun c_2 => ?_)
    · refine lv_iconst (v := (-1)) hx hb dX3_lay_30 (by decide) ?_
      exact W.iret (v := (-1)) hx hb hr (fun t ht hW => ⟨⟨(-1), st, rfl, (by simp only [fX3_lay, if_pos c_1, if_pos c_2]), ow_Bi ht hP⟩, hS.F ht⟩) hS.2.2 dX3_lay_31
    · refine lv_aload hx hb dX3_lay_21 (lv_at hl 0 rfl) ?_
      refine lv_iload_n hx hb dX3_lay_23 rfl (lv_at hl 4 rfl) ?_
      refine og_ciP (og_runVN (C := RX2) (T := TX2) (N := 5) (g := 6) (i := 0) (As := [.int x3]) (rest := []) ⟨hx, hb, hml, hown, hts⟩ (kX2_hasItem_0 l D ca ad A st x3) ⟨va_cnB 1 hts gX3_lay_X2_hasItem_n183 rfl rfl rfl (hC.2.2.1 _ ln_X3_lay_4) (hts _ lk_X3_lay_1) (by decide +kernel) ⟨Nat.le_of_ble_eq_true rfl, Nat.le_of_ble_eq_true rfl⟩, (hts _ lk_X3_lay_5), (hts _ lk_X3_lay_6)⟩ hC hP hS (ow_q6_0) rfl rfl rfl hl.1 rfl (Nat.le_of_ble_eq_true rfl) dX3_lay_24 ⟨Nat.zero_le _, Nat.zero_le _⟩) hS (fun H locs hP hS => ?_)
      refine lv_if_ne (tgt := 32) hx hb dX3_lay_27 (by decide) (fun c_3 => ?_) (fun c_3 => ?_)
      · refine lv_aload hx hb dX3_lay_32 (lv_at hl 0 rfl) ?_
        refine og_getN (C := RX2) (T := TX2) (N := 5) (g := 6) (i := 0) (v := .ref (ad 7 0)) hx hb hts li_X3_lay_X2 hown hC hP (ow_q6_0) rfl rfl 3 (by decide) ln_X3_lay_7 rfl rfl dX3_lay_34 ?_
        refine lv_iload_n hx hb dX3_lay_37 rfl (lv_at hl 4 rfl) ?_
        refine og_aaldI (g := 7) (i := 0) (v := ad 8 (4 * 0 + x3.toNatClampNeg)) hx hb hC hP ow_q7_0 rfl (itm_in_0 c_3) (if_pos (vp_lt (itm_in_0 c_3))) dX3_lay_38 ?_
        refine lv_iload_n hx hb dX3_lay_39 rfl (lv_at hl 3 rfl) ?_
        refine lv_aload_n hx hb dX3_lay_40 rfl (lv_at hl 1 rfl) ?_
        refine lv_aload hx hb dX3_lay_41 (lv_at hl 0 rfl) ?_
        refine lv_iload_n hx hb dX3_lay_43 rfl (lv_at hl 4 rfl) ?_
        refine lv_iload hx hb dX3_lay_44 (lv_at hl 5 rfl) ?_
        refine og_ciP (og_runV (C := RX3) (T := TX3) (N := 14) (g := 0) (i := 0) (As := [.ref (ad 6 0), .int x3, .int x4]) (rest := [.int x2, .ref (ad 8 (4 * 0 + x3.toNatClampNeg))]) ⟨hx, hb, hml, hown, hts⟩ (kX3_toCell_0 l D ca ad A st x3 x4) (cwV 3 hts gX3_lay_X3_toCell rfl rfl rfl (by decide +kernel) ⟨Nat.le_of_ble_eq_true rfl, Nat.le_of_ble_eq_true rfl⟩) hC hP hS (ow_q0_0) rfl rfl rfl hl.1 rfl (Nat.le_of_ble_eq_true rfl) dX3_lay_46 ⟨Nat.zero_le _, Nat.zero_le _⟩) hS (fun H locs hP hS => ?_)
        refine og_iast (g := 8) (i := (4 * 0 + x3.toNatClampNeg)) (j := x2.toNatClampNeg) (v := (fX3_toCell_0 st x3 x4)) hx hb hC hP hS (ow_m8 (itm_b8_0 c_3)) rfl (rec_in_0 hz0 c_2) rfl (we_8 st (4 * 0 + x3.toNatClampNeg) x2.toNatClampNeg (fX3_toCell_0 st x3 x4)) dX3_lay_49 (fun H locs hP hS => ?_)
        obtain ⟨st4, e4⟩ : ∃ z, z = (ow_si st (102 + 4 * (4 * 0 + x3.toNatClampNeg)) x2.toNatClampNeg (fX3_toCell_0 st x3 x4)) := ⟨_, rfl⟩
        rw [← e4] at hP
        refine lv_iconst (v := 1) hx hb dX3_lay_50 (by decide) ?_
        exact W.iret (v := 1) hx hb hr (fun t ht hW => ⟨⟨1, st4, rfl, (by subst e4; simp only [fX3_lay, if_pos c_1, if_neg c_2, if_neg c_3]), ow_Bi ht hP⟩, hS.F ht⟩) hS.2.2 dX3_lay_51
      · refine lv_iconst (v := (-1)) hx hb dX3_lay_30 (by decide) ?_
        exact W.iret (v := (-1)) hx hb hr (fun t ht hW => ⟨⟨(-1), st, rfl, (by simp only [fX3_lay, if_pos c_1, if_neg c_2, if_pos c_3]), ow_Bi ht hP⟩, hS.F ht⟩) hS.2.2 dX3_lay_31
  · by_cases c_5 : x1 = 1
    · refine og_cqS (q := ad 6 1) (og_runV (C := RX3) (T := TX3) (N := 14) (g := 0) (i := 0) (As := [.int x1]) (rest := []) ⟨hx, hb, hml, hown, hts⟩ (kX3_tableNumbered l D ca ad A st x1) (cwV 1 hts gX3_lay_X3_tableNumbered rfl rfl rfl (by decide +kernel) ⟨Nat.le_of_ble_eq_true rfl, Nat.le_of_ble_eq_true rfl⟩) hC hP hS (ow_q0_0) rfl rfl rfl hl.1 rfl (Nat.le_of_ble_eq_true rfl) dX3_lay_2 ⟨Nat.zero_le _, Nat.zero_le _⟩) hS (by simp only [fX3_tableNumbered, if_neg c_1, if_pos c_5]) (fun H locs hP hS => ?_)
      refine lv_astore (lv' := [(5, .ref (ad 6 1)), (0, .ref (ad 0 0)), (1, .int x1), (2, .int x2), (3, .int x3), (4, .int x4)]) hx hb dX3_lay_5 hl (by decide) rfl (fun ls hl => ?_)
      refine lv_aload hx hb dX3_lay_7 (lv_at hl 0 rfl) ?_
      refine lv_ifnull hx hb dX3_lay_9 ?_
      refine lv_aload hx hb dX3_lay_12 (lv_at hl 0 rfl) ?_
      refine lv_iload_n hx hb dX3_lay_14 rfl (lv_at hl 3 rfl) ?_
      refine og_ciP (og_runVN (C := RX2) (T := TX2) (N := 5) (g := 6) (i := 1) (As := [.int x2]) (rest := []) ⟨hx, hb, hml, hown, hts⟩ (kX2_hasRecord_1 l D ca ad A st x2) ⟨va_cnB 1 hts gX3_lay_X2_hasRecord_n180 rfl rfl rfl (hC.2.2.1 _ ln_X3_lay_0) (hts _ lk_X3_lay_1) (by decide +kernel) ⟨Nat.le_of_ble_eq_true rfl, Nat.le_of_ble_eq_true rfl⟩, (hts _ lk_X3_lay_2), (hts _ lk_X3_lay_3)⟩ hC hP hS (ow_q6_1) rfl rfl rfl hl.1 rfl (Nat.le_of_ble_eq_true rfl) dX3_lay_15 ⟨Nat.zero_le _, Nat.zero_le _⟩) hS (fun H locs hP hS => ?_)
      refine lv_if_eq (tgt := 30) hx hb dX3_lay_18 (by decide) (fun c_6 => ?_) (fun c_6 => ?_)
      · refine lv_iconst (v := (-1)) hx hb dX3_lay_30 (by decide) ?_
        exact W.iret (v := (-1)) hx hb hr (fun t ht hW => ⟨⟨(-1), st, rfl, (by simp only [fX3_lay, if_neg c_1, if_pos c_5, if_pos c_6]), ow_Bi ht hP⟩, hS.F ht⟩) hS.2.2 dX3_lay_31
      · refine lv_aload hx hb dX3_lay_21 (lv_at hl 0 rfl) ?_
        refine lv_iload_n hx hb dX3_lay_23 rfl (lv_at hl 4 rfl) ?_
        refine og_ciP (og_runVN (C := RX2) (T := TX2) (N := 5) (g := 6) (i := 1) (As := [.int x3]) (rest := []) ⟨hx, hb, hml, hown, hts⟩ (kX2_hasItem_1 l D ca ad A st x3) ⟨va_cnB 1 hts gX3_lay_X2_hasItem_n183 rfl rfl rfl (hC.2.2.1 _ ln_X3_lay_4) (hts _ lk_X3_lay_1) (by decide +kernel) ⟨Nat.le_of_ble_eq_true rfl, Nat.le_of_ble_eq_true rfl⟩, (hts _ lk_X3_lay_5), (hts _ lk_X3_lay_6)⟩ hC hP hS (ow_q6_1) rfl rfl rfl hl.1 rfl (Nat.le_of_ble_eq_true rfl) dX3_lay_24 ⟨Nat.zero_le _, Nat.zero_le _⟩) hS (fun H locs hP hS => ?_)
        refine lv_if_ne (tgt := 32) hx hb dX3_lay_27 (by decide) (fun c_7 => ?_) (fun c_7 => ?_)
        · refine lv_aload hx hb dX3_lay_32 (lv_at hl 0 rfl) ?_
          refine og_getN (C := RX2) (T := TX2) (N := 5) (g := 6) (i := 1) (v := .ref (ad 7 1)) hx hb hts li_X3_lay_X2 hown hC hP (ow_q6_1) rfl rfl 3 (by decide) ln_X3_lay_7 rfl rfl dX3_lay_34 ?_
          refine lv_iload_n hx hb dX3_lay_37 rfl (lv_at hl 4 rfl) ?_
          refine og_aaldI (g := 7) (i := 1) (v := ad 8 (4 * 1 + x3.toNatClampNeg)) hx hb hC hP ow_q7_1 rfl (itm_in_1 c_7) (if_pos (vp_lt (itm_in_1 c_7))) dX3_lay_38 ?_
          refine lv_iload_n hx hb dX3_lay_39 rfl (lv_at hl 3 rfl) ?_
          refine lv_aload_n hx hb dX3_lay_40 rfl (lv_at hl 1 rfl) ?_
          refine lv_aload hx hb dX3_lay_41 (lv_at hl 0 rfl) ?_
          refine lv_iload_n hx hb dX3_lay_43 rfl (lv_at hl 4 rfl) ?_
          refine lv_iload hx hb dX3_lay_44 (lv_at hl 5 rfl) ?_
          refine og_ciP (og_runV (C := RX3) (T := TX3) (N := 14) (g := 0) (i := 0) (As := [.ref (ad 6 1), .int x3, .int x4]) (rest := [.int x2, .ref (ad 8 (4 * 1 + x3.toNatClampNeg))]) ⟨hx, hb, hml, hown, hts⟩ (kX3_toCell_1 l D ca ad A st x3 x4) (cwV 3 hts gX3_lay_X3_toCell rfl rfl rfl (by decide +kernel) ⟨Nat.le_of_ble_eq_true rfl, Nat.le_of_ble_eq_true rfl⟩) hC hP hS (ow_q0_0) rfl rfl rfl hl.1 rfl (Nat.le_of_ble_eq_true rfl) dX3_lay_46 ⟨Nat.zero_le _, Nat.zero_le _⟩) hS (fun H locs hP hS => ?_)
          refine og_iast (g := 8) (i := (4 * 1 + x3.toNatClampNeg)) (j := x2.toNatClampNeg) (v := (fX3_toCell_1 st x3 x4)) hx hb hC hP hS (ow_m8 (itm_b8_1 c_7)) rfl (rec_in_1 hz1 c_6) rfl (we_8 st (4 * 1 + x3.toNatClampNeg) x2.toNatClampNeg (fX3_toCell_1 st x3 x4)) dX3_lay_49 (fun H locs hP hS => ?_)
          obtain ⟨st8, e8⟩ : ∃ z, z = (ow_si st (102 + 4 * (4 * 1 + x3.toNatClampNeg)) x2.toNatClampNeg (fX3_toCell_1 st x3 x4)) := ⟨_, rfl⟩
          rw [← e8] at hP
          refine lv_iconst (v := 1) hx hb dX3_lay_50 (by decide) ?_
          exact W.iret (v := 1) hx hb hr (fun t ht hW => ⟨⟨1, st8, rfl, (by subst e8; simp only [fX3_lay, if_neg c_1, if_pos c_5, if_neg c_6, if_neg c_7]), ow_Bi ht hP⟩, hS.F ht⟩) hS.2.2 dX3_lay_51
        · refine lv_iconst (v := (-1)) hx hb dX3_lay_30 (by decide) ?_
          exact W.iret (v := (-1)) hx hb hr (fun t ht hW => ⟨⟨(-1), st, rfl, (by simp only [fX3_lay, if_neg c_1, if_pos c_5, if_neg c_6, if_pos c_7]), ow_Bi ht hP⟩, hS.F ht⟩) hS.2.2 dX3_lay_31
    · refine og_cqN (og_runV (C := RX3) (T := TX3) (N := 14) (g := 0) (i := 0) (As := [.int x1]) (rest := []) ⟨hx, hb, hml, hown, hts⟩ (kX3_tableNumbered l D ca ad A st x1) (cwV 1 hts gX3_lay_X3_tableNumbered rfl rfl rfl (by decide +kernel) ⟨Nat.le_of_ble_eq_true rfl, Nat.le_of_ble_eq_true rfl⟩) hC hP hS (ow_q0_0) rfl rfl rfl hl.1 rfl (Nat.le_of_ble_eq_true rfl) dX3_lay_2 ⟨Nat.zero_le _, Nat.zero_le _⟩) hS (by simp only [fX3_tableNumbered, if_neg c_1, if_neg c_5]) (fun H locs hP hS => ?_)
      refine lv_astoreN (lv' := [(5, .null), (0, .ref (ad 0 0)), (1, .int x1), (2, .int x2), (3, .int x3), (4, .int x4)]) hx hb dX3_lay_5 hl (by decide) rfl (fun ls hl => ?_)
      refine lv_aloadN hx hb dX3_lay_7 (lv_at hl 0 rfl) ?_
      refine lv_ifnullN (tgt := 30) hx hb dX3_lay_9 (by decide) ?_
      refine lv_iconst (v := (-1)) hx hb dX3_lay_30 (by decide) ?_
      exact W.iret (v := (-1)) hx hb hr (fun t ht hW => ⟨⟨(-1), st, rfl, (by simp only [fX3_lay, if_neg c_1, if_neg c_5]), ow_Bi ht hP⟩, hS.F ht⟩) hS.2.2 dX3_lay_31

theorem ln_X3_cell_0 : (.methodLinkNest RX3 180 yX2_hasRecord "RecordLabels" : Cond) ∈ ow_nest := by decide +kernel
theorem lk_X3_cell_1 : (.initialized RX2 : Cond) ∈ wsX3_cell := by decide +kernel
theorem lk_X3_cell_2 : (.instanceMethod yX2_hasRecord : Cond) ∈ wsX3_cell := by decide +kernel
theorem lk_X3_cell_3 : (.selects RX2 yX2_hasRecord yX2_hasRecord : Cond) ∈ wsX3_cell := by decide +kernel
theorem lk_X3_cell_4 : (.constant RX3 186 (-2000000000) : Cond) ∈ wsX3_cell := by decide +kernel
theorem ln_X3_cell_5 : (.methodLinkNest RX3 183 yX2_hasItem "RecordLabels" : Cond) ∈ ow_nest := by decide +kernel
theorem lk_X3_cell_6 : (.instanceMethod yX2_hasItem : Cond) ∈ wsX3_cell := by decide +kernel
theorem lk_X3_cell_7 : (.selects RX2 yX2_hasItem yX2_hasItem : Cond) ∈ wsX3_cell := by decide +kernel
theorem ln_X3_cell_8 : (.fieldLinkNest RX3 176 "RecordLabels$Table" "columns" "[[I" "RecordLabels" : Cond) ∈ ow_nest := by decide +kernel
theorem li_X3_cell_X2 : ∀ w ∈ u_ws RX2 TX2 5, w ∈ wsX3_cell := by decide +kernel
def fX3_cell (st : ow_St) (x1 x2 x3 : Int32) : Int32 := (if x1 = 0 then (if (fX2_hasRecord_0 st x2) = 0 then (-2000000000) else (if (fX2_hasItem_0 st x3) = 0 then (-2000000000) else (fX3_fromCell_0 st x3 (st.1 (102 + 4 * (4 * 0 + x3.toNatClampNeg)) x2.toNatClampNeg)))) else (if x1 = 1 then (if (fX2_hasRecord_1 st x2) = 0 then (-2000000000) else (if (fX2_hasItem_1 st x3) = 0 then (-2000000000) else (fX3_fromCell_1 st x3 (st.1 (102 + 4 * (4 * 1 + x3.toNatClampNeg)) x2.toNatClampNeg)))) else (-2000000000)))
set_option maxHeartbeats 4000000 in
set_option maxRecDepth 100000 in
theorem kX3_cell (l : Launch) (D : va_G) (ca : Nat → ClassId) (ad : ow_Ad) (A : Nat → Prop) (st : ow_St) (x1 : Int32) (x2 : Int32) (x3 : Int32) (hz0 : iv_sz st 0) (hz1 : iv_sz st 1) : Met l yX3_cell wsX3_cell ({ frames := 3, cells := 0, slots := 0, locals := 66 }) (va_Pc [.ref (ad 0 0), .int x1, .int x2, .int x3] (ow_W D ca ad A st)) (va_Qi (fun r st' => r = (fX3_cell st x1 x2 x3) ∧ st' = st) (ow_B D ca ad) A) 0 0 A := by
  refine Met.ofW (cc := cX3_cell) (maxL := 5) (ret := (some .int)) (by decide) rfl ?_
  intro p e s m args below meth c s₁ B hml hv
  obtain ⟨rfl, hP, hC⟩ := hv
  have hx := B.exec
  have hb := B.bytes
  have hr := B.returns
  have hts := atoms_spec (ws := wsX3_cell) B.pre
  have hown : s.vm.findClass RX3 = some m.cls := findClass_of_methodNamed B.named
  have hlocks := B.notSynchronized
  have hS : va_S A s.heap s.heap [] := va_S.rf
  have hl := lv_entry ([.ref (ad 0 0), .int x1, .int x2, .int x3]) (n := 5) (Nat.le_of_ble_eq_true rfl)
  rw [lg_entry_eq]
  generalize (lg_sl ([.ref (ad 0 0), .int x1, .int x2, .int x3]) ++ List.replicate (5 - (lg_sl ([.ref (ad 0 0), .int x1, .int x2, .int x3])).length) Slot.unset).toArray = ls at hl ⊢
  have hl : lv_has ls 5 [(0, .ref (ad 0 0)), (1, .int x1), (2, .int x2), (3, .int x3)] := hl
  refine lv_aload_n hx hb dX3_cell_0 rfl (lv_at hl 0 rfl) ?_
  refine lv_iload_n hx hb dX3_cell_1 rfl (lv_at hl 1 rfl) ?_
  by_cases c_1 : x1 = 0
  · refine og_cqS (q := ad 6 0) (og_runV (C := RX3) (T := TX3) (N := 14) (g := 0) (i := 0) (As := [.int x1]) (rest := []) ⟨hx, hb, hml, hown, hts⟩ (kX3_tableNumbered l D ca ad A st x1) (cwV 1 hts gX3_cell_X3_tableNumbered rfl rfl rfl (by decide +kernel) ⟨Nat.le_of_ble_eq_true rfl, Nat.le_of_ble_eq_true rfl⟩) hC hP hS (ow_q0_0) rfl rfl rfl hl.1 rfl (Nat.le_of_ble_eq_true rfl) dX3_cell_2 ⟨Nat.zero_le _, Nat.zero_le _⟩) hS (by simp only [fX3_tableNumbered, if_pos c_1]) (fun H locs hP hS => ?_)
    refine lv_astore (lv' := [(4, .ref (ad 6 0)), (0, .ref (ad 0 0)), (1, .int x1), (2, .int x2), (3, .int x3)]) hx hb dX3_cell_5 hl (by decide) rfl (fun ls hl => ?_)
    refine lv_aload hx hb dX3_cell_7 (lv_at hl 0 rfl) ?_
    refine lv_ifnull hx hb dX3_cell_9 ?_
    refine lv_aload hx hb dX3_cell_12 (lv_at hl 0 rfl) ?_
    refine lv_iload_n hx hb dX3_cell_14 rfl (lv_at hl 3 rfl) ?_
    refine og_ciP (og_runVN (C := RX2) (T := TX2) (N := 5) (g := 6) (i := 0) (As := [.int x2]) (rest := []) ⟨hx, hb, hml, hown, hts⟩ (kX2_hasRecord_0 l D ca ad A st x2) ⟨va_cnB 1 hts gX3_cell_X2_hasRecord_n180 rfl rfl rfl (hC.2.2.1 _ ln_X3_cell_0) (hts _ lk_X3_cell_1) (by decide +kernel) ⟨Nat.le_of_ble_eq_true rfl, Nat.le_of_ble_eq_true rfl⟩, (hts _ lk_X3_cell_2), (hts _ lk_X3_cell_3)⟩ hC hP hS (ow_q6_0) rfl rfl rfl hl.1 rfl (Nat.le_of_ble_eq_true rfl) dX3_cell_15 ⟨Nat.zero_le _, Nat.zero_le _⟩) hS (fun H locs hP hS => ?_)
    refine lv_if_eq (tgt := 30) hx hb dX3_cell_18 (by decide) (fun c_2 => ?_) (fun c_2 => ?_)
    · refine lv_ldc (v := (-2000000000)) hx hb hown (hts _ lk_X3_cell_4) dX3_cell_30 ?_
      exact W.iret (v := (-2000000000)) hx hb hr (fun t ht hW => ⟨⟨(-2000000000), st, rfl, ⟨(by simp only [fX3_cell, if_pos c_1, if_pos c_2]), rfl⟩, ow_Bi ht hP⟩, hS.F ht⟩) hS.2.2 dX3_cell_32
    · refine lv_aload hx hb dX3_cell_21 (lv_at hl 0 rfl) ?_
      refine lv_iload_n hx hb dX3_cell_23 rfl (lv_at hl 4 rfl) ?_
      refine og_ciP (og_runVN (C := RX2) (T := TX2) (N := 5) (g := 6) (i := 0) (As := [.int x3]) (rest := []) ⟨hx, hb, hml, hown, hts⟩ (kX2_hasItem_0 l D ca ad A st x3) ⟨va_cnB 1 hts gX3_cell_X2_hasItem_n183 rfl rfl rfl (hC.2.2.1 _ ln_X3_cell_5) (hts _ lk_X3_cell_1) (by decide +kernel) ⟨Nat.le_of_ble_eq_true rfl, Nat.le_of_ble_eq_true rfl⟩, (hts _ lk_X3_cell_6), (hts _ lk_X3_cell_7)⟩ hC hP hS (ow_q6_0) rfl rfl rfl hl.1 rfl (Nat.le_of_ble_eq_true rfl) dX3_cell_24 ⟨Nat.zero_le _, Nat.zero_le _⟩) hS (fun H locs hP hS => ?_)
      refine lv_if_ne (tgt := 33) hx hb dX3_cell_27 (by decide) (fun c_3 => ?_) (fun c_3 => ?_)
      · refine lv_aload_n hx hb dX3_cell_33 rfl (lv_at hl 1 rfl) ?_
        refine lv_aload hx hb dX3_cell_34 (lv_at hl 0 rfl) ?_
        refine lv_iload_n hx hb dX3_cell_36 rfl (lv_at hl 4 rfl) ?_
        refine lv_aload hx hb dX3_cell_37 (lv_at hl 0 rfl) ?_
        refine og_getN (C := RX2) (T := TX2) (N := 5) (g := 6) (i := 0) (v := .ref (ad 7 0)) hx hb hts li_X3_cell_X2 hown hC hP (ow_q6_0) rfl rfl 3 (by decide) ln_X3_cell_8 rfl rfl dX3_cell_39 ?_
        refine lv_iload_n hx hb dX3_cell_42 rfl (lv_at hl 4 rfl) ?_
        refine og_aaldI (g := 7) (i := 0) (v := ad 8 (4 * 0 + x3.toNatClampNeg)) hx hb hC hP ow_q7_0 rfl (itm_in_0 c_3) (if_pos (vp_lt (itm_in_0 c_3))) dX3_cell_43 ?_
        refine lv_iload_n hx hb dX3_cell_44 rfl (lv_at hl 3 rfl) ?_
        refine og_iald (g := 8) (i := (4 * 0 + x3.toNatClampNeg)) (j := x2.toNatClampNeg) (v := (st.1 (102 + 4 * (4 * 0 + x3.toNatClampNeg)) x2.toNatClampNeg)) hx hb hC hP (ow_m8 (itm_b8_0 c_3)) rfl (rec_in_0 hz0 c_2) rfl rfl dX3_cell_45 ?_
        refine og_ciP (og_runV (C := RX3) (T := TX3) (N := 14) (g := 0) (i := 0) (As := [.ref (ad 6 0), .int x3, .int (st.1 (102 + 4 * (4 * 0 + x3.toNatClampNeg)) x2.toNatClampNeg)]) (rest := []) ⟨hx, hb, hml, hown, hts⟩ (kX3_fromCell_0 l D ca ad A st x3 (st.1 (102 + 4 * (4 * 0 + x3.toNatClampNeg)) x2.toNatClampNeg)) (cwV 3 hts gX3_cell_X3_fromCell rfl rfl rfl (by decide +kernel) ⟨Nat.le_of_ble_eq_true rfl, Nat.le_of_ble_eq_true rfl⟩) hC hP hS (ow_q0_0) rfl rfl rfl hl.1 rfl (Nat.le_of_ble_eq_true rfl) dX3_cell_46 ⟨Nat.zero_le _, Nat.zero_le _⟩) hS (fun H locs hP hS => ?_)
        exact W.iret (v := (fX3_fromCell_0 st x3 (st.1 (102 + 4 * (4 * 0 + x3.toNatClampNeg)) x2.toNatClampNeg))) hx hb hr (fun t ht hW => ⟨⟨(fX3_fromCell_0 st x3 (st.1 (102 + 4 * (4 * 0 + x3.toNatClampNeg)) x2.toNatClampNeg)), st, rfl, ⟨(by simp only [fX3_cell, if_pos c_1, if_neg c_2, if_neg c_3]), rfl⟩, ow_Bi ht hP⟩, hS.F ht⟩) hS.2.2 dX3_cell_49
      · refine lv_ldc (v := (-2000000000)) hx hb hown (hts _ lk_X3_cell_4) dX3_cell_30 ?_
        exact W.iret (v := (-2000000000)) hx hb hr (fun t ht hW => ⟨⟨(-2000000000), st, rfl, ⟨(by simp only [fX3_cell, if_pos c_1, if_neg c_2, if_pos c_3]), rfl⟩, ow_Bi ht hP⟩, hS.F ht⟩) hS.2.2 dX3_cell_32
  · by_cases c_4 : x1 = 1
    · refine og_cqS (q := ad 6 1) (og_runV (C := RX3) (T := TX3) (N := 14) (g := 0) (i := 0) (As := [.int x1]) (rest := []) ⟨hx, hb, hml, hown, hts⟩ (kX3_tableNumbered l D ca ad A st x1) (cwV 1 hts gX3_cell_X3_tableNumbered rfl rfl rfl (by decide +kernel) ⟨Nat.le_of_ble_eq_true rfl, Nat.le_of_ble_eq_true rfl⟩) hC hP hS (ow_q0_0) rfl rfl rfl hl.1 rfl (Nat.le_of_ble_eq_true rfl) dX3_cell_2 ⟨Nat.zero_le _, Nat.zero_le _⟩) hS (by simp only [fX3_tableNumbered, if_neg c_1, if_pos c_4]) (fun H locs hP hS => ?_)
      refine lv_astore (lv' := [(4, .ref (ad 6 1)), (0, .ref (ad 0 0)), (1, .int x1), (2, .int x2), (3, .int x3)]) hx hb dX3_cell_5 hl (by decide) rfl (fun ls hl => ?_)
      refine lv_aload hx hb dX3_cell_7 (lv_at hl 0 rfl) ?_
      refine lv_ifnull hx hb dX3_cell_9 ?_
      refine lv_aload hx hb dX3_cell_12 (lv_at hl 0 rfl) ?_
      refine lv_iload_n hx hb dX3_cell_14 rfl (lv_at hl 3 rfl) ?_
      refine og_ciP (og_runVN (C := RX2) (T := TX2) (N := 5) (g := 6) (i := 1) (As := [.int x2]) (rest := []) ⟨hx, hb, hml, hown, hts⟩ (kX2_hasRecord_1 l D ca ad A st x2) ⟨va_cnB 1 hts gX3_cell_X2_hasRecord_n180 rfl rfl rfl (hC.2.2.1 _ ln_X3_cell_0) (hts _ lk_X3_cell_1) (by decide +kernel) ⟨Nat.le_of_ble_eq_true rfl, Nat.le_of_ble_eq_true rfl⟩, (hts _ lk_X3_cell_2), (hts _ lk_X3_cell_3)⟩ hC hP hS (ow_q6_1) rfl rfl rfl hl.1 rfl (Nat.le_of_ble_eq_true rfl) dX3_cell_15 ⟨Nat.zero_le _, Nat.zero_le _⟩) hS (fun H locs hP hS => ?_)
      refine lv_if_eq (tgt := 30) hx hb dX3_cell_18 (by decide) (fun c_5 => ?_) (fun c_5 => ?_)
      · refine lv_ldc (v := (-2000000000)) hx hb hown (hts _ lk_X3_cell_4) dX3_cell_30 ?_
        exact W.iret (v := (-2000000000)) hx hb hr (fun t ht hW => ⟨⟨(-2000000000), st, rfl, ⟨(by simp only [fX3_cell, if_neg c_1, if_pos c_4, if_pos c_5]), rfl⟩, ow_Bi ht hP⟩, hS.F ht⟩) hS.2.2 dX3_cell_32
      · refine lv_aload hx hb dX3_cell_21 (lv_at hl 0 rfl) ?_
        refine lv_iload_n hx hb dX3_cell_23 rfl (lv_at hl 4 rfl) ?_
        refine og_ciP (og_runVN (C := RX2) (T := TX2) (N := 5) (g := 6) (i := 1) (As := [.int x3]) (rest := []) ⟨hx, hb, hml, hown, hts⟩ (kX2_hasItem_1 l D ca ad A st x3) ⟨va_cnB 1 hts gX3_cell_X2_hasItem_n183 rfl rfl rfl (hC.2.2.1 _ ln_X3_cell_5) (hts _ lk_X3_cell_1) (by decide +kernel) ⟨Nat.le_of_ble_eq_true rfl, Nat.le_of_ble_eq_true rfl⟩, (hts _ lk_X3_cell_6), (hts _ lk_X3_cell_7)⟩ hC hP hS (ow_q6_1) rfl rfl rfl hl.1 rfl (Nat.le_of_ble_eq_true rfl) dX3_cell_24 ⟨Nat.zero_le _, Nat.zero_le _⟩) hS (fun H locs hP hS => ?_)
        refine lv_if_ne (tgt := 33) hx hb dX3_cell_27 (by decide) (fun c_6 => ?_) (fun c_6 => ?_)
        · refine lv_aload_n hx hb dX3_cell_33 rfl (lv_at hl 1 rfl) ?_
          refine lv_aload hx hb dX3_cell_34 (lv_at hl 0 rfl) ?_
          refine lv_iload_n hx hb dX3_cell_36 rfl (lv_at hl 4 rfl) ?_
          refine lv_aload hx hb dX3_cell_37 (lv_at hl 0 rfl) ?_
          refine og_getN (C := RX2) (T := TX2) (N := 5) (g := 6) (i := 1) (v := .ref (ad 7 1)) hx hb hts li_X3_cell_X2 hown hC hP (ow_q6_1) rfl rfl 3 (by decide) ln_X3_cell_8 rfl rfl dX3_cell_39 ?_
          refine lv_iload_n hx hb dX3_cell_42 rfl (lv_at hl 4 rfl) ?_
          refine og_aaldI (g := 7) (i := 1) (v := ad 8 (4 * 1 + x3.toNatClampNeg)) hx hb hC hP ow_q7_1 rfl (itm_in_1 c_6) (if_pos (vp_lt (itm_in_1 c_6))) dX3_cell_43 ?_
          refine lv_iload_n hx hb dX3_cell_44 rfl (lv_at hl 3 rfl) ?_
          refine og_iald (g := 8) (i := (4 * 1 + x3.toNatClampNeg)) (j := x2.toNatClampNeg) (v := (st.1 (102 + 4 * (4 * 1 + x3.toNatClampNeg)) x2.toNatClampNeg)) hx hb hC hP (ow_m8 (itm_b8_1 c_6)) rfl (rec_in_1 hz1 c_5) rfl rfl dX3_cell_45 ?_
          refine og_ciP (og_runV (C := RX3) (T := TX3) (N := 14) (g := 0) (i := 0) (As := [.ref (ad 6 1), .int x3, .int (st.1 (102 + 4 * (4 * 1 + x3.toNatClampNeg)) x2.toNatClampNeg)]) (rest := []) ⟨hx, hb, hml, hown, hts⟩ (kX3_fromCell_1 l D ca ad A st x3 (st.1 (102 + 4 * (4 * 1 + x3.toNatClampNeg)) x2.toNatClampNeg)) (cwV 3 hts gX3_cell_X3_fromCell rfl rfl rfl (by decide +kernel) ⟨Nat.le_of_ble_eq_true rfl, Nat.le_of_ble_eq_true rfl⟩) hC hP hS (ow_q0_0) rfl rfl rfl hl.1 rfl (Nat.le_of_ble_eq_true rfl) dX3_cell_46 ⟨Nat.zero_le _, Nat.zero_le _⟩) hS (fun H locs hP hS => ?_)
          exact W.iret (v := (fX3_fromCell_1 st x3 (st.1 (102 + 4 * (4 * 1 + x3.toNatClampNeg)) x2.toNatClampNeg))) hx hb hr (fun t ht hW => ⟨⟨(fX3_fromCell_1 st x3 (st.1 (102 + 4 * (4 * 1 + x3.toNatClampNeg)) x2.toNatClampNeg)), st, rfl, ⟨(by simp only [fX3_cell, if_neg c_1, if_pos c_4, if_neg c_5, if_neg c_6]), rfl⟩, ow_Bi ht hP⟩, hS.F ht⟩) hS.2.2 dX3_cell_49
        · refine lv_ldc (v := (-2000000000)) hx hb hown (hts _ lk_X3_cell_4) dX3_cell_30 ?_
          exact W.iret (v := (-2000000000)) hx hb hr (fun t ht hW => ⟨⟨(-2000000000), st, rfl, ⟨(by simp only [fX3_cell, if_neg c_1, if_pos c_4, if_neg c_5, if_pos c_6]), rfl⟩, ow_Bi ht hP⟩, hS.F ht⟩) hS.2.2 dX3_cell_32
    · refine og_cqN (og_runV (C := RX3) (T := TX3) (N := 14) (g := 0) (i := 0) (As := [.int x1]) (rest := []) ⟨hx, hb, hml, hown, hts⟩ (kX3_tableNumbered l D ca ad A st x1) (cwV 1 hts gX3_cell_X3_tableNumbered rfl rfl rfl (by decide +kernel) ⟨Nat.le_of_ble_eq_true rfl, Nat.le_of_ble_eq_true rfl⟩) hC hP hS (ow_q0_0) rfl rfl rfl hl.1 rfl (Nat.le_of_ble_eq_true rfl) dX3_cell_2 ⟨Nat.zero_le _, Nat.zero_le _⟩) hS (by simp only [fX3_tableNumbered, if_neg c_1, if_neg c_4]) (fun H locs hP hS => ?_)
      refine lv_astoreN (lv' := [(4, .null), (0, .ref (ad 0 0)), (1, .int x1), (2, .int x2), (3, .int x3)]) hx hb dX3_cell_5 hl (by decide) rfl (fun ls hl => ?_)
      refine lv_aloadN hx hb dX3_cell_7 (lv_at hl 0 rfl) ?_
      refine lv_ifnullN (tgt := 30) hx hb dX3_cell_9 (by decide) ?_
      refine lv_ldc (v := (-2000000000)) hx hb hown (hts _ lk_X3_cell_4) dX3_cell_30 ?_
      exact W.iret (v := (-2000000000)) hx hb hr (fun t ht hW => ⟨⟨(-2000000000), st, rfl, ⟨(by simp only [fX3_cell, if_neg c_1, if_neg c_4]), rfl⟩, ow_Bi ht hP⟩, hS.F ht⟩) hS.2.2 dX3_cell_32

theorem ln_X3_back_0 : (.methodLinkNest RX3 180 yX2_hasRecord "RecordLabels" : Cond) ∈ ow_nest := by decide +kernel
theorem lk_X3_back_1 : (.initialized RX2 : Cond) ∈ wsX3_back := by decide +kernel
theorem lk_X3_back_2 : (.instanceMethod yX2_hasRecord : Cond) ∈ wsX3_back := by decide +kernel
theorem lk_X3_back_3 : (.selects RX2 yX2_hasRecord yX2_hasRecord : Cond) ∈ wsX3_back := by decide +kernel
def fX3_back (st : ow_St) (x1 x2 : Int32) : Int32 × ow_St := (if x1 = 0 then (if (fX2_hasRecord_0 st x2) = 0 then ((-1), st) else (let st3 := (fX3_draftOf_0 st x2); (let st4 := (fX3_putTogether_0 st3).2; ((fX3_putTogether_0 st3).1, st4)))) else (if x1 = 1 then (if (fX2_hasRecord_1 st x2) = 0 then ((-1), st) else (let st7 := (fX3_draftOf_1 st x2); (let st8 := (fX3_putTogether_1 st7).2; ((fX3_putTogether_1 st7).1, st8)))) else ((-1), st)))
set_option maxHeartbeats 4000000 in
set_option maxRecDepth 100000 in
theorem kX3_back (l : Launch) (D : va_G) (ca : Nat → ClassId) (ad : ow_Ad) (A : Nat → Prop) (st : ow_St) (x1 : Int32) (x2 : Int32) (hz0 : iv_sz st 0) (hz1 : iv_sz st 1) : Met l yX3_back wsX3_back ({ frames := 4, cells := 0, slots := 0, locals := 90 }) (va_Pc [.ref (ad 0 0), .int x1, .int x2] (ow_W D ca ad A st)) (va_Qi (fun r st' => (r, st') = (fX3_back st x1 x2)) (ow_B D ca ad) A) 0 0 A := by
  refine Met.ofW (cc := cX3_back) (maxL := 4) (ret := (some .int)) (by decide) rfl ?_
  intro p e s m args below meth c s₁ B hml hv
  obtain ⟨rfl, hP, hC⟩ := hv
  have hx := B.exec
  have hb := B.bytes
  have hr := B.returns
  have hts := atoms_spec (ws := wsX3_back) B.pre
  have hown : s.vm.findClass RX3 = some m.cls := findClass_of_methodNamed B.named
  have hlocks := B.notSynchronized
  have hS : va_S A s.heap s.heap [] := va_S.rf
  have hl := lv_entry ([.ref (ad 0 0), .int x1, .int x2]) (n := 4) (Nat.le_of_ble_eq_true rfl)
  rw [lg_entry_eq]
  generalize (lg_sl ([.ref (ad 0 0), .int x1, .int x2]) ++ List.replicate (4 - (lg_sl ([.ref (ad 0 0), .int x1, .int x2])).length) Slot.unset).toArray = ls at hl ⊢
  have hl : lv_has ls 4 [(0, .ref (ad 0 0)), (1, .int x1), (2, .int x2)] := hl
  refine lv_aload_n hx hb dX3_back_0 rfl (lv_at hl 0 rfl) ?_
  refine lv_iload_n hx hb dX3_back_1 rfl (lv_at hl 1 rfl) ?_
  by_cases c_1 : x1 = 0
  · refine og_cqS (q := ad 6 0) (og_runV (C := RX3) (T := TX3) (N := 14) (g := 0) (i := 0) (As := [.int x1]) (rest := []) ⟨hx, hb, hml, hown, hts⟩ (kX3_tableNumbered l D ca ad A st x1) (cwV 1 hts gX3_back_X3_tableNumbered rfl rfl rfl (by decide +kernel) ⟨Nat.le_of_ble_eq_true rfl, Nat.le_of_ble_eq_true rfl⟩) hC hP hS (ow_q0_0) rfl rfl rfl hl.1 rfl (Nat.le_of_ble_eq_true rfl) dX3_back_2 ⟨Nat.zero_le _, Nat.zero_le _⟩) hS (by simp only [fX3_tableNumbered, if_pos c_1]) (fun H locs hP hS => ?_)
    refine lv_astore_n (lv' := [(3, .ref (ad 6 0)), (0, .ref (ad 0 0)), (1, .int x1), (2, .int x2)]) hx hb dX3_back_5 rfl hl (by decide) rfl (fun ls hl => ?_)
    refine lv_aload_n hx hb dX3_back_6 rfl (lv_at hl 0 rfl) ?_
    refine lv_ifnull hx hb dX3_back_7 ?_
    refine lv_aload_n hx hb dX3_back_10 rfl (lv_at hl 0 rfl) ?_
    refine lv_iload_n hx hb dX3_back_11 rfl (lv_at hl 3 rfl) ?_
    refine og_ciP (og_runVN (C := RX2) (T := TX2) (N := 5) (g := 6) (i := 0) (As := [.int x2]) (rest := []) ⟨hx, hb, hml, hown, hts⟩ (kX2_hasRecord_0 l D ca ad A st x2) ⟨va_cnB 1 hts gX3_back_X2_hasRecord_n180 rfl rfl rfl (hC.2.2.1 _ ln_X3_back_0) (hts _ lk_X3_back_1) (by decide +kernel) ⟨Nat.le_of_ble_eq_true rfl, Nat.le_of_ble_eq_true rfl⟩, (hts _ lk_X3_back_2), (hts _ lk_X3_back_3)⟩ hC hP hS (ow_q6_0) rfl rfl rfl hl.1 rfl (Nat.le_of_ble_eq_true rfl) dX3_back_12 ⟨Nat.zero_le _, Nat.zero_le _⟩) hS (fun H locs hP hS => ?_)
    refine lv_if_ne (tgt := 20) hx hb dX3_back_15 (by decide) (fun c_2 => ?_) (fun c_2 => ?_)
    · refine lv_aload_n hx hb dX3_back_20 rfl (lv_at hl 1 rfl) ?_
      refine lv_aload_n hx hb dX3_back_21 rfl (lv_at hl 0 rfl) ?_
      refine lv_iload_n hx hb dX3_back_22 rfl (lv_at hl 3 rfl) ?_
      refine og_cvW (og_runV (C := RX3) (T := TX3) (N := 14) (g := 0) (i := 0) (As := [.ref (ad 6 0), .int x2]) (rest := []) ⟨hx, hb, hml, hown, hts⟩ (kX3_draftOf_0 l D ca ad A st x2 hz0) (cwV 2 hts gX3_back_X3_draftOf rfl rfl rfl (by decide +kernel) ⟨Nat.le_of_ble_eq_true rfl, Nat.le_of_ble_eq_true rfl⟩) hC hP hS (ow_q0_0) rfl rfl rfl hl.1 rfl (Nat.le_of_ble_eq_true rfl) dX3_back_23 ⟨Nat.zero_le _, Nat.zero_le _⟩) hS (fun H locs hP hS => ?_)
      obtain ⟨st3, e3⟩ : ∃ z, z = (fX3_draftOf_0 st x2) := ⟨_, rfl⟩
      rw [← e3] at hP
      refine lv_aload_n hx hb dX3_back_26 rfl (lv_at hl 1 rfl) ?_
      refine lv_aload_n hx hb dX3_back_27 rfl (lv_at hl 0 rfl) ?_
      refine og_ciW (og_runV (C := RX3) (T := TX3) (N := 14) (g := 0) (i := 0) (As := [.ref (ad 6 0)]) (rest := []) ⟨hx, hb, hml, hown, hts⟩ (kX3_putTogether_0 l D ca ad A st3) (cwV 1 hts gX3_back_X3_putTogether rfl rfl rfl (by decide +kernel) ⟨Nat.le_of_ble_eq_true rfl, Nat.le_of_ble_eq_true rfl⟩) hC hP hS (ow_q0_0) rfl rfl rfl hl.1 rfl (Nat.le_of_ble_eq_true rfl) dX3_back_28 ⟨Nat.zero_le _, Nat.zero_le _⟩) hS (fun H locs hP hS => ?_)
      obtain ⟨st4, e4⟩ : ∃ z, z = (fX3_putTogether_0 st3).2 := ⟨_, rfl⟩
      rw [← e4] at hP
      exact W.iret (v := (fX3_putTogether_0 st3).1) hx hb hr (fun t ht hW => ⟨⟨(fX3_putTogether_0 st3).1, st4, rfl, (by subst e4; subst e3; simp only [fX3_back, if_pos c_1, if_neg c_2]), ow_Bi ht hP⟩, hS.F ht⟩) hS.2.2 dX3_back_31
    · refine lv_iconst (v := (-1)) hx hb dX3_back_18 (by decide) ?_
      exact W.iret (v := (-1)) hx hb hr (fun t ht hW => ⟨⟨(-1), st, rfl, (by simp only [fX3_back, if_pos c_1, if_pos c_2]), ow_Bi ht hP⟩, hS.F ht⟩) hS.2.2 dX3_back_19
  · by_cases c_5 : x1 = 1
    · refine og_cqS (q := ad 6 1) (og_runV (C := RX3) (T := TX3) (N := 14) (g := 0) (i := 0) (As := [.int x1]) (rest := []) ⟨hx, hb, hml, hown, hts⟩ (kX3_tableNumbered l D ca ad A st x1) (cwV 1 hts gX3_back_X3_tableNumbered rfl rfl rfl (by decide +kernel) ⟨Nat.le_of_ble_eq_true rfl, Nat.le_of_ble_eq_true rfl⟩) hC hP hS (ow_q0_0) rfl rfl rfl hl.1 rfl (Nat.le_of_ble_eq_true rfl) dX3_back_2 ⟨Nat.zero_le _, Nat.zero_le _⟩) hS (by simp only [fX3_tableNumbered, if_neg c_1, if_pos c_5]) (fun H locs hP hS => ?_)
      refine lv_astore_n (lv' := [(3, .ref (ad 6 1)), (0, .ref (ad 0 0)), (1, .int x1), (2, .int x2)]) hx hb dX3_back_5 rfl hl (by decide) rfl (fun ls hl => ?_)
      refine lv_aload_n hx hb dX3_back_6 rfl (lv_at hl 0 rfl) ?_
      refine lv_ifnull hx hb dX3_back_7 ?_
      refine lv_aload_n hx hb dX3_back_10 rfl (lv_at hl 0 rfl) ?_
      refine lv_iload_n hx hb dX3_back_11 rfl (lv_at hl 3 rfl) ?_
      refine og_ciP (og_runVN (C := RX2) (T := TX2) (N := 5) (g := 6) (i := 1) (As := [.int x2]) (rest := []) ⟨hx, hb, hml, hown, hts⟩ (kX2_hasRecord_1 l D ca ad A st x2) ⟨va_cnB 1 hts gX3_back_X2_hasRecord_n180 rfl rfl rfl (hC.2.2.1 _ ln_X3_back_0) (hts _ lk_X3_back_1) (by decide +kernel) ⟨Nat.le_of_ble_eq_true rfl, Nat.le_of_ble_eq_true rfl⟩, (hts _ lk_X3_back_2), (hts _ lk_X3_back_3)⟩ hC hP hS (ow_q6_1) rfl rfl rfl hl.1 rfl (Nat.le_of_ble_eq_true rfl) dX3_back_12 ⟨Nat.zero_le _, Nat.zero_le _⟩) hS (fun H locs hP hS => ?_)
      refine lv_if_ne (tgt := 20) hx hb dX3_back_15 (by decide) (fun c_6 => ?_) (fun c_6 => ?_)
      · refine lv_aload_n hx hb dX3_back_20 rfl (lv_at hl 1 rfl) ?_
        refine lv_aload_n hx hb dX3_back_21 rfl (lv_at hl 0 rfl) ?_
        refine lv_iload_n hx hb dX3_back_22 rfl (lv_at hl 3 rfl) ?_
        refine og_cvW (og_runV (C := RX3) (T := TX3) (N := 14) (g := 0) (i := 0) (As := [.ref (ad 6 1), .int x2]) (rest := []) ⟨hx, hb, hml, hown, hts⟩ (kX3_draftOf_1 l D ca ad A st x2 hz1) (cwV 2 hts gX3_back_X3_draftOf rfl rfl rfl (by decide +kernel) ⟨Nat.le_of_ble_eq_true rfl, Nat.le_of_ble_eq_true rfl⟩) hC hP hS (ow_q0_0) rfl rfl rfl hl.1 rfl (Nat.le_of_ble_eq_true rfl) dX3_back_23 ⟨Nat.zero_le _, Nat.zero_le _⟩) hS (fun H locs hP hS => ?_)
        obtain ⟨st7, e7⟩ : ∃ z, z = (fX3_draftOf_1 st x2) := ⟨_, rfl⟩
        rw [← e7] at hP
        refine lv_aload_n hx hb dX3_back_26 rfl (lv_at hl 1 rfl) ?_
        refine lv_aload_n hx hb dX3_back_27 rfl (lv_at hl 0 rfl) ?_
        refine og_ciW (og_runV (C := RX3) (T := TX3) (N := 14) (g := 0) (i := 0) (As := [.ref (ad 6 1)]) (rest := []) ⟨hx, hb, hml, hown, hts⟩ (kX3_putTogether_1 l D ca ad A st7) (cwV 1 hts gX3_back_X3_putTogether rfl rfl rfl (by decide +kernel) ⟨Nat.le_of_ble_eq_true rfl, Nat.le_of_ble_eq_true rfl⟩) hC hP hS (ow_q0_0) rfl rfl rfl hl.1 rfl (Nat.le_of_ble_eq_true rfl) dX3_back_28 ⟨Nat.zero_le _, Nat.zero_le _⟩) hS (fun H locs hP hS => ?_)
        obtain ⟨st8, e8⟩ : ∃ z, z = (fX3_putTogether_1 st7).2 := ⟨_, rfl⟩
        rw [← e8] at hP
        exact W.iret (v := (fX3_putTogether_1 st7).1) hx hb hr (fun t ht hW => ⟨⟨(fX3_putTogether_1 st7).1, st8, rfl, (by subst e8; subst e7; simp only [fX3_back, if_neg c_1, if_pos c_5, if_neg c_6]), ow_Bi ht hP⟩, hS.F ht⟩) hS.2.2 dX3_back_31
      · refine lv_iconst (v := (-1)) hx hb dX3_back_18 (by decide) ?_
        exact W.iret (v := (-1)) hx hb hr (fun t ht hW => ⟨⟨(-1), st, rfl, (by simp only [fX3_back, if_neg c_1, if_pos c_5, if_pos c_6]), ow_Bi ht hP⟩, hS.F ht⟩) hS.2.2 dX3_back_19
    · refine og_cqN (og_runV (C := RX3) (T := TX3) (N := 14) (g := 0) (i := 0) (As := [.int x1]) (rest := []) ⟨hx, hb, hml, hown, hts⟩ (kX3_tableNumbered l D ca ad A st x1) (cwV 1 hts gX3_back_X3_tableNumbered rfl rfl rfl (by decide +kernel) ⟨Nat.le_of_ble_eq_true rfl, Nat.le_of_ble_eq_true rfl⟩) hC hP hS (ow_q0_0) rfl rfl rfl hl.1 rfl (Nat.le_of_ble_eq_true rfl) dX3_back_2 ⟨Nat.zero_le _, Nat.zero_le _⟩) hS (by simp only [fX3_tableNumbered, if_neg c_1, if_neg c_5]) (fun H locs hP hS => ?_)
      refine lv_astore_nN (lv' := [(3, .null), (0, .ref (ad 0 0)), (1, .int x1), (2, .int x2)]) hx hb dX3_back_5 rfl hl (by decide) rfl (fun ls hl => ?_)
      refine lv_aload_nN hx hb dX3_back_6 rfl (lv_at hl 0 rfl) ?_
      refine lv_ifnullN (tgt := 18) hx hb dX3_back_7 (by decide) ?_
      refine lv_iconst (v := (-1)) hx hb dX3_back_18 (by decide) ?_
      exact W.iret (v := (-1)) hx hb hr (fun t ht hW => ⟨⟨(-1), st, rfl, (by simp only [fX3_back, if_neg c_1, if_neg c_5]), ow_Bi ht hP⟩, hS.F ht⟩) hS.2.2 dX3_back_19

theorem li_X3_part_n_X3 : ∀ w ∈ u_ws RX3 TX3 14, w ∈ wsX3_part := by decide +kernel
theorem lk_X3_part_n_1 : (.fieldLink RX3 70 "RecordLabels" "partsTable" "LRecordLabels$Table;" : Cond) ∈ wsX3_part := by decide +kernel
def fX3_part_n (st : ow_St) (x1 : Int32) : Int32 := (-4)
set_option maxHeartbeats 4000000 in
set_option maxRecDepth 100000 in
theorem kX3_part_n (l : Launch) (D : va_G) (ca : Nat → ClassId) (ad : ow_Ad) (A : Nat → Prop) (st : ow_St) (x1 : Int32) (hp : st.2.2 0 = 0) : Met l yX3_part wsX3_part ({ frames := 0, cells := 0, slots := 0, locals := 0 }) (va_Pc [.ref (ad 0 0), .int x1] (ow_W D ca ad A st)) (va_Qi (fun r st' => r = (fX3_part_n st x1) ∧ st' = st) (ow_B D ca ad) A) 0 0 A := by
  refine Met.ofW (cc := cX3_part) (maxL := 2) (ret := (some .int)) (by decide) rfl ?_
  intro p e s m args below meth c s₁ B hml hv
  obtain ⟨rfl, hP, hC⟩ := hv
  have hx := B.exec
  have hb := B.bytes
  have hr := B.returns
  have hts := atoms_spec (ws := wsX3_part) B.pre
  have hown : s.vm.findClass RX3 = some m.cls := findClass_of_methodNamed B.named
  have hlocks := B.notSynchronized
  have hS : va_S A s.heap s.heap [] := va_S.rf
  have hl := lv_entry ([.ref (ad 0 0), .int x1]) (n := 2) (Nat.le_of_ble_eq_true rfl)
  rw [lg_entry_eq]
  generalize (lg_sl ([.ref (ad 0 0), .int x1]) ++ List.replicate (2 - (lg_sl ([.ref (ad 0 0), .int x1])).length) Slot.unset).toArray = ls at hl ⊢
  have hl : lv_has ls 2 [(0, .ref (ad 0 0)), (1, .int x1)] := hl
  refine lv_aload_n hx hb dX3_part_0 rfl (lv_at hl 0 rfl) ?_
  refine og_get (C := RX3) (T := TX3) (N := 14) (g := 0) (i := 0) (v := .null) hx hb hts li_X3_part_n_X3 hown hC hP (ow_q0_0) rfl rfl 11 (by decide) (hts _ lk_X3_part_n_1) rfl (by show some (va_rf (ow_pt ad (st.2.2 0))) = _; rw [hp]; rfl) dX3_part_1 ?_
  refine lv_ifnullN (tgt := 18) hx hb dX3_part_4 (by decide) ?_
  refine lv_bipush (v := (-4)) hx hb dX3_part_18 (by decide) ?_
  exact W.iret (v := (-4)) hx hb hr (fun t ht hW => ⟨⟨(-4), st, rfl, ⟨(by simp only [fX3_part_n]), rfl⟩, ow_Bi ht hP⟩, hS.F ht⟩) hS.2.2 dX3_part_20

theorem li_X3_part_0_X3 : ∀ w ∈ u_ws RX3 TX3 14, w ∈ wsX3_part := by decide +kernel
theorem lk_X3_part_0_1 : (.fieldLink RX3 70 "RecordLabels" "partsTable" "LRecordLabels$Table;" : Cond) ∈ wsX3_part := by decide +kernel
theorem ln_X3_part_0_2 : (.methodLinkNest RX3 183 yX2_hasItem "RecordLabels" : Cond) ∈ ow_nest := by decide +kernel
theorem lk_X3_part_0_3 : (.initialized RX2 : Cond) ∈ wsX3_part := by decide +kernel
theorem lk_X3_part_0_4 : (.instanceMethod yX2_hasItem : Cond) ∈ wsX3_part := by decide +kernel
theorem lk_X3_part_0_5 : (.selects RX2 yX2_hasItem yX2_hasItem : Cond) ∈ wsX3_part := by decide +kernel
theorem lk_X3_part_0_6 : (.fieldLink RX3 67 "RecordLabels" "parts" "[I" : Cond) ∈ wsX3_part := by decide +kernel
def fX3_part_0 (st : ow_St) (x1 : Int32) : Int32 := (if (fX2_hasItem_0 st x1) = 0 then (-4) else (fX3_fromCell_0 st x1 (st.1 107 x1.toNatClampNeg)))
set_option maxHeartbeats 4000000 in
set_option maxRecDepth 100000 in
theorem kX3_part_0 (l : Launch) (D : va_G) (ca : Nat → ClassId) (ad : ow_Ad) (A : Nat → Prop) (st : ow_St) (x1 : Int32) (hp : st.2.2 0 = 1) : Met l yX3_part wsX3_part ({ frames := 3, cells := 0, slots := 0, locals := 66 }) (va_Pc [.ref (ad 0 0), .int x1] (ow_W D ca ad A st)) (va_Qi (fun r st' => r = (fX3_part_0 st x1) ∧ st' = st) (ow_B D ca ad) A) 0 0 A := by
  refine Met.ofW (cc := cX3_part) (maxL := 2) (ret := (some .int)) (by decide) rfl ?_
  intro p e s m args below meth c s₁ B hml hv
  obtain ⟨rfl, hP, hC⟩ := hv
  have hx := B.exec
  have hb := B.bytes
  have hr := B.returns
  have hts := atoms_spec (ws := wsX3_part) B.pre
  have hown : s.vm.findClass RX3 = some m.cls := findClass_of_methodNamed B.named
  have hlocks := B.notSynchronized
  have hS : va_S A s.heap s.heap [] := va_S.rf
  have hl := lv_entry ([.ref (ad 0 0), .int x1]) (n := 2) (Nat.le_of_ble_eq_true rfl)
  rw [lg_entry_eq]
  generalize (lg_sl ([.ref (ad 0 0), .int x1]) ++ List.replicate (2 - (lg_sl ([.ref (ad 0 0), .int x1])).length) Slot.unset).toArray = ls at hl ⊢
  have hl : lv_has ls 2 [(0, .ref (ad 0 0)), (1, .int x1)] := hl
  refine lv_aload_n hx hb dX3_part_0 rfl (lv_at hl 0 rfl) ?_
  refine og_get (C := RX3) (T := TX3) (N := 14) (g := 0) (i := 0) (v := .ref (ad 6 0)) hx hb hts li_X3_part_0_X3 hown hC hP (ow_q0_0) rfl rfl 11 (by decide) (hts _ lk_X3_part_0_1) rfl (by show some (va_rf (ow_pt ad (st.2.2 0))) = _; rw [hp]; rfl) dX3_part_1 ?_
  refine lv_ifnull hx hb dX3_part_4 ?_
  refine lv_aload_n hx hb dX3_part_7 rfl (lv_at hl 0 rfl) ?_
  refine og_get (C := RX3) (T := TX3) (N := 14) (g := 0) (i := 0) (v := .ref (ad 6 0)) hx hb hts li_X3_part_0_X3 hown hC hP (ow_q0_0) rfl rfl 11 (by decide) (hts _ lk_X3_part_0_1) rfl (by show some (va_rf (ow_pt ad (st.2.2 0))) = _; rw [hp]; rfl) dX3_part_8 ?_
  refine lv_iload_n hx hb dX3_part_11 rfl (lv_at hl 1 rfl) ?_
  refine og_ciP (og_runVN (C := RX2) (T := TX2) (N := 5) (g := 6) (i := 0) (As := [.int x1]) (rest := []) ⟨hx, hb, hml, hown, hts⟩ (kX2_hasItem_0 l D ca ad A st x1) ⟨va_cnB 1 hts gX3_part_X2_hasItem_n183 rfl rfl rfl (hC.2.2.1 _ ln_X3_part_0_2) (hts _ lk_X3_part_0_3) (by decide +kernel) ⟨Nat.le_of_ble_eq_true rfl, Nat.le_of_ble_eq_true rfl⟩, (hts _ lk_X3_part_0_4), (hts _ lk_X3_part_0_5)⟩ hC hP hS (ow_q6_0) rfl rfl rfl hl.1 rfl (Nat.le_of_ble_eq_true rfl) dX3_part_12 ⟨Nat.zero_le _, Nat.zero_le _⟩) hS (fun H locs hP hS => ?_)
  refine lv_if_ne (tgt := 21) hx hb dX3_part_15 (by decide) (fun c_1 => ?_) (fun c_1 => ?_)
  · refine lv_aload_n hx hb dX3_part_21 rfl (lv_at hl 0 rfl) ?_
    refine lv_aload_n hx hb dX3_part_22 rfl (lv_at hl 0 rfl) ?_
    refine og_get (C := RX3) (T := TX3) (N := 14) (g := 0) (i := 0) (v := .ref (ad 6 0)) hx hb hts li_X3_part_0_X3 hown hC hP (ow_q0_0) rfl rfl 11 (by decide) (hts _ lk_X3_part_0_1) rfl (by show some (va_rf (ow_pt ad (st.2.2 0))) = _; rw [hp]; rfl) dX3_part_23 ?_
    refine lv_iload_n hx hb dX3_part_26 rfl (lv_at hl 1 rfl) ?_
    refine lv_aload_n hx hb dX3_part_27 rfl (lv_at hl 0 rfl) ?_
    refine og_get (C := RX3) (T := TX3) (N := 14) (g := 0) (i := 0) (v := .ref (ad 9 1)) hx hb hts li_X3_part_0_X3 hown hC hP (ow_q0_0) rfl rfl 10 (by decide) (hts _ lk_X3_part_0_6) rfl rfl dX3_part_28 ?_
    refine lv_iload_n hx hb dX3_part_31 rfl (lv_at hl 1 rfl) ?_
    refine og_iald (g := 9) (i := 1) (j := x1.toNatClampNeg) (v := (st.1 107 x1.toNatClampNeg)) hx hb hC hP (ow_q9_1) rfl (itm_in_0 c_1) rfl rfl dX3_part_32 ?_
    refine og_ciP (og_runV (C := RX3) (T := TX3) (N := 14) (g := 0) (i := 0) (As := [.ref (ad 6 0), .int x1, .int (st.1 107 x1.toNatClampNeg)]) (rest := []) ⟨hx, hb, hml, hown, hts⟩ (kX3_fromCell_0 l D ca ad A st x1 (st.1 107 x1.toNatClampNeg)) (cwV 3 hts gX3_part_X3_fromCell rfl rfl rfl (by decide +kernel) ⟨Nat.le_of_ble_eq_true rfl, Nat.le_of_ble_eq_true rfl⟩) hC hP hS (ow_q0_0) rfl rfl rfl hl.1 rfl (Nat.le_of_ble_eq_true rfl) dX3_part_33 ⟨Nat.zero_le _, Nat.zero_le _⟩) hS (fun H locs hP hS => ?_)
    exact W.iret (v := (fX3_fromCell_0 st x1 (st.1 107 x1.toNatClampNeg))) hx hb hr (fun t ht hW => ⟨⟨(fX3_fromCell_0 st x1 (st.1 107 x1.toNatClampNeg)), st, rfl, ⟨(by simp only [fX3_part_0, if_neg c_1]), rfl⟩, ow_Bi ht hP⟩, hS.F ht⟩) hS.2.2 dX3_part_36
  · refine lv_bipush (v := (-4)) hx hb dX3_part_18 (by decide) ?_
    exact W.iret (v := (-4)) hx hb hr (fun t ht hW => ⟨⟨(-4), st, rfl, ⟨(by simp only [fX3_part_0, if_pos c_1]), rfl⟩, ow_Bi ht hP⟩, hS.F ht⟩) hS.2.2 dX3_part_20

theorem li_X3_part_1_X3 : ∀ w ∈ u_ws RX3 TX3 14, w ∈ wsX3_part := by decide +kernel
theorem lk_X3_part_1_1 : (.fieldLink RX3 70 "RecordLabels" "partsTable" "LRecordLabels$Table;" : Cond) ∈ wsX3_part := by decide +kernel
theorem ln_X3_part_1_2 : (.methodLinkNest RX3 183 yX2_hasItem "RecordLabels" : Cond) ∈ ow_nest := by decide +kernel
theorem lk_X3_part_1_3 : (.initialized RX2 : Cond) ∈ wsX3_part := by decide +kernel
theorem lk_X3_part_1_4 : (.instanceMethod yX2_hasItem : Cond) ∈ wsX3_part := by decide +kernel
theorem lk_X3_part_1_5 : (.selects RX2 yX2_hasItem yX2_hasItem : Cond) ∈ wsX3_part := by decide +kernel
theorem lk_X3_part_1_6 : (.fieldLink RX3 67 "RecordLabels" "parts" "[I" : Cond) ∈ wsX3_part := by decide +kernel
def fX3_part_1 (st : ow_St) (x1 : Int32) : Int32 := (if (fX2_hasItem_1 st x1) = 0 then (-4) else (fX3_fromCell_1 st x1 (st.1 107 x1.toNatClampNeg)))
set_option maxHeartbeats 4000000 in
set_option maxRecDepth 100000 in
theorem kX3_part_1 (l : Launch) (D : va_G) (ca : Nat → ClassId) (ad : ow_Ad) (A : Nat → Prop) (st : ow_St) (x1 : Int32) (hp : st.2.2 0 = 2) : Met l yX3_part wsX3_part ({ frames := 3, cells := 0, slots := 0, locals := 66 }) (va_Pc [.ref (ad 0 0), .int x1] (ow_W D ca ad A st)) (va_Qi (fun r st' => r = (fX3_part_1 st x1) ∧ st' = st) (ow_B D ca ad) A) 0 0 A := by
  refine Met.ofW (cc := cX3_part) (maxL := 2) (ret := (some .int)) (by decide) rfl ?_
  intro p e s m args below meth c s₁ B hml hv
  obtain ⟨rfl, hP, hC⟩ := hv
  have hx := B.exec
  have hb := B.bytes
  have hr := B.returns
  have hts := atoms_spec (ws := wsX3_part) B.pre
  have hown : s.vm.findClass RX3 = some m.cls := findClass_of_methodNamed B.named
  have hlocks := B.notSynchronized
  have hS : va_S A s.heap s.heap [] := va_S.rf
  have hl := lv_entry ([.ref (ad 0 0), .int x1]) (n := 2) (Nat.le_of_ble_eq_true rfl)
  rw [lg_entry_eq]
  generalize (lg_sl ([.ref (ad 0 0), .int x1]) ++ List.replicate (2 - (lg_sl ([.ref (ad 0 0), .int x1])).length) Slot.unset).toArray = ls at hl ⊢
  have hl : lv_has ls 2 [(0, .ref (ad 0 0)), (1, .int x1)] := hl
  refine lv_aload_n hx hb dX3_part_0 rfl (lv_at hl 0 rfl) ?_
  refine og_get (C := RX3) (T := TX3) (N := 14) (g := 0) (i := 0) (v := .ref (ad 6 1)) hx hb hts li_X3_part_1_X3 hown hC hP (ow_q0_0) rfl rfl 11 (by decide) (hts _ lk_X3_part_1_1) rfl (by show some (va_rf (ow_pt ad (st.2.2 0))) = _; rw [hp]; rfl) dX3_part_1 ?_
  refine lv_ifnull hx hb dX3_part_4 ?_
  refine lv_aload_n hx hb dX3_part_7 rfl (lv_at hl 0 rfl) ?_
  refine og_get (C := RX3) (T := TX3) (N := 14) (g := 0) (i := 0) (v := .ref (ad 6 1)) hx hb hts li_X3_part_1_X3 hown hC hP (ow_q0_0) rfl rfl 11 (by decide) (hts _ lk_X3_part_1_1) rfl (by show some (va_rf (ow_pt ad (st.2.2 0))) = _; rw [hp]; rfl) dX3_part_8 ?_
  refine lv_iload_n hx hb dX3_part_11 rfl (lv_at hl 1 rfl) ?_
  refine og_ciP (og_runVN (C := RX2) (T := TX2) (N := 5) (g := 6) (i := 1) (As := [.int x1]) (rest := []) ⟨hx, hb, hml, hown, hts⟩ (kX2_hasItem_1 l D ca ad A st x1) ⟨va_cnB 1 hts gX3_part_X2_hasItem_n183 rfl rfl rfl (hC.2.2.1 _ ln_X3_part_1_2) (hts _ lk_X3_part_1_3) (by decide +kernel) ⟨Nat.le_of_ble_eq_true rfl, Nat.le_of_ble_eq_true rfl⟩, (hts _ lk_X3_part_1_4), (hts _ lk_X3_part_1_5)⟩ hC hP hS (ow_q6_1) rfl rfl rfl hl.1 rfl (Nat.le_of_ble_eq_true rfl) dX3_part_12 ⟨Nat.zero_le _, Nat.zero_le _⟩) hS (fun H locs hP hS => ?_)
  refine lv_if_ne (tgt := 21) hx hb dX3_part_15 (by decide) (fun c_1 => ?_) (fun c_1 => ?_)
  · refine lv_aload_n hx hb dX3_part_21 rfl (lv_at hl 0 rfl) ?_
    refine lv_aload_n hx hb dX3_part_22 rfl (lv_at hl 0 rfl) ?_
    refine og_get (C := RX3) (T := TX3) (N := 14) (g := 0) (i := 0) (v := .ref (ad 6 1)) hx hb hts li_X3_part_1_X3 hown hC hP (ow_q0_0) rfl rfl 11 (by decide) (hts _ lk_X3_part_1_1) rfl (by show some (va_rf (ow_pt ad (st.2.2 0))) = _; rw [hp]; rfl) dX3_part_23 ?_
    refine lv_iload_n hx hb dX3_part_26 rfl (lv_at hl 1 rfl) ?_
    refine lv_aload_n hx hb dX3_part_27 rfl (lv_at hl 0 rfl) ?_
    refine og_get (C := RX3) (T := TX3) (N := 14) (g := 0) (i := 0) (v := .ref (ad 9 1)) hx hb hts li_X3_part_1_X3 hown hC hP (ow_q0_0) rfl rfl 10 (by decide) (hts _ lk_X3_part_1_6) rfl rfl dX3_part_28 ?_
    refine lv_iload_n hx hb dX3_part_31 rfl (lv_at hl 1 rfl) ?_
    refine og_iald (g := 9) (i := 1) (j := x1.toNatClampNeg) (v := (st.1 107 x1.toNatClampNeg)) hx hb hC hP (ow_q9_1) rfl (itm_in_1 c_1) rfl rfl dX3_part_32 ?_
    refine og_ciP (og_runV (C := RX3) (T := TX3) (N := 14) (g := 0) (i := 0) (As := [.ref (ad 6 1), .int x1, .int (st.1 107 x1.toNatClampNeg)]) (rest := []) ⟨hx, hb, hml, hown, hts⟩ (kX3_fromCell_1 l D ca ad A st x1 (st.1 107 x1.toNatClampNeg)) (cwV 3 hts gX3_part_X3_fromCell rfl rfl rfl (by decide +kernel) ⟨Nat.le_of_ble_eq_true rfl, Nat.le_of_ble_eq_true rfl⟩) hC hP hS (ow_q0_0) rfl rfl rfl hl.1 rfl (Nat.le_of_ble_eq_true rfl) dX3_part_33 ⟨Nat.zero_le _, Nat.zero_le _⟩) hS (fun H locs hP hS => ?_)
    exact W.iret (v := (fX3_fromCell_1 st x1 (st.1 107 x1.toNatClampNeg))) hx hb hr (fun t ht hW => ⟨⟨(fX3_fromCell_1 st x1 (st.1 107 x1.toNatClampNeg)), st, rfl, ⟨(by simp only [fX3_part_1, if_neg c_1]), rfl⟩, ow_Bi ht hP⟩, hS.F ht⟩) hS.2.2 dX3_part_36
  · refine lv_bipush (v := (-4)) hx hb dX3_part_18 (by decide) ?_
    exact W.iret (v := (-4)) hx hb hr (fun t ht hW => ⟨⟨(-4), st, rfl, ⟨(by simp only [fX3_part_1, if_pos c_1]), rfl⟩, ow_Bi ht hP⟩, hS.F ht⟩) hS.2.2 dX3_part_20

theorem li_X3_found_X3 : ∀ w ∈ u_ws RX3 TX3 14, w ∈ wsX3_found := by decide +kernel
theorem lk_X3_found_1 : (.fieldLink RX3 76 "RecordLabels" "foundSize" "I" : Cond) ∈ wsX3_found := by decide +kernel
theorem lk_X3_found_2 : (.fieldLink RX3 73 "RecordLabels" "foundRecords" "[I" : Cond) ∈ wsX3_found := by decide +kernel
def fX3_found (st : ow_St) (x1 : Int32) : Int32 := (if x1 < 0 then (-4) else (if (st.1 0 2) ≤ x1 then (-4) else (st.1 111 x1.toNatClampNeg)))
set_option maxHeartbeats 4000000 in
set_option maxRecDepth 100000 in
theorem kX3_found (l : Launch) (D : va_G) (ca : Nat → ClassId) (ad : ow_Ad) (A : Nat → Prop) (st : ow_St) (x1 : Int32) (hf : iv_fs st) : Met l yX3_found wsX3_found ({ frames := 0, cells := 0, slots := 0, locals := 0 }) (va_Pc [.ref (ad 0 0), .int x1] (ow_W D ca ad A st)) (va_Qi (fun r st' => r = (fX3_found st x1) ∧ st' = st) (ow_B D ca ad) A) 0 0 A := by
  refine Met.ofW (cc := cX3_found) (maxL := 2) (ret := (some .int)) (by decide) rfl ?_
  intro p e s m args below meth c s₁ B hml hv
  obtain ⟨rfl, hP, hC⟩ := hv
  have hx := B.exec
  have hb := B.bytes
  have hr := B.returns
  have hts := atoms_spec (ws := wsX3_found) B.pre
  have hown : s.vm.findClass RX3 = some m.cls := findClass_of_methodNamed B.named
  have hlocks := B.notSynchronized
  have hS : va_S A s.heap s.heap [] := va_S.rf
  have hl := lv_entry ([.ref (ad 0 0), .int x1]) (n := 2) (Nat.le_of_ble_eq_true rfl)
  rw [lg_entry_eq]
  generalize (lg_sl ([.ref (ad 0 0), .int x1]) ++ List.replicate (2 - (lg_sl ([.ref (ad 0 0), .int x1])).length) Slot.unset).toArray = ls at hl ⊢
  have hl : lv_has ls 2 [(0, .ref (ad 0 0)), (1, .int x1)] := hl
  refine lv_iload_n hx hb dX3_found_0 rfl (lv_at hl 1 rfl) ?_
  refine lv_if_lt (tgt := 21) hx hb dX3_found_1 (by decide) (fun c_1 => ?_) (fun c_1 => ?_)
  · refine lv_bipush (v := (-4)) hx hb dX3_found_21 (by decide) ?_
    exact W.iret (v := (-4)) hx hb hr (fun t ht hW => ⟨⟨(-4), st, rfl, ⟨(by simp only [fX3_found, if_pos c_1]), rfl⟩, ow_Bi ht hP⟩, hS.F ht⟩) hS.2.2 dX3_found_23
  · refine lv_iload_n hx hb dX3_found_4 rfl (lv_at hl 1 rfl) ?_
    refine lv_aload_n hx hb dX3_found_5 rfl (lv_at hl 0 rfl) ?_
    refine og_get (C := RX3) (T := TX3) (N := 14) (g := 0) (i := 0) (v := .int (st.1 0 2)) hx hb hts li_X3_found_X3 hown hC hP (ow_q0_0) rfl rfl 13 (by decide) (hts _ lk_X3_found_1) rfl rfl dX3_found_6 ?_
    refine lv_icmp_ge (tgt := 21) hx hb dX3_found_9 (by decide) (fun c_2 => ?_) (fun c_2 => ?_)
    · refine lv_bipush (v := (-4)) hx hb dX3_found_21 (by decide) ?_
      exact W.iret (v := (-4)) hx hb hr (fun t ht hW => ⟨⟨(-4), st, rfl, ⟨(by simp only [fX3_found, if_neg c_1, if_pos c_2]), rfl⟩, ow_Bi ht hP⟩, hS.F ht⟩) hS.2.2 dX3_found_23
    · refine lv_aload_n hx hb dX3_found_12 rfl (lv_at hl 0 rfl) ?_
      refine og_get (C := RX3) (T := TX3) (N := 14) (g := 0) (i := 0) (v := .ref (ad 9 2)) hx hb hts li_X3_found_X3 hown hC hP (ow_q0_0) rfl rfl 12 (by decide) (hts _ lk_X3_found_2) rfl rfl dX3_found_13 ?_
      refine lv_iload_n hx hb dX3_found_16 rfl (lv_at hl 1 rfl) ?_
      refine og_iald (g := 9) (i := 2) (j := x1.toNatClampNeg) (v := (st.1 111 x1.toNatClampNeg)) hx hb hC hP (ow_q9_2) rfl (fs_in hf c_1 c_2) rfl rfl dX3_found_17 ?_
      refine lv_goto (tgt := 23) hx hb dX3_found_18 (by decide) ?_
      exact W.iret (v := (st.1 111 x1.toNatClampNeg)) hx hb hr (fun t ht hW => ⟨⟨(st.1 111 x1.toNatClampNeg), st, rfl, ⟨(by simp only [fX3_found, if_neg c_1, if_neg c_2]), rfl⟩, ow_Bi ht hP⟩, hS.F ht⟩) hS.2.2 dX3_found_23

theorem li_X3_count_X3 : ∀ w ∈ u_ws RX3 TX3 14, w ∈ wsX3_count := by decide +kernel
theorem lk_X3_count_1 : (.fieldLink RX3 45 "RecordLabels" "nodeTable" "LRecordLabels$Table;" : Cond) ∈ wsX3_count := by decide +kernel
theorem ln_X3_count_2 : (.fieldLinkNest RX3 164 "RecordLabels$Table" "size" "I" "RecordLabels" : Cond) ∈ ow_nest := by decide +kernel
theorem li_X3_count_X2 : ∀ w ∈ u_ws RX2 TX2 5, w ∈ wsX3_count := by decide +kernel
theorem lk_X3_count_4 : (.fieldLink RX3 49 "RecordLabels" "arcTable" "LRecordLabels$Table;" : Cond) ∈ wsX3_count := by decide +kernel
theorem lk_X3_count_5 : (.fieldLink RX3 56 "RecordLabels" "ruleFailures" "I" : Cond) ∈ wsX3_count := by decide +kernel
theorem lk_X3_count_6 : (.fieldLink RX3 60 "RecordLabels" "wrongRecords" "I" : Cond) ∈ wsX3_count := by decide +kernel
def fX3_count (st : ow_St) (x1 : Int32) : Int32 := (if x1 = 0 then (st.1 4 0) else (if x1 = 1 then (st.1 4 1) else (if x1 = 2 then (st.1 0 0) else (if x1 = 3 then (st.1 0 1) else (-1)))))
set_option maxHeartbeats 4000000 in
set_option maxRecDepth 100000 in
theorem kX3_count (l : Launch) (D : va_G) (ca : Nat → ClassId) (ad : ow_Ad) (A : Nat → Prop) (st : ow_St) (x1 : Int32) : Met l yX3_count wsX3_count ({ frames := 0, cells := 0, slots := 0, locals := 0 }) (va_Pc [.ref (ad 0 0), .int x1] (ow_W D ca ad A st)) (va_Qi (fun r st' => r = (fX3_count st x1) ∧ st' = st) (ow_B D ca ad) A) 0 0 A := by
  refine Met.ofW (cc := cX3_count) (maxL := 2) (ret := (some .int)) (by decide) rfl ?_
  intro p e s m args below meth c s₁ B hml hv
  obtain ⟨rfl, hP, hC⟩ := hv
  have hx := B.exec
  have hb := B.bytes
  have hr := B.returns
  have hts := atoms_spec (ws := wsX3_count) B.pre
  have hown : s.vm.findClass RX3 = some m.cls := findClass_of_methodNamed B.named
  have hlocks := B.notSynchronized
  have hS : va_S A s.heap s.heap [] := va_S.rf
  have hl := lv_entry ([.ref (ad 0 0), .int x1]) (n := 2) (Nat.le_of_ble_eq_true rfl)
  rw [lg_entry_eq]
  generalize (lg_sl ([.ref (ad 0 0), .int x1]) ++ List.replicate (2 - (lg_sl ([.ref (ad 0 0), .int x1])).length) Slot.unset).toArray = ls at hl ⊢
  have hl : lv_has ls 2 [(0, .ref (ad 0 0)), (1, .int x1)] := hl
  refine lv_iload_n hx hb dX3_count_0 rfl (lv_at hl 1 rfl) ?_
  by_cases c_1 : x1 = 0
  · refine lv_tableIn (tgt := 32) (off := 31) hx hb dX3_count_1 (by rw [c_1]; decide) (by rw [c_1]; decide) (by rw [c_1]; rfl) (by decide) ?_
    refine lv_aload_n hx hb dX3_count_32 rfl (lv_at hl 0 rfl) ?_
    refine og_get (C := RX3) (T := TX3) (N := 14) (g := 0) (i := 0) (v := .ref (ad 6 0)) hx hb hts li_X3_count_X3 hown hC hP (ow_q0_0) rfl rfl 4 (by decide) (hts _ lk_X3_count_1) rfl rfl dX3_count_33 ?_
    refine og_getN (C := RX2) (T := TX2) (N := 5) (g := 6) (i := 0) (v := .int (st.1 4 0)) hx hb hts li_X3_count_X2 hown hC hP (ow_q6_0) rfl rfl 4 (by decide) ln_X3_count_2 rfl rfl dX3_count_36 ?_
    exact W.iret (v := (st.1 4 0)) hx hb hr (fun t ht hW => ⟨⟨(st.1 4 0), st, rfl, ⟨(by simp only [fX3_count, if_pos c_1]), rfl⟩, ow_Bi ht hP⟩, hS.F ht⟩) hS.2.2 dX3_count_39
  · by_cases c_2 : x1 = 1
    · refine lv_tableIn (tgt := 40) (off := 39) hx hb dX3_count_1 (by rw [c_2]; decide) (by rw [c_2]; decide) (by rw [c_2]; rfl) (by decide) ?_
      refine lv_aload_n hx hb dX3_count_40 rfl (lv_at hl 0 rfl) ?_
      refine og_get (C := RX3) (T := TX3) (N := 14) (g := 0) (i := 0) (v := .ref (ad 6 1)) hx hb hts li_X3_count_X3 hown hC hP (ow_q0_0) rfl rfl 5 (by decide) (hts _ lk_X3_count_4) rfl rfl dX3_count_41 ?_
      refine og_getN (C := RX2) (T := TX2) (N := 5) (g := 6) (i := 1) (v := .int (st.1 4 1)) hx hb hts li_X3_count_X2 hown hC hP (ow_q6_1) rfl rfl 4 (by decide) ln_X3_count_2 rfl rfl dX3_count_44 ?_
      exact W.iret (v := (st.1 4 1)) hx hb hr (fun t ht hW => ⟨⟨(st.1 4 1), st, rfl, ⟨(by simp only [fX3_count, if_neg c_1, if_pos c_2]), rfl⟩, ow_Bi ht hP⟩, hS.F ht⟩) hS.2.2 dX3_count_47
    · by_cases c_3 : x1 = 2
      · refine lv_tableIn (tgt := 48) (off := 47) hx hb dX3_count_1 (by rw [c_3]; decide) (by rw [c_3]; decide) (by rw [c_3]; rfl) (by decide) ?_
        refine lv_aload_n hx hb dX3_count_48 rfl (lv_at hl 0 rfl) ?_
        refine og_get (C := RX3) (T := TX3) (N := 14) (g := 0) (i := 0) (v := .int (st.1 0 0)) hx hb hts li_X3_count_X3 hown hC hP (ow_q0_0) rfl rfl 7 (by decide) (hts _ lk_X3_count_5) rfl rfl dX3_count_49 ?_
        exact W.iret (v := (st.1 0 0)) hx hb hr (fun t ht hW => ⟨⟨(st.1 0 0), st, rfl, ⟨(by simp only [fX3_count, if_neg c_1, if_neg c_2, if_pos c_3]), rfl⟩, ow_Bi ht hP⟩, hS.F ht⟩) hS.2.2 dX3_count_52
      · by_cases c_4 : x1 = 3
        · refine lv_tableIn (tgt := 53) (off := 52) hx hb dX3_count_1 (by rw [c_4]; decide) (by rw [c_4]; decide) (by rw [c_4]; rfl) (by decide) ?_
          refine lv_aload_n hx hb dX3_count_53 rfl (lv_at hl 0 rfl) ?_
          refine og_get (C := RX3) (T := TX3) (N := 14) (g := 0) (i := 0) (v := .int (st.1 0 1)) hx hb hts li_X3_count_X3 hown hC hP (ow_q0_0) rfl rfl 8 (by decide) (hts _ lk_X3_count_6) rfl rfl dX3_count_54 ?_
          exact W.iret (v := (st.1 0 1)) hx hb hr (fun t ht hW => ⟨⟨(st.1 0 1), st, rfl, ⟨(by simp only [fX3_count, if_neg c_1, if_neg c_2, if_neg c_3, if_pos c_4]), rfl⟩, ow_Bi ht hP⟩, hS.F ht⟩) hS.2.2 dX3_count_57
        · refine lv_tableOut (tgt := 58) hx hb dX3_count_1 (by have h0 := ow_ne (n := 0) 0 rfl c_1; have h1 := ow_ne (n := 1) 1 rfl c_2; have h2 := ow_ne (n := 2) 2 rfl c_3; have h3 := ow_ne (n := 3) 3 rfl c_4; omega) (by decide) ?_
          refine lv_iconst (v := (-1)) hx hb dX3_count_58 (by decide) ?_
          exact W.iret (v := (-1)) hx hb hr (fun t ht hW => ⟨⟨(-1), st, rfl, ⟨(by simp only [fX3_count, if_neg c_1, if_neg c_2, if_neg c_3, if_neg c_4]), rfl⟩, ow_Bi ht hP⟩, hS.F ht⟩) hS.2.2 dX3_count_59
end
