theorem en_begin {b : Nat} {s : State} (hts0 : ∀ w ∈ lw_tbl, w.before #[Value.ref b] s = true) (hgv : (Jvm.Cond.and given_1 narrow_1).before #[Value.ref b] s = true) : ∃ (D : va_G) (ca : Nat → ClassId) (t0 t1 t2 t3 : Nat), va_K D vwCl (ow_ty ca) s ∧ ct_S (fun q : Nat => s.heap.size ≤ q) t0 t1 t2 s ∧ va_Z "RecordLabels" "WITHIN_ITEMS" "[J" (.ref t3) (fun q : Nat => s.heap.size ≤ q) s s.heap ∧ va_T .long t3 3 (fun j => .long (ow_wi j)) (fun q : Nat => s.heap.size ≤ q) s s.heap := by
  have hts : ∀ w ∈ wsL_law, w.before #[Value.ref b] s = true := fun w h => hts0 w (wsL_law_in w h)
  have hAO : va_AO "RecordLabels$LabelSet" s := hts0 (.arrayOver (.object "RecordLabels$LabelSet")) (by decide +kernel)
  have hAOA : va_AOA .int s := hts0 (.arrayOver (.array .int)) (by decide +kernel)
  obtain ⟨D, ca, hK⟩ := en_K hts hAO hAOA
  have hini : (Cond.initialized "RecordLabels").before #[Value.ref b] s = true := hts (.initialized RX3) (by decide +kernel)
  obtain ⟨t0, hZ0, hT0⟩ := en_t0 hgv (hts0 (.laysStatic "RecordLabels" "NODE_NAMES" "[J") (by decide +kernel)) hini
  obtain ⟨t1, hZ1, hT1⟩ := en_t1 hgv (hts0 (.laysStatic "RecordLabels" "ARC_NAMES" "[J") (by decide +kernel)) hini
  obtain ⟨t2, hZ2, hT2⟩ := en_t2 hgv (hts0 (.laysStatic "RecordLabels" "SIGN_NAMES" "[J") (by decide +kernel)) hini
  obtain ⟨t3, hZ3, hT3⟩ := en_t3 hgv (hts0 (.laysStatic "RecordLabels" "WITHIN_ITEMS" "[J") (by decide +kernel)) hini
  exact ⟨D, ca, t0, t1, t2, t3, hK, ⟨hZ0, hZ1, hZ2, hT0, hT1, hT2, fun w hw => va_Nw.of (en_nest w hw).2 (hts0 w (en_nest w hw).1), hAO, hAOA⟩, hZ3, hT3⟩
