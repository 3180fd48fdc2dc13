theorem wsL_in_1 : ∀ w ∈ wsL_law_r1, w ∈ lw_tbl := by decide +kernel
theorem wsL_in_2 : ∀ w ∈ wsL_law_r2, w ∈ lw_tbl := by decide +kernel
theorem wsL_in_3 : ∀ w ∈ wsL_law_r3, w ∈ lw_tbl := by decide +kernel
theorem wsL_in_4 : ∀ w ∈ wsL_law_r4, w ∈ lw_tbl := by decide +kernel
theorem wsL_in_5 : ∀ w ∈ wsL_law_r5, w ∈ lw_tbl := by decide +kernel
theorem wsL_in_6 : ∀ w ∈ wsL_law_r6, w ∈ lw_tbl := by decide +kernel
theorem wsL_in_7 : ∀ w ∈ wsL_law_r7, w ∈ lw_tbl := by decide +kernel
theorem wsL_in_8 : ∀ w ∈ wsL_law_r8, w ∈ lw_tbl := by decide +kernel
theorem wsL_in_9 : ∀ w ∈ wsL_law_r9, w ∈ lw_tbl := by decide +kernel
theorem wsL_in_10 : ∀ w ∈ wsL_law_r10, w ∈ lw_tbl := by decide +kernel
theorem wsL_in_11 : ∀ w ∈ wsL_law_r11, w ∈ lw_tbl := by decide +kernel
theorem wsL_in_12 : ∀ w ∈ wsL_law_r12, w ∈ lw_tbl := by decide +kernel
theorem wsL_in_13 : ∀ w ∈ wsL_law_r13, w ∈ lw_tbl := by decide +kernel
theorem wsL_in_14 : ∀ w ∈ wsL_law_r14, w ∈ lw_tbl := by decide +kernel
theorem wsL_in_15 : ∀ w ∈ wsL_law_r15, w ∈ lw_tbl := by decide +kernel
theorem wsL_in_16 : ∀ w ∈ wsL_law_r16, w ∈ lw_tbl := by decide +kernel
theorem wsL_in_17 : ∀ w ∈ wsL_law_r17, w ∈ lw_tbl := by decide +kernel
theorem wsL_in_18 : ∀ w ∈ wsL_law_r18, w ∈ lw_tbl := by decide +kernel
theorem wsL_in_19 : ∀ w ∈ wsL_law_r19, w ∈ lw_tbl := by decide +kernel
theorem wsL_in_20 : ∀ w ∈ wsL_law_r20, w ∈ lw_tbl := by decide +kernel
theorem wsL_inx_3 : ∀ w ∈ wsX30, w ∈ lw_tbl := by decide +kernel
theorem wsL_inx_4 : ∀ w ∈ wsX40, w ∈ lw_tbl := by decide +kernel
theorem wsL_inx_0 : ∀ w ∈ wsX00, w ∈ lw_tbl := by decide +kernel
theorem wsL_inx_2 : ∀ w ∈ wsX20, w ∈ lw_tbl := by decide +kernel
theorem wsL_inx_1 : ∀ w ∈ wsX10, w ∈ lw_tbl := by decide +kernel
theorem wsL_law_in : ∀ w ∈ wsL_law, w ∈ lw_tbl := List.forall_mem_append.mpr ⟨List.forall_mem_append.mpr ⟨List.forall_mem_append.mpr ⟨List.forall_mem_append.mpr ⟨List.forall_mem_append.mpr ⟨List.forall_mem_append.mpr ⟨List.forall_mem_append.mpr ⟨wsL_in_1, List.forall_mem_append.mpr ⟨wsL_in_2, List.forall_mem_append.mpr ⟨wsL_in_3, List.forall_mem_append.mpr ⟨wsL_in_4, List.forall_mem_append.mpr ⟨wsL_in_5, List.forall_mem_append.mpr ⟨wsL_in_6, List.forall_mem_append.mpr ⟨wsL_in_7, List.forall_mem_append.mpr ⟨wsL_in_8, List.forall_mem_append.mpr ⟨wsL_in_9, List.forall_mem_append.mpr ⟨wsL_in_10, List.forall_mem_append.mpr ⟨wsL_in_11, List.forall_mem_append.mpr ⟨wsL_in_12, List.forall_mem_append.mpr ⟨wsL_in_13, List.forall_mem_append.mpr ⟨wsL_in_14, List.forall_mem_append.mpr ⟨wsL_in_15, List.forall_mem_append.mpr ⟨wsL_in_16, List.forall_mem_append.mpr ⟨wsL_in_17, List.forall_mem_append.mpr ⟨wsL_in_18, List.forall_mem_append.mpr ⟨wsL_in_19, wsL_in_20⟩⟩⟩⟩⟩⟩⟩⟩⟩⟩⟩⟩⟩⟩⟩⟩⟩⟩⟩, wsL_inx_3⟩, wsL_inx_4⟩, wsL_inx_0⟩, wsL_inx_2⟩, wsL_inx_1⟩, fun _ h => absurd h List.not_mem_nil⟩
theorem inlX0 : ∀ w ∈ wsX00, w ∈ wsL_law := fun _ h => List.mem_append_left _ (List.mem_append_left _ (List.mem_append_left _ (List.mem_append_right _ h)))
theorem inX0 : ∀ w ∈ wsX00, w ∈ lw_tbl := fun w h => wsL_law_in w (inlX0 w h)
theorem inlX1 : ∀ w ∈ wsX10, w ∈ wsL_law := fun _ h => List.mem_append_left _ (List.mem_append_right _ h)
theorem inX1 : ∀ w ∈ wsX10, w ∈ lw_tbl := fun w h => wsL_law_in w (inlX1 w h)
theorem inlX2 : ∀ w ∈ wsX20, w ∈ wsL_law := fun _ h => List.mem_append_left _ (List.mem_append_left _ (List.mem_append_right _ h))
theorem inX2 : ∀ w ∈ wsX20, w ∈ lw_tbl := fun w h => wsL_law_in w (inlX2 w h)
theorem inlX3 : ∀ w ∈ wsX30, w ∈ wsL_law := fun _ h => List.mem_append_left _ (List.mem_append_left _ (List.mem_append_left _ (List.mem_append_left _ (List.mem_append_left _ (List.mem_append_right _ h)))))
theorem inX3 : ∀ w ∈ wsX30, w ∈ lw_tbl := fun w h => wsL_law_in w (inlX3 w h)
theorem inlX4 : ∀ w ∈ wsX40, w ∈ wsL_law := fun _ h => List.mem_append_left _ (List.mem_append_left _ (List.mem_append_left _ (List.mem_append_left _ (List.mem_append_right _ h))))
theorem inX4 : ∀ w ∈ wsX40, w ∈ lw_tbl := fun w h => wsL_law_in w (inlX4 w h)
theorem inJ6 : ∀ w ∈ wsJ60, w ∈ lw_tbl := by decide +kernel
