theorem eq_cell_0 {st : ow_St} (h : RLs st) (x2 x3 : Int32) : fX3_cell st 0 x2 x3 = fX4_cell_0 st x2 x3 := sorry
theorem eq_cell_1 {st : ow_St} (h : RLs st) (x2 x3 : Int32) : fX3_cell st 1 x2 x3 = fX4_cell_1 st x2 x3 := sorry
theorem eq_cell_n {st : ow_St} (h : RLs st) (x1 x2 x3 : Int32) (hn0 : ¬ x1 = 0) (hn1 : ¬ x1 = 1) : fX3_cell st x1 x2 x3 = fX4_cell_n st x1 x2 x3 := sorry
theorem eq_part_0 {st : ow_St} (h : RLs st) (x1 : Int32) (hp : st.2.2 0 = 1) : fX3_part_0 st x1 = fX4_part_0 st x1 := sorry
theorem eq_part_1 {st : ow_St} (h : RLs st) (x1 : Int32) (hp : st.2.2 0 = 2) : fX3_part_1 st x1 = fX4_part_1 st x1 := sorry
theorem mk_record_0 {st : ow_St} (h : RLs st) (x2 x3 x4 x5 : Int32) : sameM st (fX3_record st 0 x2 x3 x4 x5).2 := sorry
theorem eq_record_0 {st : ow_St} (h : RLs st) (x2 x3 x4 x5 : Int32) : (fX3_record st 0 x2 x3 x4 x5).1 = (fX4_record_0 (fX3_record st 0 x2 x3 x4 x5).2 x2 x3 x4 x5).1 ∧ RLs (fX4_record_0 (fX3_record st 0 x2 x3 x4 x5).2 x2 x3 x4 x5).2 := sorry
theorem mk_lay_0 {st : ow_St} (h : RLs st) (x2 x3 x4 : Int32) : sameM st (fX3_lay st 0 x2 x3 x4).2 := sorry
theorem eq_lay_0 {st : ow_St} (h : RLs st) (x2 x3 x4 : Int32) : (fX3_lay st 0 x2 x3 x4).1 = (fX4_lay_0 (fX3_lay st 0 x2 x3 x4).2 x2 x3 x4).1 ∧ RLs (fX4_lay_0 (fX3_lay st 0 x2 x3 x4).2 x2 x3 x4).2 := sorry
theorem mk_back_0 {st : ow_St} (h : RLs st) (x2 : Int32) : sameM st (fX3_back st 0 x2).2 := sorry
theorem eq_back_0 {st : ow_St} (h : RLs st) (x2 : Int32) : (fX3_back st 0 x2).1 = (fX4_back_0 (fX3_back st 0 x2).2 x2).1 ∧ RLs (fX4_back_0 (fX3_back st 0 x2).2 x2).2 := sorry
theorem mk_filter_0 {st : ow_St} (h : RLs st) (x2 x3 x4 x5 : Int32) : sameM st (fX3_filter_0 st x2 x3 x4 x5).2 := sorry
theorem eq_filter_0 {st : ow_St} (h : RLs st) (x2 x3 x4 x5 : Int32) : (fX3_filter_0 st x2 x3 x4 x5).1 = (fX4_filter_0 (fX3_filter_0 st x2 x3 x4 x5).2 x2 x3 x4 x5).1 ∧ RLs (fX4_filter_0 (fX3_filter_0 st x2 x3 x4 x5).2 x2 x3 x4 x5).2 := sorry
theorem mk_sum_0 {st : ow_St} (h : RLs st)  : sameM st (fX3_sum_0 st).2 := sorry
theorem eq_sum_0 {st : ow_St} (h : RLs st)  : (fX3_sum_0 st).1 = (fX4_sum_0 (fX3_sum_0 st).2 ).1 ∧ RLs (fX4_sum_0 (fX3_sum_0 st).2 ).2 := sorry
theorem mk_record_1 {st : ow_St} (h : RLs st) (x2 x3 x4 x5 : Int32) : sameM st (fX3_record st 1 x2 x3 x4 x5).2 := sorry
theorem eq_record_1 {st : ow_St} (h : RLs st) (x2 x3 x4 x5 : Int32) : (fX3_record st 1 x2 x3 x4 x5).1 = (fX4_record_1 (fX3_record st 1 x2 x3 x4 x5).2 x2 x3 x4 x5).1 ∧ RLs (fX4_record_1 (fX3_record st 1 x2 x3 x4 x5).2 x2 x3 x4 x5).2 := sorry
theorem mk_lay_1 {st : ow_St} (h : RLs st) (x2 x3 x4 : Int32) : sameM st (fX3_lay st 1 x2 x3 x4).2 := sorry
theorem eq_lay_1 {st : ow_St} (h : RLs st) (x2 x3 x4 : Int32) : (fX3_lay st 1 x2 x3 x4).1 = (fX4_lay_1 (fX3_lay st 1 x2 x3 x4).2 x2 x3 x4).1 ∧ RLs (fX4_lay_1 (fX3_lay st 1 x2 x3 x4).2 x2 x3 x4).2 := sorry
theorem mk_back_1 {st : ow_St} (h : RLs st) (x2 : Int32) : sameM st (fX3_back st 1 x2).2 := sorry
theorem eq_back_1 {st : ow_St} (h : RLs st) (x2 : Int32) : (fX3_back st 1 x2).1 = (fX4_back_1 (fX3_back st 1 x2).2 x2).1 ∧ RLs (fX4_back_1 (fX3_back st 1 x2).2 x2).2 := sorry
theorem mk_filter_1 {st : ow_St} (h : RLs st) (x2 x3 x4 x5 : Int32) : sameM st (fX3_filter_1 st x2 x3 x4 x5).2 := sorry
theorem eq_filter_1 {st : ow_St} (h : RLs st) (x2 x3 x4 x5 : Int32) : (fX3_filter_1 st x2 x3 x4 x5).1 = (fX4_filter_1 (fX3_filter_1 st x2 x3 x4 x5).2 x2 x3 x4 x5).1 ∧ RLs (fX4_filter_1 (fX3_filter_1 st x2 x3 x4 x5).2 x2 x3 x4 x5).2 := sorry
theorem mk_sum_1 {st : ow_St} (h : RLs st)  : sameM st (fX3_sum_1 st).2 := sorry
theorem eq_sum_1 {st : ow_St} (h : RLs st)  : (fX3_sum_1 st).1 = (fX4_sum_1 (fX3_sum_1 st).2 ).1 ∧ RLs (fX4_sum_1 (fX3_sum_1 st).2 ).2 := sorry
theorem mk_record_n {st : ow_St} (h : RLs st) (x1 x2 x3 x4 x5 : Int32) (hn0 : ¬ x1 = 0) (hn1 : ¬ x1 = 1) : sameM st (fX3_record st x1 x2 x3 x4 x5).2 := sorry
theorem eq_record_n {st : ow_St} (h : RLs st) (x1 x2 x3 x4 x5 : Int32) (hn0 : ¬ x1 = 0) (hn1 : ¬ x1 = 1) : (fX3_record st x1 x2 x3 x4 x5).1 = (fX4_record_n (fX3_record st x1 x2 x3 x4 x5).2 x1 x2 x3 x4 x5).1 ∧ RLs (fX4_record_n (fX3_record st x1 x2 x3 x4 x5).2 x1 x2 x3 x4 x5).2 := sorry
theorem mk_lay_n {st : ow_St} (h : RLs st) (x1 x2 x3 x4 : Int32) (hn0 : ¬ x1 = 0) (hn1 : ¬ x1 = 1) : sameM st (fX3_lay st x1 x2 x3 x4).2 := sorry
theorem eq_lay_n {st : ow_St} (h : RLs st) (x1 x2 x3 x4 : Int32) (hn0 : ¬ x1 = 0) (hn1 : ¬ x1 = 1) : (fX3_lay st x1 x2 x3 x4).1 = (fX4_lay_n (fX3_lay st x1 x2 x3 x4).2 x1 x2 x3 x4).1 ∧ RLs (fX4_lay_n (fX3_lay st x1 x2 x3 x4).2 x1 x2 x3 x4).2 := sorry
theorem mk_back_n {st : ow_St} (h : RLs st) (x1 x2 : Int32) (hn0 : ¬ x1 = 0) (hn1 : ¬ x1 = 1) : sameM st (fX3_back st x1 x2).2 := sorry
theorem eq_back_n {st : ow_St} (h : RLs st) (x1 x2 : Int32) (hn0 : ¬ x1 = 0) (hn1 : ¬ x1 = 1) : (fX3_back st x1 x2).1 = (fX4_back_n (fX3_back st x1 x2).2 x1 x2).1 ∧ RLs (fX4_back_n (fX3_back st x1 x2).2 x1 x2).2 := sorry
theorem mk_filter_n {st : ow_St} (h : RLs st) (x1 x2 x3 x4 x5 : Int32) (hn0 : ¬ x1 = 0) (hn1 : ¬ x1 = 1) : sameM st (fX3_filter_n st x1 x2 x3 x4 x5).2 := sorry
theorem eq_filter_n {st : ow_St} (h : RLs st) (x1 x2 x3 x4 x5 : Int32) (hn0 : ¬ x1 = 0) (hn1 : ¬ x1 = 1) : (fX3_filter_n st x1 x2 x3 x4 x5).1 = (fX4_filter_n (fX3_filter_n st x1 x2 x3 x4 x5).2 x1 x2 x3 x4 x5).1 ∧ RLs (fX4_filter_n (fX3_filter_n st x1 x2 x3 x4 x5).2 x1 x2 x3 x4 x5).2 := sorry
theorem mk_sum_n {st : ow_St} (h : RLs st) (x1 : Int32) (hn0 : ¬ x1 = 0) (hn1 : ¬ x1 = 1) : sameM st (fX3_sum_n st x1).2 := sorry
theorem eq_sum_n {st : ow_St} (h : RLs st) (x1 : Int32) (hn0 : ¬ x1 = 0) (hn1 : ¬ x1 = 1) : (fX3_sum_n st x1).1 = (fX4_sum_n (fX3_sum_n st x1).2 x1).1 ∧ RLs (fX4_sum_n (fX3_sum_n st x1).2 x1).2 := sorry
