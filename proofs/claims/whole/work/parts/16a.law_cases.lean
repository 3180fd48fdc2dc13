
section OLW
variable {p : Program} {l : Launch} {e : Env} {R : Room} {s : State} {m : MethodId} {args : Array Value} {below : List Frame} {meth : Method} {c : Code} {H : Heap} {locs : List Loc} {cells slots : Nat} {Q : State → Prop}
variable {cc : ByteArray} {pc : Nat} {ls : Array Slot} {rest : List Value} {A : Nat → Prop}
theorem og_sld (hx : p.tables.exec = Jvm.exec) (hb : c.code = cc) {b L j : Nat} {xs : Nat → Int32} (hX : va_X b L xs s s.heap) (hbl : b < s.heap.size) (hbA : ¬ A b) (hS : va_S A s.heap H locs) (hj : j < L) (hL : L < 2 ^ 31) {v : Int32} (hv : xs j = v) (hdg : decode cc pc = .ok (.iaload, 1))
    (kk : W p l e R s m args below meth c H locs cells slots Q (F0 m (pc + 1) ls (.int v :: rest))) : W p l e R s m args below meth c H locs cells slots Q (F0 m pc ls (.int (nI j) :: .ref b :: rest)) := by
  refine va_sld hx hb hX hbl hbA hS (vp_in_nI hj hL) hdg ?_
  rw [nI_clamp (by omega), hv]
  exact kk
end OLW

set_option maxHeartbeats 4000000 in
set_option maxRecDepth 100000 in
theorem lawc_0 {p : Program} {l : Launch} {e : Env} {s : State} {m : MethodId} {below : List Frame} {meth : Method} {c : Code} {D : va_G} {ca : Nat → ClassId} {ad : ow_Ad} {b L : Nat} {xs : Nat → Int32} {Q : State → Prop} {A : Nat → Prop} (hx : p.tables.exec = Jvm.exec) (hb : c.code = cL_law) (hml : c.maxLocals = 4) (hown : s.vm.findClass RL = some m.cls) (hts : ∀ w ∈ wsL_law, w.before #[Value.ref b] s = true) (hC : ow_C D ca ad A s) (hbA : ¬ A b) (hX : va_X b L xs s s.heap) (hbl : b < s.heap.size) (hL : L ≤ 3072) {st : ow_St} {i : Nat} {H : Heap} {locs : List Loc} {ls : Array Slot} (hi : i + 6 ≤ L) (h : RLs st)  (hP : va_P D vwCl (ow_ws ad (ow_c ca ad st)) H) (hS : va_S A s.heap H locs) (hl : lv_has ls 4 [(0, .ref b), (1, .ref (ad 0 0)), (2, .ref (ad 10 0)), (3, .int (nI i))]) (K : ∀ (st : ow_St) (H : Heap) (locs : List Loc) (ls : Array Slot), RLs st → va_P D vwCl (ow_ws ad (ow_c ca ad st)) H → va_S A s.heap H locs → lv_has ls 4 [(0, .ref b), (1, .ref (ad 0 0)), (2, .ref (ad 10 0)), (3, .int (nI i))] → W p l e room_1 s m #[Value.ref b] below meth c H locs 600000 7302250 Q (F0 m 990 ls [])) : W p l e room_1 s m #[Value.ref b] below meth c H locs 600000 7302250 Q (F0 m 132 ls []) := by
  refine lv_aload_n hx hb dL_law_132 rfl (lv_at hl 1 rfl) ?_
  refine lv_aload_n hx hb dL_law_133 rfl (lv_at hl 0 rfl) ?_
  refine lv_iload_n hx hb dL_law_134 rfl (lv_at hl 3 rfl) ?_
  refine lv_iconst (v := 1) hx hb dL_law_135 (by decide) ?_
  refine lv_iadd hx hb dL_law_136 ?_
  rw [show nI i + (1 : Int32) = nI (i + 1) from nI_add i 1]
  refine og_sld (j := i + 1) (v := (xs (i + 1))) hx hb hX hbl hbA hS (by omega) (by omega) rfl dL_law_137 ?_
  refine lv_aload_n hx hb dL_law_138 rfl (lv_at hl 0 rfl) ?_
  refine lv_iload_n hx hb dL_law_139 rfl (lv_at hl 3 rfl) ?_
  refine lv_iconst (v := 2) hx hb dL_law_140 (by decide) ?_
  refine lv_iadd hx hb dL_law_141 ?_
  rw [show nI i + (2 : Int32) = nI (i + 2) from nI_add i 2]
  refine og_sld (j := i + 2) (v := (xs (i + 2))) hx hb hX hbl hbA hS (by omega) (by omega) rfl dL_law_142 ?_
  refine lv_i2l (v := (xs (i + 2)).toInt64) hx hb dL_law_143 rfl ?_
  refine lv_bipush (v := 32) hx hb dL_law_144 (by decide) ?_
  refine lv_lshl (v := ((xs (i + 2)).toInt64) <<< ((32 : Int32).toInt64 &&& 63)) hx hb dL_law_146 rfl ?_
  refine lv_aload_n hx hb dL_law_147 rfl (lv_at hl 0 rfl) ?_
  refine lv_iload_n hx hb dL_law_148 rfl (lv_at hl 3 rfl) ?_
  refine lv_iconst (v := 3) hx hb dL_law_149 (by decide) ?_
  refine lv_iadd hx hb dL_law_150 ?_
  rw [show nI i + (3 : Int32) = nI (i + 3) from nI_add i 3]
  refine og_sld (j := i + 3) (v := (xs (i + 3))) hx hb hX hbl hbA hS (by omega) (by omega) rfl dL_law_151 ?_
  refine lv_i2l (v := (xs (i + 3)).toInt64) hx hb dL_law_152 rfl ?_
  refine lv_ldc2 (v := 4294967295) hx hb hown (hts _ (by decide +kernel)) dL_law_153 ?_
  refine lv_land hx hb dL_law_156 ?_
  refine lv_lor hx hb dL_law_157 ?_
  refine og_ciP (og_runV (C := RX3) (T := TX3) (N := 14) (g := 0) (i := 0) (As := [.int (xs (i + 1)), .long ((((xs (i + 2)).toInt64) <<< ((32 : Int32).toInt64 &&& 63)) ||| (((xs (i + 3)).toInt64) &&& 4294967295))]) (rest := []) ⟨hx, hb, hml, hown, hts⟩ (kX3_code l D ca ad A st (xs (i + 1)) ((((xs (i + 2)).toInt64) <<< ((32 : Int32).toInt64 &&& 63)) ||| (((xs (i + 3)).toInt64) &&& 4294967295))) (cwV 2 hts gL_law_X3_code rfl rfl rfl (by decide +kernel) ⟨Nat.le_of_ble_eq_true rfl, Nat.le_of_ble_eq_true rfl⟩) hC hP hS (ow_q0_0) rfl rfl rfl hl.1 rfl (Nat.le_of_ble_eq_true rfl) dL_law_158 ⟨Nat.le_refl _, Nat.le_refl _⟩) hS (fun H locs hP hS => ?_)
  refine lv_aload_n hx hb dL_law_161 rfl (lv_at hl 2 rfl) ?_
  refine lv_aload_n hx hb dL_law_162 rfl (lv_at hl 0 rfl) ?_
  refine lv_iload_n hx hb dL_law_163 rfl (lv_at hl 3 rfl) ?_
  refine lv_iconst (v := 1) hx hb dL_law_164 (by decide) ?_
  refine lv_iadd hx hb dL_law_165 ?_
  rw [show nI i + (1 : Int32) = nI (i + 1) from nI_add i 1]
  refine og_sld (j := i + 1) (v := (xs (i + 1))) hx hb hX hbl hbA hS (by omega) (by omega) rfl dL_law_166 ?_
  refine lv_aload_n hx hb dL_law_167 rfl (lv_at hl 0 rfl) ?_
  refine lv_iload_n hx hb dL_law_168 rfl (lv_at hl 3 rfl) ?_
  refine lv_iconst (v := 2) hx hb dL_law_169 (by decide) ?_
  refine lv_iadd hx hb dL_law_170 ?_
  rw [show nI i + (2 : Int32) = nI (i + 2) from nI_add i 2]
  refine og_sld (j := i + 2) (v := (xs (i + 2))) hx hb hX hbl hbA hS (by omega) (by omega) rfl dL_law_171 ?_
  refine lv_i2l (v := (xs (i + 2)).toInt64) hx hb dL_law_172 rfl ?_
  refine lv_bipush (v := 32) hx hb dL_law_173 (by decide) ?_
  refine lv_lshl (v := ((xs (i + 2)).toInt64) <<< ((32 : Int32).toInt64 &&& 63)) hx hb dL_law_175 rfl ?_
  refine lv_aload_n hx hb dL_law_176 rfl (lv_at hl 0 rfl) ?_
  refine lv_iload_n hx hb dL_law_177 rfl (lv_at hl 3 rfl) ?_
  refine lv_iconst (v := 3) hx hb dL_law_178 (by decide) ?_
  refine lv_iadd hx hb dL_law_179 ?_
  rw [show nI i + (3 : Int32) = nI (i + 3) from nI_add i 3]
  refine og_sld (j := i + 3) (v := (xs (i + 3))) hx hb hX hbl hbA hS (by omega) (by omega) rfl dL_law_180 ?_
  refine lv_i2l (v := (xs (i + 3)).toInt64) hx hb dL_law_181 rfl ?_
  refine lv_ldc2 (v := 4294967295) hx hb hown (hts _ (by decide +kernel)) dL_law_182 ?_
  refine lv_land hx hb dL_law_185 ?_
  refine lv_lor hx hb dL_law_186 ?_
  refine og_ciP (og_runV (C := RX4) (T := TX4) (N := 19) (g := 10) (i := 0) (As := [.int (xs (i + 1)), .long ((((xs (i + 2)).toInt64) <<< ((32 : Int32).toInt64 &&& 63)) ||| (((xs (i + 3)).toInt64) &&& 4294967295))]) (rest := [.int (fX3_code st (xs (i + 1)) ((((xs (i + 2)).toInt64) <<< ((32 : Int32).toInt64 &&& 63)) ||| (((xs (i + 3)).toInt64) &&& 4294967295)))]) ⟨hx, hb, hml, hown, hts⟩ (kX4_code l D ca ad A st (xs (i + 1)) ((((xs (i + 2)).toInt64) <<< ((32 : Int32).toInt64 &&& 63)) ||| (((xs (i + 3)).toInt64) &&& 4294967295))) (cwV 2 hts gL_law_X4_code rfl rfl rfl (by decide +kernel) ⟨Nat.le_of_ble_eq_true rfl, Nat.le_of_ble_eq_true rfl⟩) hC hP hS (ow_q10_0) rfl rfl rfl hl.1 rfl (Nat.le_of_ble_eq_true rfl) dL_law_187 ⟨Nat.le_refl _, Nat.le_refl _⟩) hS (fun H locs hP hS => ?_)
  refine lv_icmp_eq (tgt := 990) hx hb dL_law_190 (by decide) (fun _ => ?_) (fun c => absurd (eq_code h (xs (i + 1)) ((((xs (i + 2)).toInt64) <<< ((32 : Int32).toInt64 &&& 63)) ||| (((xs (i + 3)).toInt64) &&& 4294967295))) c)
  exact K _ _ _ ls h hP hS hl

set_option maxHeartbeats 4000000 in
set_option maxRecDepth 100000 in
theorem lawc_1 {p : Program} {l : Launch} {e : Env} {s : State} {m : MethodId} {below : List Frame} {meth : Method} {c : Code} {D : va_G} {ca : Nat → ClassId} {ad : ow_Ad} {b L : Nat} {xs : Nat → Int32} {Q : State → Prop} {A : Nat → Prop} (hx : p.tables.exec = Jvm.exec) (hb : c.code = cL_law) (hml : c.maxLocals = 4) (hown : s.vm.findClass RL = some m.cls) (hts : ∀ w ∈ wsL_law, w.before #[Value.ref b] s = true) (hC : ow_C D ca ad A s) (hbA : ¬ A b) (hX : va_X b L xs s s.heap) (hbl : b < s.heap.size) (hL : L ≤ 3072) {st : ow_St} {i : Nat} {H : Heap} {locs : List Loc} {ls : Array Slot} (hi : i + 6 ≤ L) (h : RLs st)  (hP : va_P D vwCl (ow_ws ad (ow_c ca ad st)) H) (hS : va_S A s.heap H locs) (hl : lv_has ls 4 [(0, .ref b), (1, .ref (ad 0 0)), (2, .ref (ad 10 0)), (3, .int (nI i))]) (K : ∀ (st : ow_St) (H : Heap) (locs : List Loc) (ls : Array Slot), RLs st → va_P D vwCl (ow_ws ad (ow_c ca ad st)) H → va_S A s.heap H locs → lv_has ls 4 [(0, .ref b), (1, .ref (ad 0 0)), (2, .ref (ad 10 0)), (3, .int (nI i))] → W p l e room_1 s m #[Value.ref b] below meth c H locs 600000 7302250 Q (F0 m 990 ls [])) : W p l e room_1 s m #[Value.ref b] below meth c H locs 600000 7302250 Q (F0 m 195 ls []) := by
  refine lv_aload_n hx hb dL_law_195 rfl (lv_at hl 1 rfl) ?_
  refine lv_aload_n hx hb dL_law_196 rfl (lv_at hl 0 rfl) ?_
  refine lv_iload_n hx hb dL_law_197 rfl (lv_at hl 3 rfl) ?_
  refine lv_iconst (v := 1) hx hb dL_law_198 (by decide) ?_
  refine lv_iadd hx hb dL_law_199 ?_
  rw [show nI i + (1 : Int32) = nI (i + 1) from nI_add i 1]
  refine og_sld (j := i + 1) (v := (xs (i + 1))) hx hb hX hbl hbA hS (by omega) (by omega) rfl dL_law_200 ?_
  refine lv_aload_n hx hb dL_law_201 rfl (lv_at hl 0 rfl) ?_
  refine lv_iload_n hx hb dL_law_202 rfl (lv_at hl 3 rfl) ?_
  refine lv_iconst (v := 2) hx hb dL_law_203 (by decide) ?_
  refine lv_iadd hx hb dL_law_204 ?_
  rw [show nI i + (2 : Int32) = nI (i + 2) from nI_add i 2]
  refine og_sld (j := i + 2) (v := (xs (i + 2))) hx hb hX hbl hbA hS (by omega) (by omega) rfl dL_law_205 ?_
  refine og_clP (og_runV (C := RX3) (T := TX3) (N := 14) (g := 0) (i := 0) (As := [.int (xs (i + 1)), .int (xs (i + 2))]) (rest := []) ⟨hx, hb, hml, hown, hts⟩ (kX3_name l D ca ad A st (xs (i + 1)) (xs (i + 2)) (RL_con h)) (cwV 2 hts gL_law_X3_name rfl rfl rfl (by decide +kernel) ⟨Nat.le_of_ble_eq_true rfl, Nat.le_of_ble_eq_true rfl⟩) hC hP hS (ow_q0_0) rfl rfl rfl hl.1 rfl (Nat.le_of_ble_eq_true rfl) dL_law_206 ⟨Nat.le_refl _, Nat.le_refl _⟩) hS (fun H locs hP hS => ?_)
  refine lv_aload_n hx hb dL_law_209 rfl (lv_at hl 2 rfl) ?_
  refine lv_aload_n hx hb dL_law_210 rfl (lv_at hl 0 rfl) ?_
  refine lv_iload_n hx hb dL_law_211 rfl (lv_at hl 3 rfl) ?_
  refine lv_iconst (v := 1) hx hb dL_law_212 (by decide) ?_
  refine lv_iadd hx hb dL_law_213 ?_
  rw [show nI i + (1 : Int32) = nI (i + 1) from nI_add i 1]
  refine og_sld (j := i + 1) (v := (xs (i + 1))) hx hb hX hbl hbA hS (by omega) (by omega) rfl dL_law_214 ?_
  refine lv_aload_n hx hb dL_law_215 rfl (lv_at hl 0 rfl) ?_
  refine lv_iload_n hx hb dL_law_216 rfl (lv_at hl 3 rfl) ?_
  refine lv_iconst (v := 2) hx hb dL_law_217 (by decide) ?_
  refine lv_iadd hx hb dL_law_218 ?_
  rw [show nI i + (2 : Int32) = nI (i + 2) from nI_add i 2]
  refine og_sld (j := i + 2) (v := (xs (i + 2))) hx hb hX hbl hbA hS (by omega) (by omega) rfl dL_law_219 ?_
  refine og_clP (og_runV (C := RX4) (T := TX4) (N := 19) (g := 10) (i := 0) (As := [.int (xs (i + 1)), .int (xs (i + 2))]) (rest := [.long (fX3_name st (xs (i + 1)) (xs (i + 2)))]) ⟨hx, hb, hml, hown, hts⟩ (kX4_name l D ca ad A st (xs (i + 1)) (xs (i + 2)) (RL_mok h).1) (cwV 2 hts gL_law_X4_name rfl rfl rfl (by decide +kernel) ⟨Nat.le_of_ble_eq_true rfl, Nat.le_of_ble_eq_true rfl⟩) hC hP hS (ow_q10_0) rfl rfl rfl hl.1 rfl (Nat.le_of_ble_eq_true rfl) dL_law_220 ⟨Nat.le_refl _, Nat.le_refl _⟩) hS (fun H locs hP hS => ?_)
  refine W.lcmp hx hb dL_law_223 ?_
  refine lv_if_eq (tgt := 990) hx hb dL_law_224 (by decide) (fun _ => ?_) (fun c => absurd ((lg_cmp_eq _ _).mpr (eq_name h (xs (i + 1)) (xs (i + 2)))) c)
  exact K _ _ _ ls h hP hS hl

set_option maxHeartbeats 4000000 in
set_option maxRecDepth 100000 in
theorem lawc_2 {p : Program} {l : Launch} {e : Env} {s : State} {m : MethodId} {below : List Frame} {meth : Method} {c : Code} {D : va_G} {ca : Nat → ClassId} {ad : ow_Ad} {b L : Nat} {xs : Nat → Int32} {Q : State → Prop} {A : Nat → Prop} (hx : p.tables.exec = Jvm.exec) (hb : c.code = cL_law) (hml : c.maxLocals = 4) (hown : s.vm.findClass RL = some m.cls) (hts : ∀ w ∈ wsL_law, w.before #[Value.ref b] s = true) (hC : ow_C D ca ad A s) (hbA : ¬ A b) (hX : va_X b L xs s s.heap) (hbl : b < s.heap.size) (hL : L ≤ 3072) {st : ow_St} {i : Nat} {H : Heap} {locs : List Loc} {ls : Array Slot} (hi : i + 6 ≤ L) (h : RLs st)  (hP : va_P D vwCl (ow_ws ad (ow_c ca ad st)) H) (hS : va_S A s.heap H locs) (hl : lv_has ls 4 [(0, .ref b), (1, .ref (ad 0 0)), (2, .ref (ad 10 0)), (3, .int (nI i))]) (K : ∀ (st : ow_St) (H : Heap) (locs : List Loc) (ls : Array Slot), RLs st → va_P D vwCl (ow_ws ad (ow_c ca ad st)) H → va_S A s.heap H locs → lv_has ls 4 [(0, .ref b), (1, .ref (ad 0 0)), (2, .ref (ad 10 0)), (3, .int (nI i))] → W p l e room_1 s m #[Value.ref b] below meth c H locs 600000 7302250 Q (F0 m 990 ls [])) : W p l e room_1 s m #[Value.ref b] below meth c H locs 600000 7302250 Q (F0 m 229 ls []) := by
  refine lv_aload_n hx hb dL_law_229 rfl (lv_at hl 1 rfl) ?_
  refine lv_aload_n hx hb dL_law_230 rfl (lv_at hl 0 rfl) ?_
  refine lv_iload_n hx hb dL_law_231 rfl (lv_at hl 3 rfl) ?_
  refine lv_iconst (v := 1) hx hb dL_law_232 (by decide) ?_
  refine lv_iadd hx hb dL_law_233 ?_
  rw [show nI i + (1 : Int32) = nI (i + 1) from nI_add i 1]
  refine og_sld (j := i + 1) (v := (xs (i + 1))) hx hb hX hbl hbA hS (by omega) (by omega) rfl dL_law_234 ?_
  refine lv_aload_n hx hb dL_law_235 rfl (lv_at hl 0 rfl) ?_
  refine lv_iload_n hx hb dL_law_236 rfl (lv_at hl 3 rfl) ?_
  refine lv_iconst (v := 2) hx hb dL_law_237 (by decide) ?_
  refine lv_iadd hx hb dL_law_238 ?_
  rw [show nI i + (2 : Int32) = nI (i + 2) from nI_add i 2]
  refine og_sld (j := i + 2) (v := (xs (i + 2))) hx hb hX hbl hbA hS (by omega) (by omega) rfl dL_law_239 ?_
  refine lv_aload_n hx hb dL_law_240 rfl (lv_at hl 0 rfl) ?_
  refine lv_iload_n hx hb dL_law_241 rfl (lv_at hl 3 rfl) ?_
  refine lv_iconst (v := 3) hx hb dL_law_242 (by decide) ?_
  refine lv_iadd hx hb dL_law_243 ?_
  rw [show nI i + (3 : Int32) = nI (i + 3) from nI_add i 3]
  refine og_sld (j := i + 3) (v := (xs (i + 3))) hx hb hX hbl hbA hS (by omega) (by omega) rfl dL_law_244 ?_
  refine og_ciW (og_runV (C := RX3) (T := TX3) (N := 14) (g := 0) (i := 0) (As := [.int (xs (i + 1)), .int (xs (i + 2)), .int (xs (i + 3))]) (rest := []) ⟨hx, hb, hml, hown, hts⟩ (kX3_swap l D ca ad A st (xs (i + 1)) (xs (i + 2)) (xs (i + 3)) (RL_con h)) (cwV 3 hts gL_law_X3_swap rfl rfl rfl (by decide +kernel) ⟨Nat.le_of_ble_eq_true rfl, Nat.le_of_ble_eq_true rfl⟩) hC hP hS (ow_q0_0) rfl rfl rfl hl.1 rfl (Nat.le_of_ble_eq_true rfl) dL_law_245 ⟨Nat.le_refl _, Nat.le_refl _⟩) hS (fun H locs hP hS => ?_)
  refine lv_aload_n hx hb dL_law_248 rfl (lv_at hl 2 rfl) ?_
  refine lv_aload_n hx hb dL_law_249 rfl (lv_at hl 0 rfl) ?_
  refine lv_iload_n hx hb dL_law_250 rfl (lv_at hl 3 rfl) ?_
  refine lv_iconst (v := 1) hx hb dL_law_251 (by decide) ?_
  refine lv_iadd hx hb dL_law_252 ?_
  rw [show nI i + (1 : Int32) = nI (i + 1) from nI_add i 1]
  refine og_sld (j := i + 1) (v := (xs (i + 1))) hx hb hX hbl hbA hS (by omega) (by omega) rfl dL_law_253 ?_
  refine lv_aload_n hx hb dL_law_254 rfl (lv_at hl 0 rfl) ?_
  refine lv_iload_n hx hb dL_law_255 rfl (lv_at hl 3 rfl) ?_
  refine lv_iconst (v := 2) hx hb dL_law_256 (by decide) ?_
  refine lv_iadd hx hb dL_law_257 ?_
  rw [show nI i + (2 : Int32) = nI (i + 2) from nI_add i 2]
  refine og_sld (j := i + 2) (v := (xs (i + 2))) hx hb hX hbl hbA hS (by omega) (by omega) rfl dL_law_258 ?_
  refine lv_aload_n hx hb dL_law_259 rfl (lv_at hl 0 rfl) ?_
  refine lv_iload_n hx hb dL_law_260 rfl (lv_at hl 3 rfl) ?_
  refine lv_iconst (v := 3) hx hb dL_law_261 (by decide) ?_
  refine lv_iadd hx hb dL_law_262 ?_
  rw [show nI i + (3 : Int32) = nI (i + 3) from nI_add i 3]
  refine og_sld (j := i + 3) (v := (xs (i + 3))) hx hb hX hbl hbA hS (by omega) (by omega) rfl dL_law_263 ?_
  refine og_ciW (og_runV (C := RX4) (T := TX4) (N := 19) (g := 10) (i := 0) (As := [.int (xs (i + 1)), .int (xs (i + 2)), .int (xs (i + 3))]) (rest := [.int ((fX3_swap st (xs (i + 1)) (xs (i + 2)) (xs (i + 3))).1)]) ⟨hx, hb, hml, hown, hts⟩ (kX4_swap l D ca ad A (fX3_swap st (xs (i + 1)) (xs (i + 2)) (xs (i + 3))).2 (xs (i + 1)) (xs (i + 2)) (xs (i + 3)) (MOK_of (RL_mok h) (mk_swap h (xs (i + 1)) (xs (i + 2)) (xs (i + 3)))).1) (cwV 3 hts gL_law_X4_swap rfl rfl rfl (by decide +kernel) ⟨Nat.le_of_ble_eq_true rfl, Nat.le_of_ble_eq_true rfl⟩) hC hP hS (ow_q10_0) rfl rfl rfl hl.1 rfl (Nat.le_of_ble_eq_true rfl) dL_law_264 ⟨Nat.le_refl _, Nat.le_refl _⟩) hS (fun H locs hP hS => ?_)
  refine lv_icmp_eq (tgt := 990) hx hb dL_law_267 (by decide) (fun _ => ?_) (fun c => absurd ((eq_swap h (xs (i + 1)) (xs (i + 2)) (xs (i + 3))).1) c)
  exact K _ _ _ ls (eq_swap h (xs (i + 1)) (xs (i + 2)) (xs (i + 3))).2 hP hS hl

set_option maxHeartbeats 4000000 in
set_option maxRecDepth 100000 in
theorem lawc_3 {p : Program} {l : Launch} {e : Env} {s : State} {m : MethodId} {below : List Frame} {meth : Method} {c : Code} {D : va_G} {ca : Nat → ClassId} {ad : ow_Ad} {b L : Nat} {xs : Nat → Int32} {Q : State → Prop} {A : Nat → Prop} (hx : p.tables.exec = Jvm.exec) (hb : c.code = cL_law) (hml : c.maxLocals = 4) (hown : s.vm.findClass RL = some m.cls) (hts : ∀ w ∈ wsL_law, w.before #[Value.ref b] s = true) (hC : ow_C D ca ad A s) (hbA : ¬ A b) (hX : va_X b L xs s s.heap) (hbl : b < s.heap.size) (hL : L ≤ 3072) {st : ow_St} {i : Nat} {H : Heap} {locs : List Loc} {ls : Array Slot} (hi : i + 6 ≤ L) (h : RLs st)  (hP : va_P D vwCl (ow_ws ad (ow_c ca ad st)) H) (hS : va_S A s.heap H locs) (hl : lv_has ls 4 [(0, .ref b), (1, .ref (ad 0 0)), (2, .ref (ad 10 0)), (3, .int (nI i))]) (K : ∀ (st : ow_St) (H : Heap) (locs : List Loc) (ls : Array Slot), RLs st → va_P D vwCl (ow_ws ad (ow_c ca ad st)) H → va_S A s.heap H locs → lv_has ls 4 [(0, .ref b), (1, .ref (ad 0 0)), (2, .ref (ad 10 0)), (3, .int (nI i))] → W p l e room_1 s m #[Value.ref b] below meth c H locs 600000 7302250 Q (F0 m 990 ls [])) : W p l e room_1 s m #[Value.ref b] below meth c H locs 600000 7302250 Q (F0 m 272 ls []) := by
  refine lv_aload_n hx hb dL_law_272 rfl (lv_at hl 1 rfl) ?_
  refine lv_aload_n hx hb dL_law_273 rfl (lv_at hl 0 rfl) ?_
  refine lv_iload_n hx hb dL_law_274 rfl (lv_at hl 3 rfl) ?_
  refine lv_iconst (v := 1) hx hb dL_law_275 (by decide) ?_
  refine lv_iadd hx hb dL_law_276 ?_
  rw [show nI i + (1 : Int32) = nI (i + 1) from nI_add i 1]
  refine og_sld (j := i + 1) (v := (xs (i + 1))) hx hb hX hbl hbA hS (by omega) (by omega) rfl dL_law_277 ?_
  refine lv_aload_n hx hb dL_law_278 rfl (lv_at hl 0 rfl) ?_
  refine lv_iload_n hx hb dL_law_279 rfl (lv_at hl 3 rfl) ?_
  refine lv_iconst (v := 2) hx hb dL_law_280 (by decide) ?_
  refine lv_iadd hx hb dL_law_281 ?_
  rw [show nI i + (2 : Int32) = nI (i + 2) from nI_add i 2]
  refine og_sld (j := i + 2) (v := (xs (i + 2))) hx hb hX hbl hbA hS (by omega) (by omega) rfl dL_law_282 ?_
  refine lv_aload_n hx hb dL_law_283 rfl (lv_at hl 0 rfl) ?_
  refine lv_iload_n hx hb dL_law_284 rfl (lv_at hl 3 rfl) ?_
  refine lv_iconst (v := 3) hx hb dL_law_285 (by decide) ?_
  refine lv_iadd hx hb dL_law_286 ?_
  rw [show nI i + (3 : Int32) = nI (i + 3) from nI_add i 3]
  refine og_sld (j := i + 3) (v := (xs (i + 3))) hx hb hX hbl hbA hS (by omega) (by omega) rfl dL_law_287 ?_
  refine lv_i2l (v := (xs (i + 3)).toInt64) hx hb dL_law_288 rfl ?_
  refine lv_bipush (v := 32) hx hb dL_law_289 (by decide) ?_
  refine lv_lshl (v := ((xs (i + 3)).toInt64) <<< ((32 : Int32).toInt64 &&& 63)) hx hb dL_law_291 rfl ?_
  refine lv_aload_n hx hb dL_law_292 rfl (lv_at hl 0 rfl) ?_
  refine lv_iload_n hx hb dL_law_293 rfl (lv_at hl 3 rfl) ?_
  refine lv_iconst (v := 4) hx hb dL_law_294 (by decide) ?_
  refine lv_iadd hx hb dL_law_295 ?_
  rw [show nI i + (4 : Int32) = nI (i + 4) from nI_add i 4]
  refine og_sld (j := i + 4) (v := (xs (i + 4))) hx hb hX hbl hbA hS (by omega) (by omega) rfl dL_law_296 ?_
  refine lv_i2l (v := (xs (i + 4)).toInt64) hx hb dL_law_297 rfl ?_
  refine lv_ldc2 (v := 4294967295) hx hb hown (hts _ (by decide +kernel)) dL_law_298 ?_
  refine lv_land hx hb dL_law_301 ?_
  refine lv_lor hx hb dL_law_302 ?_
  refine og_ciW (og_runV (C := RX3) (T := TX3) (N := 14) (g := 0) (i := 0) (As := [.int (xs (i + 1)), .int (xs (i + 2)), .long ((((xs (i + 3)).toInt64) <<< ((32 : Int32).toInt64 &&& 63)) ||| (((xs (i + 4)).toInt64) &&& 4294967295))]) (rest := []) ⟨hx, hb, hml, hown, hts⟩ (kX3_rule l D ca ad A st (xs (i + 1)) (xs (i + 2)) ((((xs (i + 3)).toInt64) <<< ((32 : Int32).toInt64 &&& 63)) ||| (((xs (i + 4)).toInt64) &&& 4294967295))) (cwV 3 hts gL_law_X3_rule rfl rfl rfl (by decide +kernel) ⟨Nat.le_of_ble_eq_true rfl, Nat.le_of_ble_eq_true rfl⟩) hC hP hS (ow_q0_0) rfl rfl rfl hl.1 rfl (Nat.le_of_ble_eq_true rfl) dL_law_303 ⟨Nat.le_refl _, Nat.le_refl _⟩) hS (fun H locs hP hS => ?_)
  refine lv_aload_n hx hb dL_law_306 rfl (lv_at hl 2 rfl) ?_
  refine lv_aload_n hx hb dL_law_307 rfl (lv_at hl 0 rfl) ?_
  refine lv_iload_n hx hb dL_law_308 rfl (lv_at hl 3 rfl) ?_
  refine lv_iconst (v := 1) hx hb dL_law_309 (by decide) ?_
  refine lv_iadd hx hb dL_law_310 ?_
  rw [show nI i + (1 : Int32) = nI (i + 1) from nI_add i 1]
  refine og_sld (j := i + 1) (v := (xs (i + 1))) hx hb hX hbl hbA hS (by omega) (by omega) rfl dL_law_311 ?_
  refine lv_aload_n hx hb dL_law_312 rfl (lv_at hl 0 rfl) ?_
  refine lv_iload_n hx hb dL_law_313 rfl (lv_at hl 3 rfl) ?_
  refine lv_iconst (v := 2) hx hb dL_law_314 (by decide) ?_
  refine lv_iadd hx hb dL_law_315 ?_
  rw [show nI i + (2 : Int32) = nI (i + 2) from nI_add i 2]
  refine og_sld (j := i + 2) (v := (xs (i + 2))) hx hb hX hbl hbA hS (by omega) (by omega) rfl dL_law_316 ?_
  refine lv_aload_n hx hb dL_law_317 rfl (lv_at hl 0 rfl) ?_
  refine lv_iload_n hx hb dL_law_318 rfl (lv_at hl 3 rfl) ?_
  refine lv_iconst (v := 3) hx hb dL_law_319 (by decide) ?_
  refine lv_iadd hx hb dL_law_320 ?_
  rw [show nI i + (3 : Int32) = nI (i + 3) from nI_add i 3]
  refine og_sld (j := i + 3) (v := (xs (i + 3))) hx hb hX hbl hbA hS (by omega) (by omega) rfl dL_law_321 ?_
  refine lv_i2l (v := (xs (i + 3)).toInt64) hx hb dL_law_322 rfl ?_
  refine lv_bipush (v := 32) hx hb dL_law_323 (by decide) ?_
  refine lv_lshl (v := ((xs (i + 3)).toInt64) <<< ((32 : Int32).toInt64 &&& 63)) hx hb dL_law_325 rfl ?_
  refine lv_aload_n hx hb dL_law_326 rfl (lv_at hl 0 rfl) ?_
  refine lv_iload_n hx hb dL_law_327 rfl (lv_at hl 3 rfl) ?_
  refine lv_iconst (v := 4) hx hb dL_law_328 (by decide) ?_
  refine lv_iadd hx hb dL_law_329 ?_
  rw [show nI i + (4 : Int32) = nI (i + 4) from nI_add i 4]
  refine og_sld (j := i + 4) (v := (xs (i + 4))) hx hb hX hbl hbA hS (by omega) (by omega) rfl dL_law_330 ?_
  refine lv_i2l (v := (xs (i + 4)).toInt64) hx hb dL_law_331 rfl ?_
  refine lv_ldc2 (v := 4294967295) hx hb hown (hts _ (by decide +kernel)) dL_law_332 ?_
  refine lv_land hx hb dL_law_335 ?_
  refine lv_lor hx hb dL_law_336 ?_
  refine og_ciW (og_runV (C := RX4) (T := TX4) (N := 19) (g := 10) (i := 0) (As := [.int (xs (i + 1)), .int (xs (i + 2)), .long ((((xs (i + 3)).toInt64) <<< ((32 : Int32).toInt64 &&& 63)) ||| (((xs (i + 4)).toInt64) &&& 4294967295))]) (rest := [.int ((fX3_rule st (xs (i + 1)) (xs (i + 2)) ((((xs (i + 3)).toInt64) <<< ((32 : Int32).toInt64 &&& 63)) ||| (((xs (i + 4)).toInt64) &&& 4294967295))).1)]) ⟨hx, hb, hml, hown, hts⟩ (kX4_rule l D ca ad A (fX3_rule st (xs (i + 1)) (xs (i + 2)) ((((xs (i + 3)).toInt64) <<< ((32 : Int32).toInt64 &&& 63)) ||| (((xs (i + 4)).toInt64) &&& 4294967295))).2 (xs (i + 1)) (xs (i + 2)) ((((xs (i + 3)).toInt64) <<< ((32 : Int32).toInt64 &&& 63)) ||| (((xs (i + 4)).toInt64) &&& 4294967295))) (cwV 3 hts gL_law_X4_rule rfl rfl rfl (by decide +kernel) ⟨Nat.le_of_ble_eq_true rfl, Nat.le_of_ble_eq_true rfl⟩) hC hP hS (ow_q10_0) rfl rfl rfl hl.1 rfl (Nat.le_of_ble_eq_true rfl) dL_law_337 ⟨Nat.le_refl _, Nat.le_refl _⟩) hS (fun H locs hP hS => ?_)
  refine lv_icmp_eq (tgt := 990) hx hb dL_law_340 (by decide) (fun _ => ?_) (fun c => absurd ((eq_rule h (xs (i + 1)) (xs (i + 2)) ((((xs (i + 3)).toInt64) <<< ((32 : Int32).toInt64 &&& 63)) ||| (((xs (i + 4)).toInt64) &&& 4294967295))).1) c)
  exact K _ _ _ ls (eq_rule h (xs (i + 1)) (xs (i + 2)) ((((xs (i + 3)).toInt64) <<< ((32 : Int32).toInt64 &&& 63)) ||| (((xs (i + 4)).toInt64) &&& 4294967295))).2 hP hS hl

set_option maxHeartbeats 4000000 in
set_option maxRecDepth 100000 in
theorem lawc_4 {p : Program} {l : Launch} {e : Env} {s : State} {m : MethodId} {below : List Frame} {meth : Method} {c : Code} {D : va_G} {ca : Nat → ClassId} {ad : ow_Ad} {b L : Nat} {xs : Nat → Int32} {Q : State → Prop} {A : Nat → Prop} (hx : p.tables.exec = Jvm.exec) (hb : c.code = cL_law) (hml : c.maxLocals = 4) (hown : s.vm.findClass RL = some m.cls) (hts : ∀ w ∈ wsL_law, w.before #[Value.ref b] s = true) (hC : ow_C D ca ad A s) (hbA : ¬ A b) (hX : va_X b L xs s s.heap) (hbl : b < s.heap.size) (hL : L ≤ 3072) {st : ow_St} {i : Nat} {H : Heap} {locs : List Loc} {ls : Array Slot} (hi : i + 6 ≤ L) (h : RLs st)  (hP : va_P D vwCl (ow_ws ad (ow_c ca ad st)) H) (hS : va_S A s.heap H locs) (hl : lv_has ls 4 [(0, .ref b), (1, .ref (ad 0 0)), (2, .ref (ad 10 0)), (3, .int (nI i))]) (K : ∀ (st : ow_St) (H : Heap) (locs : List Loc) (ls : Array Slot), RLs st → va_P D vwCl (ow_ws ad (ow_c ca ad st)) H → va_S A s.heap H locs → lv_has ls 4 [(0, .ref b), (1, .ref (ad 0 0)), (2, .ref (ad 10 0)), (3, .int (nI i))] → W p l e room_1 s m #[Value.ref b] below meth c H locs 600000 7302250 Q (F0 m 990 ls [])) : W p l e room_1 s m #[Value.ref b] below meth c H locs 600000 7302250 Q (F0 m 345 ls []) := by
  refine lv_aload_n hx hb dL_law_345 rfl (lv_at hl 1 rfl) ?_
  refine og_clP (og_runV (C := RX3) (T := TX3) (N := 14) (g := 0) (i := 0) (As := []) (rest := []) ⟨hx, hb, hml, hown, hts⟩ (kX3_result l D ca ad A st) (cwV 0 hts gL_law_X3_result rfl rfl rfl (by decide +kernel) ⟨Nat.le_of_ble_eq_true rfl, Nat.le_of_ble_eq_true rfl⟩) hC hP hS (ow_q0_0) rfl rfl rfl hl.1 rfl (Nat.le_of_ble_eq_true rfl) dL_law_346 ⟨Nat.le_refl _, Nat.le_refl _⟩) hS (fun H locs hP hS => ?_)
  refine lv_aload_n hx hb dL_law_349 rfl (lv_at hl 2 rfl) ?_
  refine og_clP (og_runV (C := RX4) (T := TX4) (N := 19) (g := 10) (i := 0) (As := []) (rest := [.long (fX3_result st)]) ⟨hx, hb, hml, hown, hts⟩ (kX4_result l D ca ad A st) (cwV 0 hts gL_law_X4_result rfl rfl rfl (by decide +kernel) ⟨Nat.le_of_ble_eq_true rfl, Nat.le_of_ble_eq_true rfl⟩) hC hP hS (ow_q10_0) rfl rfl rfl hl.1 rfl (Nat.le_of_ble_eq_true rfl) dL_law_350 ⟨Nat.le_refl _, Nat.le_refl _⟩) hS (fun H locs hP hS => ?_)
  refine W.lcmp hx hb dL_law_353 ?_
  refine lv_if_eq (tgt := 990) hx hb dL_law_354 (by decide) (fun _ => ?_) (fun c => absurd ((lg_cmp_eq _ _).mpr (eq_result h )) c)
  exact K _ _ _ ls h hP hS hl

set_option maxHeartbeats 4000000 in
set_option maxRecDepth 100000 in
theorem lawc_5 {p : Program} {l : Launch} {e : Env} {s : State} {m : MethodId} {below : List Frame} {meth : Method} {c : Code} {D : va_G} {ca : Nat → ClassId} {ad : ow_Ad} {b L : Nat} {xs : Nat → Int32} {Q : State → Prop} {A : Nat → Prop} (hx : p.tables.exec = Jvm.exec) (hb : c.code = cL_law) (hml : c.maxLocals = 4) (hown : s.vm.findClass RL = some m.cls) (hts : ∀ w ∈ wsL_law, w.before #[Value.ref b] s = true) (hC : ow_C D ca ad A s) (hbA : ¬ A b) (hX : va_X b L xs s s.heap) (hbl : b < s.heap.size) (hL : L ≤ 3072) {st : ow_St} {i : Nat} {H : Heap} {locs : List Loc} {ls : Array Slot} (hi : i + 6 ≤ L) (h : RLs st)  (hP : va_P D vwCl (ow_ws ad (ow_c ca ad st)) H) (hS : va_S A s.heap H locs) (hl : lv_has ls 4 [(0, .ref b), (1, .ref (ad 0 0)), (2, .ref (ad 10 0)), (3, .int (nI i))]) (K : ∀ (st : ow_St) (H : Heap) (locs : List Loc) (ls : Array Slot), RLs st → va_P D vwCl (ow_ws ad (ow_c ca ad st)) H → va_S A s.heap H locs → lv_has ls 4 [(0, .ref b), (1, .ref (ad 0 0)), (2, .ref (ad 10 0)), (3, .int (nI i))] → W p l e room_1 s m #[Value.ref b] below meth c H locs 600000 7302250 Q (F0 m 990 ls [])) : W p l e room_1 s m #[Value.ref b] below meth c H locs 600000 7302250 Q (F0 m 359 ls []) := by
  refine lv_aload_n hx hb dL_law_359 rfl (lv_at hl 1 rfl) ?_
  refine lv_aload_n hx hb dL_law_360 rfl (lv_at hl 0 rfl) ?_
  refine lv_iload_n hx hb dL_law_361 rfl (lv_at hl 3 rfl) ?_
  refine lv_iconst (v := 1) hx hb dL_law_362 (by decide) ?_
  refine lv_iadd hx hb dL_law_363 ?_
  rw [show nI i + (1 : Int32) = nI (i + 1) from nI_add i 1]
  refine og_sld (j := i + 1) (v := (xs (i + 1))) hx hb hX hbl hbA hS (by omega) (by omega) rfl dL_law_364 ?_
  refine lv_aload_n hx hb dL_law_365 rfl (lv_at hl 0 rfl) ?_
  refine lv_iload_n hx hb dL_law_366 rfl (lv_at hl 3 rfl) ?_
  refine lv_iconst (v := 2) hx hb dL_law_367 (by decide) ?_
  refine lv_iadd hx hb dL_law_368 ?_
  rw [show nI i + (2 : Int32) = nI (i + 2) from nI_add i 2]
  refine og_sld (j := i + 2) (v := (xs (i + 2))) hx hb hX hbl hbA hS (by omega) (by omega) rfl dL_law_369 ?_
  refine lv_if_eq (tgt := 377) hx hb dL_law_370 (by decide) (fun c_1 => ?_) (fun c_1 => ?_)
  · refine lv_iconst (v := 0) hx hb dL_law_377 (by decide) ?_
    refine og_ciW (og_runV (C := RX3) (T := TX3) (N := 14) (g := 0) (i := 0) (As := [.int (xs (i + 1)), .int 0]) (rest := []) ⟨hx, hb, hml, hown, hts⟩ (kX3_fail l D ca ad A st (xs (i + 1)) 0 (Or.inl rfl)) (cwV 2 hts gL_law_X3_fail rfl rfl rfl (by decide +kernel) ⟨Nat.le_of_ble_eq_true rfl, Nat.le_of_ble_eq_true rfl⟩) hC hP hS (ow_q0_0) rfl rfl rfl hl.1 rfl (Nat.le_of_ble_eq_true rfl) dL_law_378 ⟨Nat.le_refl _, Nat.le_refl _⟩) hS (fun H locs hP hS => ?_)
    refine lv_aload_n hx hb dL_law_381 rfl (lv_at hl 2 rfl) ?_
    refine lv_aload_n hx hb dL_law_382 rfl (lv_at hl 0 rfl) ?_
    refine lv_iload_n hx hb dL_law_383 rfl (lv_at hl 3 rfl) ?_
    refine lv_iconst (v := 1) hx hb dL_law_384 (by decide) ?_
    refine lv_iadd hx hb dL_law_385 ?_
    rw [show nI i + (1 : Int32) = nI (i + 1) from nI_add i 1]
    refine og_sld (j := i + 1) (v := (xs (i + 1))) hx hb hX hbl hbA hS (by omega) (by omega) rfl dL_law_386 ?_
    refine lv_aload_n hx hb dL_law_387 rfl (lv_at hl 0 rfl) ?_
    refine lv_iload_n hx hb dL_law_388 rfl (lv_at hl 3 rfl) ?_
    refine lv_iconst (v := 2) hx hb dL_law_389 (by decide) ?_
    refine lv_iadd hx hb dL_law_390 ?_
    rw [show nI i + (2 : Int32) = nI (i + 2) from nI_add i 2]
    refine og_sld (j := i + 2) (v := (xs (i + 2))) hx hb hX hbl hbA hS (by omega) (by omega) rfl dL_law_391 ?_
    refine lv_if_eq (tgt := 399) hx hb dL_law_392 (by decide) (fun _ => ?_) (fun c => absurd c_1 c)
    refine lv_iconst (v := 0) hx hb dL_law_399 (by decide) ?_
    refine og_ciW (og_runV (C := RX4) (T := TX4) (N := 19) (g := 10) (i := 0) (As := [.int (xs (i + 1)), .int 0]) (rest := [.int ((fX3_fail st (xs (i + 1)) 0).1)]) ⟨hx, hb, hml, hown, hts⟩ (kX4_fail l D ca ad A (fX3_fail st (xs (i + 1)) 0).2 (xs (i + 1)) 0 (Or.inl rfl)) (cwV 2 hts gL_law_X4_fail rfl rfl rfl (by decide +kernel) ⟨Nat.le_of_ble_eq_true rfl, Nat.le_of_ble_eq_true rfl⟩) hC hP hS (ow_q10_0) rfl rfl rfl hl.1 rfl (Nat.le_of_ble_eq_true rfl) dL_law_400 ⟨Nat.le_refl _, Nat.le_refl _⟩) hS (fun H locs hP hS => ?_)
    refine lv_icmp_eq (tgt := 990) hx hb dL_law_403 (by decide) (fun _ => ?_) (fun c => absurd ((eq_fail h (xs (i + 1)) (0)).1) c)
    exact K _ _ _ ls (eq_fail h (xs (i + 1)) (0)).2 hP hS hl
  · refine lv_iconst (v := 1) hx hb dL_law_373 (by decide) ?_
    refine lv_goto (tgt := 378) hx hb dL_law_374 (by decide) ?_
    refine og_ciW (og_runV (C := RX3) (T := TX3) (N := 14) (g := 0) (i := 0) (As := [.int (xs (i + 1)), .int 1]) (rest := []) ⟨hx, hb, hml, hown, hts⟩ (kX3_fail l D ca ad A st (xs (i + 1)) 1 (Or.inr rfl)) (cwV 2 hts gL_law_X3_fail rfl rfl rfl (by decide +kernel) ⟨Nat.le_of_ble_eq_true rfl, Nat.le_of_ble_eq_true rfl⟩) hC hP hS (ow_q0_0) rfl rfl rfl hl.1 rfl (Nat.le_of_ble_eq_true rfl) dL_law_378 ⟨Nat.le_refl _, Nat.le_refl _⟩) hS (fun H locs hP hS => ?_)
    refine lv_aload_n hx hb dL_law_381 rfl (lv_at hl 2 rfl) ?_
    refine lv_aload_n hx hb dL_law_382 rfl (lv_at hl 0 rfl) ?_
    refine lv_iload_n hx hb dL_law_383 rfl (lv_at hl 3 rfl) ?_
    refine lv_iconst (v := 1) hx hb dL_law_384 (by decide) ?_
    refine lv_iadd hx hb dL_law_385 ?_
    rw [show nI i + (1 : Int32) = nI (i + 1) from nI_add i 1]
    refine og_sld (j := i + 1) (v := (xs (i + 1))) hx hb hX hbl hbA hS (by omega) (by omega) rfl dL_law_386 ?_
    refine lv_aload_n hx hb dL_law_387 rfl (lv_at hl 0 rfl) ?_
    refine lv_iload_n hx hb dL_law_388 rfl (lv_at hl 3 rfl) ?_
    refine lv_iconst (v := 2) hx hb dL_law_389 (by decide) ?_
    refine lv_iadd hx hb dL_law_390 ?_
    rw [show nI i + (2 : Int32) = nI (i + 2) from nI_add i 2]
    refine og_sld (j := i + 2) (v := (xs (i + 2))) hx hb hX hbl hbA hS (by omega) (by omega) rfl dL_law_391 ?_
    refine lv_if_eq (tgt := 399) hx hb dL_law_392 (by decide) (fun c => absurd c c_1) (fun _ => ?_)
    refine lv_iconst (v := 1) hx hb dL_law_395 (by decide) ?_
    refine lv_goto (tgt := 400) hx hb dL_law_396 (by decide) ?_
    refine og_ciW (og_runV (C := RX4) (T := TX4) (N := 19) (g := 10) (i := 0) (As := [.int (xs (i + 1)), .int 1]) (rest := [.int ((fX3_fail st (xs (i + 1)) 1).1)]) ⟨hx, hb, hml, hown, hts⟩ (kX4_fail l D ca ad A (fX3_fail st (xs (i + 1)) 1).2 (xs (i + 1)) 1 (Or.inr rfl)) (cwV 2 hts gL_law_X4_fail rfl rfl rfl (by decide +kernel) ⟨Nat.le_of_ble_eq_true rfl, Nat.le_of_ble_eq_true rfl⟩) hC hP hS (ow_q10_0) rfl rfl rfl hl.1 rfl (Nat.le_of_ble_eq_true rfl) dL_law_400 ⟨Nat.le_refl _, Nat.le_refl _⟩) hS (fun H locs hP hS => ?_)
    refine lv_icmp_eq (tgt := 990) hx hb dL_law_403 (by decide) (fun _ => ?_) (fun c => absurd ((eq_fail h (xs (i + 1)) (1)).1) c)
    exact K _ _ _ ls (eq_fail h (xs (i + 1)) (1)).2 hP hS hl

set_option maxHeartbeats 4000000 in
set_option maxRecDepth 100000 in
theorem lawc_6 {p : Program} {l : Launch} {e : Env} {s : State} {m : MethodId} {below : List Frame} {meth : Method} {c : Code} {D : va_G} {ca : Nat → ClassId} {ad : ow_Ad} {b L : Nat} {xs : Nat → Int32} {Q : State → Prop} {A : Nat → Prop} (hx : p.tables.exec = Jvm.exec) (hb : c.code = cL_law) (hml : c.maxLocals = 4) (hown : s.vm.findClass RL = some m.cls) (hts : ∀ w ∈ wsL_law, w.before #[Value.ref b] s = true) (hC : ow_C D ca ad A s) (hbA : ¬ A b) (hX : va_X b L xs s s.heap) (hbl : b < s.heap.size) (hL : L ≤ 3072) {st : ow_St} {i : Nat} {H : Heap} {locs : List Loc} {ls : Array Slot} (hi : i + 6 ≤ L) (h : RLs st)  (hP : va_P D vwCl (ow_ws ad (ow_c ca ad st)) H) (hS : va_S A s.heap H locs) (hl : lv_has ls 4 [(0, .ref b), (1, .ref (ad 0 0)), (2, .ref (ad 10 0)), (3, .int (nI i))]) (K : ∀ (st : ow_St) (H : Heap) (locs : List Loc) (ls : Array Slot), RLs st → va_P D vwCl (ow_ws ad (ow_c ca ad st)) H → va_S A s.heap H locs → lv_has ls 4 [(0, .ref b), (1, .ref (ad 0 0)), (2, .ref (ad 10 0)), (3, .int (nI i))] → W p l e room_1 s m #[Value.ref b] below meth c H locs 600000 7302250 Q (F0 m 990 ls [])) : W p l e room_1 s m #[Value.ref b] below meth c H locs 600000 7302250 Q (F0 m 408 ls []) := by
  refine lv_aload_n hx hb dL_law_408 rfl (lv_at hl 1 rfl) ?_
  refine lv_aload_n hx hb dL_law_409 rfl (lv_at hl 0 rfl) ?_
  refine lv_iload_n hx hb dL_law_410 rfl (lv_at hl 3 rfl) ?_
  refine lv_iconst (v := 1) hx hb dL_law_411 (by decide) ?_
  refine lv_iadd hx hb dL_law_412 ?_
  rw [show nI i + (1 : Int32) = nI (i + 1) from nI_add i 1]
  refine og_sld (j := i + 1) (v := (xs (i + 1))) hx hb hX hbl hbA hS (by omega) (by omega) rfl dL_law_413 ?_
  refine og_ciP (og_runV (C := RX3) (T := TX3) (N := 14) (g := 0) (i := 0) (As := [.int (xs (i + 1))]) (rest := []) ⟨hx, hb, hml, hown, hts⟩ (kX3_started l D ca ad A st (xs (i + 1))) (cwV 1 hts gL_law_X3_started rfl rfl rfl (by decide +kernel) ⟨Nat.le_of_ble_eq_true rfl, Nat.le_of_ble_eq_true rfl⟩) hC hP hS (ow_q0_0) rfl rfl rfl hl.1 rfl (Nat.le_of_ble_eq_true rfl) dL_law_414 ⟨Nat.le_refl _, Nat.le_refl _⟩) hS (fun H locs hP hS => ?_)
  refine lv_aload_n hx hb dL_law_417 rfl (lv_at hl 2 rfl) ?_
  refine lv_aload_n hx hb dL_law_418 rfl (lv_at hl 0 rfl) ?_
  refine lv_iload_n hx hb dL_law_419 rfl (lv_at hl 3 rfl) ?_
  refine lv_iconst (v := 1) hx hb dL_law_420 (by decide) ?_
  refine lv_iadd hx hb dL_law_421 ?_
  rw [show nI i + (1 : Int32) = nI (i + 1) from nI_add i 1]
  refine og_sld (j := i + 1) (v := (xs (i + 1))) hx hb hX hbl hbA hS (by omega) (by omega) rfl dL_law_422 ?_
  refine og_ciP (og_runV (C := RX4) (T := TX4) (N := 19) (g := 10) (i := 0) (As := [.int (xs (i + 1))]) (rest := [.int (fX3_started st (xs (i + 1)))]) ⟨hx, hb, hml, hown, hts⟩ (kX4_started l D ca ad A st (xs (i + 1))) (cwV 1 hts gL_law_X4_started rfl rfl rfl (by decide +kernel) ⟨Nat.le_of_ble_eq_true rfl, Nat.le_of_ble_eq_true rfl⟩) hC hP hS (ow_q10_0) rfl rfl rfl hl.1 rfl (Nat.le_of_ble_eq_true rfl) dL_law_423 ⟨Nat.le_refl _, Nat.le_refl _⟩) hS (fun H locs hP hS => ?_)
  refine lv_icmp_eq (tgt := 990) hx hb dL_law_426 (by decide) (fun _ => ?_) (fun c => absurd (eq_started h (xs (i + 1))) c)
  exact K _ _ _ ls h hP hS hl

set_option maxHeartbeats 4000000 in
set_option maxRecDepth 100000 in
theorem lawc_7 {p : Program} {l : Launch} {e : Env} {s : State} {m : MethodId} {below : List Frame} {meth : Method} {c : Code} {D : va_G} {ca : Nat → ClassId} {ad : ow_Ad} {b L : Nat} {xs : Nat → Int32} {Q : State → Prop} {A : Nat → Prop} (hx : p.tables.exec = Jvm.exec) (hb : c.code = cL_law) (hml : c.maxLocals = 4) (hown : s.vm.findClass RL = some m.cls) (hts : ∀ w ∈ wsL_law, w.before #[Value.ref b] s = true) (hC : ow_C D ca ad A s) (hbA : ¬ A b) (hX : va_X b L xs s s.heap) (hbl : b < s.heap.size) (hL : L ≤ 3072) {st : ow_St} {i : Nat} {H : Heap} {locs : List Loc} {ls : Array Slot} (hi : i + 6 ≤ L) (h : RLs st)  (hP : va_P D vwCl (ow_ws ad (ow_c ca ad st)) H) (hS : va_S A s.heap H locs) (hl : lv_has ls 4 [(0, .ref b), (1, .ref (ad 0 0)), (2, .ref (ad 10 0)), (3, .int (nI i))]) (K : ∀ (st : ow_St) (H : Heap) (locs : List Loc) (ls : Array Slot), RLs st → va_P D vwCl (ow_ws ad (ow_c ca ad st)) H → va_S A s.heap H locs → lv_has ls 4 [(0, .ref b), (1, .ref (ad 0 0)), (2, .ref (ad 10 0)), (3, .int (nI i))] → W p l e room_1 s m #[Value.ref b] below meth c H locs 600000 7302250 Q (F0 m 990 ls [])) : W p l e room_1 s m #[Value.ref b] below meth c H locs 600000 7302250 Q (F0 m 431 ls []) := by
  refine lv_aload_n hx hb dL_law_431 rfl (lv_at hl 1 rfl) ?_
  refine lv_aload_n hx hb dL_law_432 rfl (lv_at hl 0 rfl) ?_
  refine lv_iload_n hx hb dL_law_433 rfl (lv_at hl 3 rfl) ?_
  refine lv_iconst (v := 1) hx hb dL_law_434 (by decide) ?_
  refine lv_iadd hx hb dL_law_435 ?_
  rw [show nI i + (1 : Int32) = nI (i + 1) from nI_add i 1]
  refine og_sld (j := i + 1) (v := (xs (i + 1))) hx hb hX hbl hbA hS (by omega) (by omega) rfl dL_law_436 ?_
  refine lv_aload_n hx hb dL_law_437 rfl (lv_at hl 0 rfl) ?_
  refine lv_iload_n hx hb dL_law_438 rfl (lv_at hl 3 rfl) ?_
  refine lv_iconst (v := 2) hx hb dL_law_439 (by decide) ?_
  refine lv_iadd hx hb dL_law_440 ?_
  rw [show nI i + (2 : Int32) = nI (i + 2) from nI_add i 2]
  refine og_sld (j := i + 2) (v := (xs (i + 2))) hx hb hX hbl hbA hS (by omega) (by omega) rfl dL_law_441 ?_
  refine og_ciW (og_runV (C := RX3) (T := TX3) (N := 14) (g := 0) (i := 0) (As := [.int (xs (i + 1)), .int (xs (i + 2))]) (rest := []) ⟨hx, hb, hml, hown, hts⟩ (kX3_clear l D ca ad A st (xs (i + 1)) (xs (i + 2))) (cwV 2 hts gL_law_X3_clear rfl rfl rfl (by decide +kernel) ⟨Nat.le_of_ble_eq_true rfl, Nat.le_of_ble_eq_true rfl⟩) hC hP hS (ow_q0_0) rfl rfl rfl hl.1 rfl (Nat.le_of_ble_eq_true rfl) dL_law_442 ⟨Nat.le_refl _, Nat.le_refl _⟩) hS (fun H locs hP hS => ?_)
  refine lv_aload_n hx hb dL_law_445 rfl (lv_at hl 2 rfl) ?_
  refine lv_aload_n hx hb dL_law_446 rfl (lv_at hl 0 rfl) ?_
  refine lv_iload_n hx hb dL_law_447 rfl (lv_at hl 3 rfl) ?_
  refine lv_iconst (v := 1) hx hb dL_law_448 (by decide) ?_
  refine lv_iadd hx hb dL_law_449 ?_
  rw [show nI i + (1 : Int32) = nI (i + 1) from nI_add i 1]
  refine og_sld (j := i + 1) (v := (xs (i + 1))) hx hb hX hbl hbA hS (by omega) (by omega) rfl dL_law_450 ?_
  refine lv_aload_n hx hb dL_law_451 rfl (lv_at hl 0 rfl) ?_
  refine lv_iload_n hx hb dL_law_452 rfl (lv_at hl 3 rfl) ?_
  refine lv_iconst (v := 2) hx hb dL_law_453 (by decide) ?_
  refine lv_iadd hx hb dL_law_454 ?_
  rw [show nI i + (2 : Int32) = nI (i + 2) from nI_add i 2]
  refine og_sld (j := i + 2) (v := (xs (i + 2))) hx hb hX hbl hbA hS (by omega) (by omega) rfl dL_law_455 ?_
  refine og_ciW (og_runV (C := RX4) (T := TX4) (N := 19) (g := 10) (i := 0) (As := [.int (xs (i + 1)), .int (xs (i + 2))]) (rest := [.int ((fX3_clear st (xs (i + 1)) (xs (i + 2))).1)]) ⟨hx, hb, hml, hown, hts⟩ (kX4_clear l D ca ad A (fX3_clear st (xs (i + 1)) (xs (i + 2))).2 (xs (i + 1)) (xs (i + 2))) (cwV 2 hts gL_law_X4_clear rfl rfl rfl (by decide +kernel) ⟨Nat.le_of_ble_eq_true rfl, Nat.le_of_ble_eq_true rfl⟩) hC hP hS (ow_q10_0) rfl rfl rfl hl.1 rfl (Nat.le_of_ble_eq_true rfl) dL_law_456 ⟨Nat.le_refl _, Nat.le_refl _⟩) hS (fun H locs hP hS => ?_)
  refine lv_icmp_eq (tgt := 990) hx hb dL_law_459 (by decide) (fun _ => ?_) (fun c => absurd ((eq_clear h (xs (i + 1)) (xs (i + 2))).1) c)
  exact K _ _ _ ls (eq_clear h (xs (i + 1)) (xs (i + 2))).2 hP hS hl

set_option maxHeartbeats 4000000 in
set_option maxRecDepth 100000 in
theorem lawc_8 {p : Program} {l : Launch} {e : Env} {s : State} {m : MethodId} {below : List Frame} {meth : Method} {c : Code} {D : va_G} {ca : Nat → ClassId} {ad : ow_Ad} {b L : Nat} {xs : Nat → Int32} {Q : State → Prop} {A : Nat → Prop} (hx : p.tables.exec = Jvm.exec) (hb : c.code = cL_law) (hml : c.maxLocals = 4) (hown : s.vm.findClass RL = some m.cls) (hts : ∀ w ∈ wsL_law, w.before #[Value.ref b] s = true) (hC : ow_C D ca ad A s) (hbA : ¬ A b) (hX : va_X b L xs s s.heap) (hbl : b < s.heap.size) (hL : L ≤ 3072) {st : ow_St} {i : Nat} {H : Heap} {locs : List Loc} {ls : Array Slot} (hi : i + 6 ≤ L) (h : RLs st)  (hP : va_P D vwCl (ow_ws ad (ow_c ca ad st)) H) (hS : va_S A s.heap H locs) (hl : lv_has ls 4 [(0, .ref b), (1, .ref (ad 0 0)), (2, .ref (ad 10 0)), (3, .int (nI i))]) (K : ∀ (st : ow_St) (H : Heap) (locs : List Loc) (ls : Array Slot), RLs st → va_P D vwCl (ow_ws ad (ow_c ca ad st)) H → va_S A s.heap H locs → lv_has ls 4 [(0, .ref b), (1, .ref (ad 0 0)), (2, .ref (ad 10 0)), (3, .int (nI i))] → W p l e room_1 s m #[Value.ref b] below meth c H locs 600000 7302250 Q (F0 m 990 ls [])) : W p l e room_1 s m #[Value.ref b] below meth c H locs 600000 7302250 Q (F0 m 464 ls []) := by
  refine lv_aload_n hx hb dL_law_464 rfl (lv_at hl 1 rfl) ?_
  refine lv_aload_n hx hb dL_law_465 rfl (lv_at hl 0 rfl) ?_
  refine lv_iload_n hx hb dL_law_466 rfl (lv_at hl 3 rfl) ?_
  refine lv_iconst (v := 1) hx hb dL_law_467 (by decide) ?_
  refine lv_iadd hx hb dL_law_468 ?_
  rw [show nI i + (1 : Int32) = nI (i + 1) from nI_add i 1]
  refine og_sld (j := i + 1) (v := (xs (i + 1))) hx hb hX hbl hbA hS (by omega) (by omega) rfl dL_law_469 ?_
  refine lv_aload_n hx hb dL_law_470 rfl (lv_at hl 0 rfl) ?_
  refine lv_iload_n hx hb dL_law_471 rfl (lv_at hl 3 rfl) ?_
  refine lv_iconst (v := 2) hx hb dL_law_472 (by decide) ?_
  refine lv_iadd hx hb dL_law_473 ?_
  rw [show nI i + (2 : Int32) = nI (i + 2) from nI_add i 2]
  refine og_sld (j := i + 2) (v := (xs (i + 2))) hx hb hX hbl hbA hS (by omega) (by omega) rfl dL_law_474 ?_
  refine lv_aload_n hx hb dL_law_475 rfl (lv_at hl 0 rfl) ?_
  refine lv_iload_n hx hb dL_law_476 rfl (lv_at hl 3 rfl) ?_
  refine lv_iconst (v := 3) hx hb dL_law_477 (by decide) ?_
  refine lv_iadd hx hb dL_law_478 ?_
  rw [show nI i + (3 : Int32) = nI (i + 3) from nI_add i 3]
  refine og_sld (j := i + 3) (v := (xs (i + 3))) hx hb hX hbl hbA hS (by omega) (by omega) rfl dL_law_479 ?_
  refine lv_if_eq (tgt := 487) hx hb dL_law_480 (by decide) (fun c_1 => ?_) (fun c_1 => ?_)
  · refine lv_iconst (v := 0) hx hb dL_law_487 (by decide) ?_
    refine og_ciW (og_runV (C := RX3) (T := TX3) (N := 14) (g := 0) (i := 0) (As := [.int (xs (i + 1)), .int (xs (i + 2)), .int 0]) (rest := []) ⟨hx, hb, hml, hown, hts⟩ (kX3_put l D ca ad A st (xs (i + 1)) (xs (i + 2)) 0 (RL_sk h)) (cwV 3 hts gL_law_X3_put rfl rfl rfl (by decide +kernel) ⟨Nat.le_of_ble_eq_true rfl, Nat.le_of_ble_eq_true rfl⟩) hC hP hS (ow_q0_0) rfl rfl rfl hl.1 rfl (Nat.le_of_ble_eq_true rfl) dL_law_488 ⟨Nat.le_refl _, Nat.le_refl _⟩) hS (fun H locs hP hS => ?_)
    refine lv_aload_n hx hb dL_law_491 rfl (lv_at hl 2 rfl) ?_
    refine lv_aload_n hx hb dL_law_492 rfl (lv_at hl 0 rfl) ?_
    refine lv_iload_n hx hb dL_law_493 rfl (lv_at hl 3 rfl) ?_
    refine lv_iconst (v := 1) hx hb dL_law_494 (by decide) ?_
    refine lv_iadd hx hb dL_law_495 ?_
    rw [show nI i + (1 : Int32) = nI (i + 1) from nI_add i 1]
    refine og_sld (j := i + 1) (v := (xs (i + 1))) hx hb hX hbl hbA hS (by omega) (by omega) rfl dL_law_496 ?_
    refine lv_aload_n hx hb dL_law_497 rfl (lv_at hl 0 rfl) ?_
    refine lv_iload_n hx hb dL_law_498 rfl (lv_at hl 3 rfl) ?_
    refine lv_iconst (v := 2) hx hb dL_law_499 (by decide) ?_
    refine lv_iadd hx hb dL_law_500 ?_
    rw [show nI i + (2 : Int32) = nI (i + 2) from nI_add i 2]
    refine og_sld (j := i + 2) (v := (xs (i + 2))) hx hb hX hbl hbA hS (by omega) (by omega) rfl dL_law_501 ?_
    refine lv_aload_n hx hb dL_law_502 rfl (lv_at hl 0 rfl) ?_
    refine lv_iload_n hx hb dL_law_503 rfl (lv_at hl 3 rfl) ?_
    refine lv_iconst (v := 3) hx hb dL_law_504 (by decide) ?_
    refine lv_iadd hx hb dL_law_505 ?_
    rw [show nI i + (3 : Int32) = nI (i + 3) from nI_add i 3]
    refine og_sld (j := i + 3) (v := (xs (i + 3))) hx hb hX hbl hbA hS (by omega) (by omega) rfl dL_law_506 ?_
    refine lv_if_eq (tgt := 514) hx hb dL_law_507 (by decide) (fun _ => ?_) (fun c => absurd c_1 c)
    refine lv_iconst (v := 0) hx hb dL_law_514 (by decide) ?_
    refine og_ciW (og_runV (C := RX4) (T := TX4) (N := 19) (g := 10) (i := 0) (As := [.int (xs (i + 1)), .int (xs (i + 2)), .int 0]) (rest := [.int ((fX3_put st (xs (i + 1)) (xs (i + 2)) 0).1)]) ⟨hx, hb, hml, hown, hts⟩ (kX4_put l D ca ad A (fX3_put st (xs (i + 1)) (xs (i + 2)) 0).2 (xs (i + 1)) (xs (i + 2)) 0 (MOK_of (RL_mok h) (mk_put h (xs (i + 1)) (xs (i + 2)) (0))).2.1) (cwV 3 hts gL_law_X4_put rfl rfl rfl (by decide +kernel) ⟨Nat.le_of_ble_eq_true rfl, Nat.le_of_ble_eq_true rfl⟩) hC hP hS (ow_q10_0) rfl rfl rfl hl.1 rfl (Nat.le_of_ble_eq_true rfl) dL_law_515 ⟨Nat.le_refl _, Nat.le_refl _⟩) hS (fun H locs hP hS => ?_)
    refine lv_icmp_eq (tgt := 990) hx hb dL_law_518 (by decide) (fun _ => ?_) (fun c => absurd ((eq_put h (xs (i + 1)) (xs (i + 2)) (0)).1) c)
    exact K _ _ _ ls (eq_put h (xs (i + 1)) (xs (i + 2)) (0)).2 hP hS hl
  · refine lv_iconst (v := 1) hx hb dL_law_483 (by decide) ?_
    refine lv_goto (tgt := 488) hx hb dL_law_484 (by decide) ?_
    refine og_ciW (og_runV (C := RX3) (T := TX3) (N := 14) (g := 0) (i := 0) (As := [.int (xs (i + 1)), .int (xs (i + 2)), .int 1]) (rest := []) ⟨hx, hb, hml, hown, hts⟩ (kX3_put l D ca ad A st (xs (i + 1)) (xs (i + 2)) 1 (RL_sk h)) (cwV 3 hts gL_law_X3_put rfl rfl rfl (by decide +kernel) ⟨Nat.le_of_ble_eq_true rfl, Nat.le_of_ble_eq_true rfl⟩) hC hP hS (ow_q0_0) rfl rfl rfl hl.1 rfl (Nat.le_of_ble_eq_true rfl) dL_law_488 ⟨Nat.le_refl _, Nat.le_refl _⟩) hS (fun H locs hP hS => ?_)
    refine lv_aload_n hx hb dL_law_491 rfl (lv_at hl 2 rfl) ?_
    refine lv_aload_n hx hb dL_law_492 rfl (lv_at hl 0 rfl) ?_
    refine lv_iload_n hx hb dL_law_493 rfl (lv_at hl 3 rfl) ?_
    refine lv_iconst (v := 1) hx hb dL_law_494 (by decide) ?_
    refine lv_iadd hx hb dL_law_495 ?_
    rw [show nI i + (1 : Int32) = nI (i + 1) from nI_add i 1]
    refine og_sld (j := i + 1) (v := (xs (i + 1))) hx hb hX hbl hbA hS (by omega) (by omega) rfl dL_law_496 ?_
    refine lv_aload_n hx hb dL_law_497 rfl (lv_at hl 0 rfl) ?_
    refine lv_iload_n hx hb dL_law_498 rfl (lv_at hl 3 rfl) ?_
    refine lv_iconst (v := 2) hx hb dL_law_499 (by decide) ?_
    refine lv_iadd hx hb dL_law_500 ?_
    rw [show nI i + (2 : Int32) = nI (i + 2) from nI_add i 2]
    refine og_sld (j := i + 2) (v := (xs (i + 2))) hx hb hX hbl hbA hS (by omega) (by omega) rfl dL_law_501 ?_
    refine lv_aload_n hx hb dL_law_502 rfl (lv_at hl 0 rfl) ?_
    refine lv_iload_n hx hb dL_law_503 rfl (lv_at hl 3 rfl) ?_
    refine lv_iconst (v := 3) hx hb dL_law_504 (by decide) ?_
    refine lv_iadd hx hb dL_law_505 ?_
    rw [show nI i + (3 : Int32) = nI (i + 3) from nI_add i 3]
    refine og_sld (j := i + 3) (v := (xs (i + 3))) hx hb hX hbl hbA hS (by omega) (by omega) rfl dL_law_506 ?_
    refine lv_if_eq (tgt := 514) hx hb dL_law_507 (by decide) (fun c => absurd c c_1) (fun _ => ?_)
    refine lv_iconst (v := 1) hx hb dL_law_510 (by decide) ?_
    refine lv_goto (tgt := 515) hx hb dL_law_511 (by decide) ?_
    refine og_ciW (og_runV (C := RX4) (T := TX4) (N := 19) (g := 10) (i := 0) (As := [.int (xs (i + 1)), .int (xs (i + 2)), .int 1]) (rest := [.int ((fX3_put st (xs (i + 1)) (xs (i + 2)) 1).1)]) ⟨hx, hb, hml, hown, hts⟩ (kX4_put l D ca ad A (fX3_put st (xs (i + 1)) (xs (i + 2)) 1).2 (xs (i + 1)) (xs (i + 2)) 1 (MOK_of (RL_mok h) (mk_put h (xs (i + 1)) (xs (i + 2)) (1))).2.1) (cwV 3 hts gL_law_X4_put rfl rfl rfl (by decide +kernel) ⟨Nat.le_of_ble_eq_true rfl, Nat.le_of_ble_eq_true rfl⟩) hC hP hS (ow_q10_0) rfl rfl rfl hl.1 rfl (Nat.le_of_ble_eq_true rfl) dL_law_515 ⟨Nat.le_refl _, Nat.le_refl _⟩) hS (fun H locs hP hS => ?_)
    refine lv_icmp_eq (tgt := 990) hx hb dL_law_518 (by decide) (fun _ => ?_) (fun c => absurd ((eq_put h (xs (i + 1)) (xs (i + 2)) (1)).1) c)
    exact K _ _ _ ls (eq_put h (xs (i + 1)) (xs (i + 2)) (1)).2 hP hS hl

set_option maxHeartbeats 4000000 in
set_option maxRecDepth 100000 in
theorem lawc_9 {p : Program} {l : Launch} {e : Env} {s : State} {m : MethodId} {below : List Frame} {meth : Method} {c : Code} {D : va_G} {ca : Nat → ClassId} {ad : ow_Ad} {b L : Nat} {xs : Nat → Int32} {Q : State → Prop} {A : Nat → Prop} (hx : p.tables.exec = Jvm.exec) (hb : c.code = cL_law) (hml : c.maxLocals = 4) (hown : s.vm.findClass RL = some m.cls) (hts : ∀ w ∈ wsL_law, w.before #[Value.ref b] s = true) (hC : ow_C D ca ad A s) (hbA : ¬ A b) (hX : va_X b L xs s s.heap) (hbl : b < s.heap.size) (hL : L ≤ 3072) {st : ow_St} {i : Nat} {H : Heap} {locs : List Loc} {ls : Array Slot} (hi : i + 6 ≤ L) (h : RLs st)  (hP : va_P D vwCl (ow_ws ad (ow_c ca ad st)) H) (hS : va_S A s.heap H locs) (hl : lv_has ls 4 [(0, .ref b), (1, .ref (ad 0 0)), (2, .ref (ad 10 0)), (3, .int (nI i))]) (K : ∀ (st : ow_St) (H : Heap) (locs : List Loc) (ls : Array Slot), RLs st → va_P D vwCl (ow_ws ad (ow_c ca ad st)) H → va_S A s.heap H locs → lv_has ls 4 [(0, .ref b), (1, .ref (ad 0 0)), (2, .ref (ad 10 0)), (3, .int (nI i))] → W p l e room_1 s m #[Value.ref b] below meth c H locs 600000 7302250 Q (F0 m 990 ls [])) : W p l e room_1 s m #[Value.ref b] below meth c H locs 600000 7302250 Q (F0 m 523 ls []) := by
  refine lv_aload_n hx hb dL_law_523 rfl (lv_at hl 1 rfl) ?_
  refine lv_aload_n hx hb dL_law_524 rfl (lv_at hl 0 rfl) ?_
  refine lv_iload_n hx hb dL_law_525 rfl (lv_at hl 3 rfl) ?_
  refine lv_iconst (v := 1) hx hb dL_law_526 (by decide) ?_
  refine lv_iadd hx hb dL_law_527 ?_
  rw [show nI i + (1 : Int32) = nI (i + 1) from nI_add i 1]
  refine og_sld (j := i + 1) (v := (xs (i + 1))) hx hb hX hbl hbA hS (by omega) (by omega) rfl dL_law_528 ?_
  refine lv_aload_n hx hb dL_law_529 rfl (lv_at hl 0 rfl) ?_
  refine lv_iload_n hx hb dL_law_530 rfl (lv_at hl 3 rfl) ?_
  refine lv_iconst (v := 2) hx hb dL_law_531 (by decide) ?_
  refine lv_iadd hx hb dL_law_532 ?_
  rw [show nI i + (2 : Int32) = nI (i + 2) from nI_add i 2]
  refine og_sld (j := i + 2) (v := (xs (i + 2))) hx hb hX hbl hbA hS (by omega) (by omega) rfl dL_law_533 ?_
  refine lv_aload_n hx hb dL_law_534 rfl (lv_at hl 0 rfl) ?_
  refine lv_iload_n hx hb dL_law_535 rfl (lv_at hl 3 rfl) ?_
  refine lv_iconst (v := 3) hx hb dL_law_536 (by decide) ?_
  refine lv_iadd hx hb dL_law_537 ?_
  rw [show nI i + (3 : Int32) = nI (i + 3) from nI_add i 3]
  refine og_sld (j := i + 3) (v := (xs (i + 3))) hx hb hX hbl hbA hS (by omega) (by omega) rfl dL_law_538 ?_
  refine lv_aload_n hx hb dL_law_539 rfl (lv_at hl 0 rfl) ?_
  refine lv_iload_n hx hb dL_law_540 rfl (lv_at hl 3 rfl) ?_
  refine lv_iconst (v := 4) hx hb dL_law_541 (by decide) ?_
  refine lv_iadd hx hb dL_law_542 ?_
  rw [show nI i + (4 : Int32) = nI (i + 4) from nI_add i 4]
  refine og_sld (j := i + 4) (v := (xs (i + 4))) hx hb hX hbl hbA hS (by omega) (by omega) rfl dL_law_543 ?_
  refine og_ciW (og_runV (C := RX3) (T := TX3) (N := 14) (g := 0) (i := 0) (As := [.int (xs (i + 1)), .int (xs (i + 2)), .int (xs (i + 3)), .int (xs (i + 4))]) (rest := []) ⟨hx, hb, hml, hown, hts⟩ (kX3_join l D ca ad A st (xs (i + 1)) (xs (i + 2)) (xs (i + 3)) (xs (i + 4)) (RL_sk h)) (cwV 4 hts gL_law_X3_join rfl rfl rfl (by decide +kernel) ⟨Nat.le_of_ble_eq_true rfl, Nat.le_of_ble_eq_true rfl⟩) hC hP hS (ow_q0_0) rfl rfl rfl hl.1 rfl (Nat.le_of_ble_eq_true rfl) dL_law_544 ⟨Nat.le_refl _, Nat.le_refl _⟩) hS (fun H locs hP hS => ?_)
  refine lv_aload_n hx hb dL_law_547 rfl (lv_at hl 2 rfl) ?_
  refine lv_aload_n hx hb dL_law_548 rfl (lv_at hl 0 rfl) ?_
  refine lv_iload_n hx hb dL_law_549 rfl (lv_at hl 3 rfl) ?_
  refine lv_iconst (v := 1) hx hb dL_law_550 (by decide) ?_
  refine lv_iadd hx hb dL_law_551 ?_
  rw [show nI i + (1 : Int32) = nI (i + 1) from nI_add i 1]
  refine og_sld (j := i + 1) (v := (xs (i + 1))) hx hb hX hbl hbA hS (by omega) (by omega) rfl dL_law_552 ?_
  refine lv_aload_n hx hb dL_law_553 rfl (lv_at hl 0 rfl) ?_
  refine lv_iload_n hx hb dL_law_554 rfl (lv_at hl 3 rfl) ?_
  refine lv_iconst (v := 2) hx hb dL_law_555 (by decide) ?_
  refine lv_iadd hx hb dL_law_556 ?_
  rw [show nI i + (2 : Int32) = nI (i + 2) from nI_add i 2]
  refine og_sld (j := i + 2) (v := (xs (i + 2))) hx hb hX hbl hbA hS (by omega) (by omega) rfl dL_law_557 ?_
  refine lv_aload_n hx hb dL_law_558 rfl (lv_at hl 0 rfl) ?_
  refine lv_iload_n hx hb dL_law_559 rfl (lv_at hl 3 rfl) ?_
  refine lv_iconst (v := 3) hx hb dL_law_560 (by decide) ?_
  refine lv_iadd hx hb dL_law_561 ?_
  rw [show nI i + (3 : Int32) = nI (i + 3) from nI_add i 3]
  refine og_sld (j := i + 3) (v := (xs (i + 3))) hx hb hX hbl hbA hS (by omega) (by omega) rfl dL_law_562 ?_
  refine lv_aload_n hx hb dL_law_563 rfl (lv_at hl 0 rfl) ?_
  refine lv_iload_n hx hb dL_law_564 rfl (lv_at hl 3 rfl) ?_
  refine lv_iconst (v := 4) hx hb dL_law_565 (by decide) ?_
  refine lv_iadd hx hb dL_law_566 ?_
  rw [show nI i + (4 : Int32) = nI (i + 4) from nI_add i 4]
  refine og_sld (j := i + 4) (v := (xs (i + 4))) hx hb hX hbl hbA hS (by omega) (by omega) rfl dL_law_567 ?_
  refine og_ciW (og_runV (C := RX4) (T := TX4) (N := 19) (g := 10) (i := 0) (As := [.int (xs (i + 1)), .int (xs (i + 2)), .int (xs (i + 3)), .int (xs (i + 4))]) (rest := [.int ((fX3_join st (xs (i + 1)) (xs (i + 2)) (xs (i + 3)) (xs (i + 4))).1)]) ⟨hx, hb, hml, hown, hts⟩ (kX4_join l D ca ad A (fX3_join st (xs (i + 1)) (xs (i + 2)) (xs (i + 3)) (xs (i + 4))).2 (xs (i + 1)) (xs (i + 2)) (xs (i + 3)) (xs (i + 4)) (MOK_of (RL_mok h) (mk_join h (xs (i + 1)) (xs (i + 2)) (xs (i + 3)) (xs (i + 4)))).2.1) (cwV 4 hts gL_law_X4_join rfl rfl rfl (by decide +kernel) ⟨Nat.le_of_ble_eq_true rfl, Nat.le_of_ble_eq_true rfl⟩) hC hP hS (ow_q10_0) rfl rfl rfl hl.1 rfl (Nat.le_of_ble_eq_true rfl) dL_law_568 ⟨Nat.le_refl _, Nat.le_refl _⟩) hS (fun H locs hP hS => ?_)
  refine lv_icmp_eq (tgt := 990) hx hb dL_law_571 (by decide) (fun _ => ?_) (fun c => absurd ((eq_join h (xs (i + 1)) (xs (i + 2)) (xs (i + 3)) (xs (i + 4))).1) c)
  exact K _ _ _ ls (eq_join h (xs (i + 1)) (xs (i + 2)) (xs (i + 3)) (xs (i + 4))).2 hP hS hl

set_option maxHeartbeats 4000000 in
set_option maxRecDepth 100000 in
theorem lawc_10 {p : Program} {l : Launch} {e : Env} {s : State} {m : MethodId} {below : List Frame} {meth : Method} {c : Code} {D : va_G} {ca : Nat → ClassId} {ad : ow_Ad} {b L : Nat} {xs : Nat → Int32} {Q : State → Prop} {A : Nat → Prop} (hx : p.tables.exec = Jvm.exec) (hb : c.code = cL_law) (hml : c.maxLocals = 4) (hown : s.vm.findClass RL = some m.cls) (hts : ∀ w ∈ wsL_law, w.before #[Value.ref b] s = true) (hC : ow_C D ca ad A s) (hbA : ¬ A b) (hX : va_X b L xs s s.heap) (hbl : b < s.heap.size) (hL : L ≤ 3072) {st : ow_St} {i : Nat} {H : Heap} {locs : List Loc} {ls : Array Slot} (hi : i + 6 ≤ L) (h : RLs st)  (hP : va_P D vwCl (ow_ws ad (ow_c ca ad st)) H) (hS : va_S A s.heap H locs) (hl : lv_has ls 4 [(0, .ref b), (1, .ref (ad 0 0)), (2, .ref (ad 10 0)), (3, .int (nI i))]) (K : ∀ (st : ow_St) (H : Heap) (locs : List Loc) (ls : Array Slot), RLs st → va_P D vwCl (ow_ws ad (ow_c ca ad st)) H → va_S A s.heap H locs → lv_has ls 4 [(0, .ref b), (1, .ref (ad 0 0)), (2, .ref (ad 10 0)), (3, .int (nI i))] → W p l e room_1 s m #[Value.ref b] below meth c H locs 600000 7302250 Q (F0 m 990 ls [])) : W p l e room_1 s m #[Value.ref b] below meth c H locs 600000 7302250 Q (F0 m 576 ls []) := by
  refine lv_aload_n hx hb dL_law_576 rfl (lv_at hl 1 rfl) ?_
  refine lv_aload_n hx hb dL_law_577 rfl (lv_at hl 0 rfl) ?_
  refine lv_iload_n hx hb dL_law_578 rfl (lv_at hl 3 rfl) ?_
  refine lv_iconst (v := 1) hx hb dL_law_579 (by decide) ?_
  refine lv_iadd hx hb dL_law_580 ?_
  rw [show nI i + (1 : Int32) = nI (i + 1) from nI_add i 1]
  refine og_sld (j := i + 1) (v := (xs (i + 1))) hx hb hX hbl hbA hS (by omega) (by omega) rfl dL_law_581 ?_
  refine lv_aload_n hx hb dL_law_582 rfl (lv_at hl 0 rfl) ?_
  refine lv_iload_n hx hb dL_law_583 rfl (lv_at hl 3 rfl) ?_
  refine lv_iconst (v := 2) hx hb dL_law_584 (by decide) ?_
  refine lv_iadd hx hb dL_law_585 ?_
  rw [show nI i + (2 : Int32) = nI (i + 2) from nI_add i 2]
  refine og_sld (j := i + 2) (v := (xs (i + 2))) hx hb hX hbl hbA hS (by omega) (by omega) rfl dL_law_586 ?_
  refine og_ciP (og_runV (C := RX3) (T := TX3) (N := 14) (g := 0) (i := 0) (As := [.int (xs (i + 1)), .int (xs (i + 2))]) (rest := []) ⟨hx, hb, hml, hown, hts⟩ (kX3_member l D ca ad A st (xs (i + 1)) (xs (i + 2)) (RL_sk h)) (cwV 2 hts gL_law_X3_member rfl rfl rfl (by decide +kernel) ⟨Nat.le_of_ble_eq_true rfl, Nat.le_of_ble_eq_true rfl⟩) hC hP hS (ow_q0_0) rfl rfl rfl hl.1 rfl (Nat.le_of_ble_eq_true rfl) dL_law_587 ⟨Nat.le_refl _, Nat.le_refl _⟩) hS (fun H locs hP hS => ?_)
  refine lv_aload_n hx hb dL_law_590 rfl (lv_at hl 2 rfl) ?_
  refine lv_aload_n hx hb dL_law_591 rfl (lv_at hl 0 rfl) ?_
  refine lv_iload_n hx hb dL_law_592 rfl (lv_at hl 3 rfl) ?_
  refine lv_iconst (v := 1) hx hb dL_law_593 (by decide) ?_
  refine lv_iadd hx hb dL_law_594 ?_
  rw [show nI i + (1 : Int32) = nI (i + 1) from nI_add i 1]
  refine og_sld (j := i + 1) (v := (xs (i + 1))) hx hb hX hbl hbA hS (by omega) (by omega) rfl dL_law_595 ?_
  refine lv_aload_n hx hb dL_law_596 rfl (lv_at hl 0 rfl) ?_
  refine lv_iload_n hx hb dL_law_597 rfl (lv_at hl 3 rfl) ?_
  refine lv_iconst (v := 2) hx hb dL_law_598 (by decide) ?_
  refine lv_iadd hx hb dL_law_599 ?_
  rw [show nI i + (2 : Int32) = nI (i + 2) from nI_add i 2]
  refine og_sld (j := i + 2) (v := (xs (i + 2))) hx hb hX hbl hbA hS (by omega) (by omega) rfl dL_law_600 ?_
  refine og_ciP (og_runV (C := RX4) (T := TX4) (N := 19) (g := 10) (i := 0) (As := [.int (xs (i + 1)), .int (xs (i + 2))]) (rest := [.int (fX3_member st (xs (i + 1)) (xs (i + 2)))]) ⟨hx, hb, hml, hown, hts⟩ (kX4_member l D ca ad A st (xs (i + 1)) (xs (i + 2)) (RL_mok h).2.1) (cwV 2 hts gL_law_X4_member rfl rfl rfl (by decide +kernel) ⟨Nat.le_of_ble_eq_true rfl, Nat.le_of_ble_eq_true rfl⟩) hC hP hS (ow_q10_0) rfl rfl rfl hl.1 rfl (Nat.le_of_ble_eq_true rfl) dL_law_601 ⟨Nat.le_refl _, Nat.le_refl _⟩) hS (fun H locs hP hS => ?_)
  refine lv_icmp_eq (tgt := 990) hx hb dL_law_604 (by decide) (fun _ => ?_) (fun c => absurd (eq_member h (xs (i + 1)) (xs (i + 2))) c)
  exact K _ _ _ ls h hP hS hl

set_option maxHeartbeats 4000000 in
set_option maxRecDepth 100000 in
theorem lawc_11 {p : Program} {l : Launch} {e : Env} {s : State} {m : MethodId} {below : List Frame} {meth : Method} {c : Code} {D : va_G} {ca : Nat → ClassId} {ad : ow_Ad} {b L : Nat} {xs : Nat → Int32} {Q : State → Prop} {A : Nat → Prop} (hx : p.tables.exec = Jvm.exec) (hb : c.code = cL_law) (hml : c.maxLocals = 4) (hown : s.vm.findClass RL = some m.cls) (hts : ∀ w ∈ wsL_law, w.before #[Value.ref b] s = true) (hC : ow_C D ca ad A s) (hbA : ¬ A b) (hX : va_X b L xs s s.heap) (hbl : b < s.heap.size) (hL : L ≤ 3072) {st : ow_St} {i : Nat} {H : Heap} {locs : List Loc} {ls : Array Slot} (hi : i + 6 ≤ L) (h : RLs st)  (hP : va_P D vwCl (ow_ws ad (ow_c ca ad st)) H) (hS : va_S A s.heap H locs) (hl : lv_has ls 4 [(0, .ref b), (1, .ref (ad 0 0)), (2, .ref (ad 10 0)), (3, .int (nI i))]) (K : ∀ (st : ow_St) (H : Heap) (locs : List Loc) (ls : Array Slot), RLs st → va_P D vwCl (ow_ws ad (ow_c ca ad st)) H → va_S A s.heap H locs → lv_has ls 4 [(0, .ref b), (1, .ref (ad 0 0)), (2, .ref (ad 10 0)), (3, .int (nI i))] → W p l e room_1 s m #[Value.ref b] below meth c H locs 600000 7302250 Q (F0 m 990 ls [])) : W p l e room_1 s m #[Value.ref b] below meth c H locs 600000 7302250 Q (F0 m 609 ls []) := by
  refine lv_aload_n hx hb dL_law_609 rfl (lv_at hl 1 rfl) ?_
  refine lv_aload_n hx hb dL_law_610 rfl (lv_at hl 0 rfl) ?_
  refine lv_iload_n hx hb dL_law_611 rfl (lv_at hl 3 rfl) ?_
  refine lv_iconst (v := 1) hx hb dL_law_612 (by decide) ?_
  refine lv_iadd hx hb dL_law_613 ?_
  rw [show nI i + (1 : Int32) = nI (i + 1) from nI_add i 1]
  refine og_sld (j := i + 1) (v := (xs (i + 1))) hx hb hX hbl hbA hS (by omega) (by omega) rfl dL_law_614 ?_
  refine lv_aload_n hx hb dL_law_615 rfl (lv_at hl 0 rfl) ?_
  refine lv_iload_n hx hb dL_law_616 rfl (lv_at hl 3 rfl) ?_
  refine lv_iconst (v := 2) hx hb dL_law_617 (by decide) ?_
  refine lv_iadd hx hb dL_law_618 ?_
  rw [show nI i + (2 : Int32) = nI (i + 2) from nI_add i 2]
  refine og_sld (j := i + 2) (v := (xs (i + 2))) hx hb hX hbl hbA hS (by omega) (by omega) rfl dL_law_619 ?_
  refine og_ciP (og_runV (C := RX3) (T := TX3) (N := 14) (g := 0) (i := 0) (As := [.int (xs (i + 1)), .int (xs (i + 2))]) (rest := []) ⟨hx, hb, hml, hown, hts⟩ (kX3_about l D ca ad A st (xs (i + 1)) (xs (i + 2)) (RL_sk h)) (cwV 2 hts gL_law_X3_about rfl rfl rfl (by decide +kernel) ⟨Nat.le_of_ble_eq_true rfl, Nat.le_of_ble_eq_true rfl⟩) hC hP hS (ow_q0_0) rfl rfl rfl hl.1 rfl (Nat.le_of_ble_eq_true rfl) dL_law_620 ⟨Nat.le_refl _, Nat.le_refl _⟩) hS (fun H locs hP hS => ?_)
  refine lv_aload_n hx hb dL_law_623 rfl (lv_at hl 2 rfl) ?_
  refine lv_aload_n hx hb dL_law_624 rfl (lv_at hl 0 rfl) ?_
  refine lv_iload_n hx hb dL_law_625 rfl (lv_at hl 3 rfl) ?_
  refine lv_iconst (v := 1) hx hb dL_law_626 (by decide) ?_
  refine lv_iadd hx hb dL_law_627 ?_
  rw [show nI i + (1 : Int32) = nI (i + 1) from nI_add i 1]
  refine og_sld (j := i + 1) (v := (xs (i + 1))) hx hb hX hbl hbA hS (by omega) (by omega) rfl dL_law_628 ?_
  refine lv_aload_n hx hb dL_law_629 rfl (lv_at hl 0 rfl) ?_
  refine lv_iload_n hx hb dL_law_630 rfl (lv_at hl 3 rfl) ?_
  refine lv_iconst (v := 2) hx hb dL_law_631 (by decide) ?_
  refine lv_iadd hx hb dL_law_632 ?_
  rw [show nI i + (2 : Int32) = nI (i + 2) from nI_add i 2]
  refine og_sld (j := i + 2) (v := (xs (i + 2))) hx hb hX hbl hbA hS (by omega) (by omega) rfl dL_law_633 ?_
  refine og_ciP (og_runV (C := RX4) (T := TX4) (N := 19) (g := 10) (i := 0) (As := [.int (xs (i + 1)), .int (xs (i + 2))]) (rest := [.int (fX3_about st (xs (i + 1)) (xs (i + 2)))]) ⟨hx, hb, hml, hown, hts⟩ (kX4_about l D ca ad A st (xs (i + 1)) (xs (i + 2))) (cwV 2 hts gL_law_X4_about rfl rfl rfl (by decide +kernel) ⟨Nat.le_of_ble_eq_true rfl, Nat.le_of_ble_eq_true rfl⟩) hC hP hS (ow_q10_0) rfl rfl rfl hl.1 rfl (Nat.le_of_ble_eq_true rfl) dL_law_634 ⟨Nat.le_refl _, Nat.le_refl _⟩) hS (fun H locs hP hS => ?_)
  refine lv_icmp_eq (tgt := 990) hx hb dL_law_637 (by decide) (fun _ => ?_) (fun c => absurd (eq_about h (xs (i + 1)) (xs (i + 2))) c)
  exact K _ _ _ ls h hP hS hl

set_option maxHeartbeats 4000000 in
set_option maxRecDepth 100000 in
theorem lawc_12_0 {p : Program} {l : Launch} {e : Env} {s : State} {m : MethodId} {below : List Frame} {meth : Method} {c : Code} {D : va_G} {ca : Nat → ClassId} {ad : ow_Ad} {b L : Nat} {xs : Nat → Int32} {Q : State → Prop} {A : Nat → Prop} (hx : p.tables.exec = Jvm.exec) (hb : c.code = cL_law) (hml : c.maxLocals = 4) (hown : s.vm.findClass RL = some m.cls) (hts : ∀ w ∈ wsL_law, w.before #[Value.ref b] s = true) (hC : ow_C D ca ad A s) (hbA : ¬ A b) (hX : va_X b L xs s s.heap) (hbl : b < s.heap.size) (hL : L ≤ 3072) {st : ow_St} {i : Nat} {H : Heap} {locs : List Loc} {ls : Array Slot} (hi : i + 6 ≤ L) (h : RLs st) (hf1 : xs (i + 1) = 0) (hP : va_P D vwCl (ow_ws ad (ow_c ca ad st)) H) (hS : va_S A s.heap H locs) (hl : lv_has ls 4 [(0, .ref b), (1, .ref (ad 0 0)), (2, .ref (ad 10 0)), (3, .int (nI i))]) (K : ∀ (st : ow_St) (H : Heap) (locs : List Loc) (ls : Array Slot), RLs st → va_P D vwCl (ow_ws ad (ow_c ca ad st)) H → va_S A s.heap H locs → lv_has ls 4 [(0, .ref b), (1, .ref (ad 0 0)), (2, .ref (ad 10 0)), (3, .int (nI i))] → W p l e room_1 s m #[Value.ref b] below meth c H locs 600000 7302250 Q (F0 m 990 ls [])) : W p l e room_1 s m #[Value.ref b] below meth c H locs 600000 7302250 Q (F0 m 642 ls []) := by
  refine lv_aload_n hx hb dL_law_642 rfl (lv_at hl 1 rfl) ?_
  refine lv_aload_n hx hb dL_law_643 rfl (lv_at hl 0 rfl) ?_
  refine lv_iload_n hx hb dL_law_644 rfl (lv_at hl 3 rfl) ?_
  refine lv_iconst (v := 1) hx hb dL_law_645 (by decide) ?_
  refine lv_iadd hx hb dL_law_646 ?_
  rw [show nI i + (1 : Int32) = nI (i + 1) from nI_add i 1]
  refine og_sld (j := i + 1) (v := 0) hx hb hX hbl hbA hS (by omega) (by omega) hf1 dL_law_647 ?_
  refine lv_aload_n hx hb dL_law_648 rfl (lv_at hl 0 rfl) ?_
  refine lv_iload_n hx hb dL_law_649 rfl (lv_at hl 3 rfl) ?_
  refine lv_iconst (v := 2) hx hb dL_law_650 (by decide) ?_
  refine lv_iadd hx hb dL_law_651 ?_
  rw [show nI i + (2 : Int32) = nI (i + 2) from nI_add i 2]
  refine og_sld (j := i + 2) (v := (xs (i + 2))) hx hb hX hbl hbA hS (by omega) (by omega) rfl dL_law_652 ?_
  refine lv_aload_n hx hb dL_law_653 rfl (lv_at hl 0 rfl) ?_
  refine lv_iload_n hx hb dL_law_654 rfl (lv_at hl 3 rfl) ?_
  refine lv_iconst (v := 3) hx hb dL_law_655 (by decide) ?_
  refine lv_iadd hx hb dL_law_656 ?_
  rw [show nI i + (3 : Int32) = nI (i + 3) from nI_add i 3]
  refine og_sld (j := i + 3) (v := (xs (i + 3))) hx hb hX hbl hbA hS (by omega) (by omega) rfl dL_law_657 ?_
  refine lv_aload_n hx hb dL_law_658 rfl (lv_at hl 0 rfl) ?_
  refine lv_iload_n hx hb dL_law_659 rfl (lv_at hl 3 rfl) ?_
  refine lv_iconst (v := 4) hx hb dL_law_660 (by decide) ?_
  refine lv_iadd hx hb dL_law_661 ?_
  rw [show nI i + (4 : Int32) = nI (i + 4) from nI_add i 4]
  refine og_sld (j := i + 4) (v := (xs (i + 4))) hx hb hX hbl hbA hS (by omega) (by omega) rfl dL_law_662 ?_
  refine lv_aload_n hx hb dL_law_663 rfl (lv_at hl 0 rfl) ?_
  refine lv_iload_n hx hb dL_law_664 rfl (lv_at hl 3 rfl) ?_
  refine lv_iconst (v := 5) hx hb dL_law_665 (by decide) ?_
  refine lv_iadd hx hb dL_law_666 ?_
  rw [show nI i + (5 : Int32) = nI (i + 5) from nI_add i 5]
  refine og_sld (j := i + 5) (v := (xs (i + 5))) hx hb hX hbl hbA hS (by omega) (by omega) rfl dL_law_667 ?_
  refine og_ciW (og_runV (C := RX3) (T := TX3) (N := 14) (g := 0) (i := 0) (As := [.int 0, .int (xs (i + 2)), .int (xs (i + 3)), .int (xs (i + 4)), .int (xs (i + 5))]) (rest := []) ⟨hx, hb, hml, hown, hts⟩ (kX3_record l D ca ad A st 0 (xs (i + 2)) (xs (i + 3)) (xs (i + 4)) (xs (i + 5)) (RL_sz h (by decide)) (RL_sz h (by decide))) (cwV 5 hts gL_law_X3_record rfl rfl rfl (by decide +kernel) ⟨Nat.le_of_ble_eq_true rfl, Nat.le_of_ble_eq_true rfl⟩) hC hP hS (ow_q0_0) rfl rfl rfl hl.1 rfl (Nat.le_of_ble_eq_true rfl) dL_law_668 ⟨Nat.le_refl _, Nat.le_refl _⟩) hS (fun H locs hP hS => ?_)
  refine lv_aload_n hx hb dL_law_671 rfl (lv_at hl 2 rfl) ?_
  refine lv_aload_n hx hb dL_law_672 rfl (lv_at hl 0 rfl) ?_
  refine lv_iload_n hx hb dL_law_673 rfl (lv_at hl 3 rfl) ?_
  refine lv_iconst (v := 1) hx hb dL_law_674 (by decide) ?_
  refine lv_iadd hx hb dL_law_675 ?_
  rw [show nI i + (1 : Int32) = nI (i + 1) from nI_add i 1]
  refine og_sld (j := i + 1) (v := 0) hx hb hX hbl hbA hS (by omega) (by omega) hf1 dL_law_676 ?_
  refine lv_aload_n hx hb dL_law_677 rfl (lv_at hl 0 rfl) ?_
  refine lv_iload_n hx hb dL_law_678 rfl (lv_at hl 3 rfl) ?_
  refine lv_iconst (v := 2) hx hb dL_law_679 (by decide) ?_
  refine lv_iadd hx hb dL_law_680 ?_
  rw [show nI i + (2 : Int32) = nI (i + 2) from nI_add i 2]
  refine og_sld (j := i + 2) (v := (xs (i + 2))) hx hb hX hbl hbA hS (by omega) (by omega) rfl dL_law_681 ?_
  refine lv_aload_n hx hb dL_law_682 rfl (lv_at hl 0 rfl) ?_
  refine lv_iload_n hx hb dL_law_683 rfl (lv_at hl 3 rfl) ?_
  refine lv_iconst (v := 3) hx hb dL_law_684 (by decide) ?_
  refine lv_iadd hx hb dL_law_685 ?_
  rw [show nI i + (3 : Int32) = nI (i + 3) from nI_add i 3]
  refine og_sld (j := i + 3) (v := (xs (i + 3))) hx hb hX hbl hbA hS (by omega) (by omega) rfl dL_law_686 ?_
  refine lv_aload_n hx hb dL_law_687 rfl (lv_at hl 0 rfl) ?_
  refine lv_iload_n hx hb dL_law_688 rfl (lv_at hl 3 rfl) ?_
  refine lv_iconst (v := 4) hx hb dL_law_689 (by decide) ?_
  refine lv_iadd hx hb dL_law_690 ?_
  rw [show nI i + (4 : Int32) = nI (i + 4) from nI_add i 4]
  refine og_sld (j := i + 4) (v := (xs (i + 4))) hx hb hX hbl hbA hS (by omega) (by omega) rfl dL_law_691 ?_
  refine lv_aload_n hx hb dL_law_692 rfl (lv_at hl 0 rfl) ?_
  refine lv_iload_n hx hb dL_law_693 rfl (lv_at hl 3 rfl) ?_
  refine lv_iconst (v := 5) hx hb dL_law_694 (by decide) ?_
  refine lv_iadd hx hb dL_law_695 ?_
  rw [show nI i + (5 : Int32) = nI (i + 5) from nI_add i 5]
  refine og_sld (j := i + 5) (v := (xs (i + 5))) hx hb hX hbl hbA hS (by omega) (by omega) rfl dL_law_696 ?_
  refine og_ciW (og_runV (C := RX4) (T := TX4) (N := 19) (g := 10) (i := 0) (As := [.int 0, .int (xs (i + 2)), .int (xs (i + 3)), .int (xs (i + 4)), .int (xs (i + 5))]) (rest := [.int ((fX3_record st 0 (xs (i + 2)) (xs (i + 3)) (xs (i + 4)) (xs (i + 5))).1)]) ⟨hx, hb, hml, hown, hts⟩ (kX4_record_0 l D ca ad A (fX3_record st 0 (xs (i + 2)) (xs (i + 3)) (xs (i + 4)) (xs (i + 5))).2 (xs (i + 2)) (xs (i + 3)) (xs (i + 4)) (xs (i + 5)) ((MOK_of (RL_mok h) (mk_record_0 h (xs (i + 2)) (xs (i + 3)) (xs (i + 4)) (xs (i + 5)))).2.2.1 0 (by decide))) (cwV 5 hts gL_law_X4_record rfl rfl rfl (by decide +kernel) ⟨Nat.le_of_ble_eq_true rfl, Nat.le_of_ble_eq_true rfl⟩) hC hP hS (ow_q10_0) rfl rfl rfl hl.1 rfl (Nat.le_of_ble_eq_true rfl) dL_law_697 ⟨Nat.le_refl _, Nat.le_refl _⟩) hS (fun H locs hP hS => ?_)
  refine lv_icmp_eq (tgt := 990) hx hb dL_law_700 (by decide) (fun _ => ?_) (fun c => absurd ((eq_record_0 h (xs (i + 2)) (xs (i + 3)) (xs (i + 4)) (xs (i + 5))).1) c)
  exact K _ _ _ ls (eq_record_0 h (xs (i + 2)) (xs (i + 3)) (xs (i + 4)) (xs (i + 5))).2 hP hS hl

set_option maxHeartbeats 4000000 in
set_option maxRecDepth 100000 in
theorem lawc_12_1 {p : Program} {l : Launch} {e : Env} {s : State} {m : MethodId} {below : List Frame} {meth : Method} {c : Code} {D : va_G} {ca : Nat → ClassId} {ad : ow_Ad} {b L : Nat} {xs : Nat → Int32} {Q : State → Prop} {A : Nat → Prop} (hx : p.tables.exec = Jvm.exec) (hb : c.code = cL_law) (hml : c.maxLocals = 4) (hown : s.vm.findClass RL = some m.cls) (hts : ∀ w ∈ wsL_law, w.before #[Value.ref b] s = true) (hC : ow_C D ca ad A s) (hbA : ¬ A b) (hX : va_X b L xs s s.heap) (hbl : b < s.heap.size) (hL : L ≤ 3072) {st : ow_St} {i : Nat} {H : Heap} {locs : List Loc} {ls : Array Slot} (hi : i + 6 ≤ L) (h : RLs st) (hf1 : xs (i + 1) = 1) (hP : va_P D vwCl (ow_ws ad (ow_c ca ad st)) H) (hS : va_S A s.heap H locs) (hl : lv_has ls 4 [(0, .ref b), (1, .ref (ad 0 0)), (2, .ref (ad 10 0)), (3, .int (nI i))]) (K : ∀ (st : ow_St) (H : Heap) (locs : List Loc) (ls : Array Slot), RLs st → va_P D vwCl (ow_ws ad (ow_c ca ad st)) H → va_S A s.heap H locs → lv_has ls 4 [(0, .ref b), (1, .ref (ad 0 0)), (2, .ref (ad 10 0)), (3, .int (nI i))] → W p l e room_1 s m #[Value.ref b] below meth c H locs 600000 7302250 Q (F0 m 990 ls [])) : W p l e room_1 s m #[Value.ref b] below meth c H locs 600000 7302250 Q (F0 m 642 ls []) := by
  refine lv_aload_n hx hb dL_law_642 rfl (lv_at hl 1 rfl) ?_
  refine lv_aload_n hx hb dL_law_643 rfl (lv_at hl 0 rfl) ?_
  refine lv_iload_n hx hb dL_law_644 rfl (lv_at hl 3 rfl) ?_
  refine lv_iconst (v := 1) hx hb dL_law_645 (by decide) ?_
  refine lv_iadd hx hb dL_law_646 ?_
  rw [show nI i + (1 : Int32) = nI (i + 1) from nI_add i 1]
  refine og_sld (j := i + 1) (v := 1) hx hb hX hbl hbA hS (by omega) (by omega) hf1 dL_law_647 ?_
  refine lv_aload_n hx hb dL_law_648 rfl (lv_at hl 0 rfl) ?_
  refine lv_iload_n hx hb dL_law_649 rfl (lv_at hl 3 rfl) ?_
  refine lv_iconst (v := 2) hx hb dL_law_650 (by decide) ?_
  refine lv_iadd hx hb dL_law_651 ?_
  rw [show nI i + (2 : Int32) = nI (i + 2) from nI_add i 2]
  refine og_sld (j := i + 2) (v := (xs (i + 2))) hx hb hX hbl hbA hS (by omega) (by omega) rfl dL_law_652 ?_
  refine lv_aload_n hx hb dL_law_653 rfl (lv_at hl 0 rfl) ?_
  refine lv_iload_n hx hb dL_law_654 rfl (lv_at hl 3 rfl) ?_
  refine lv_iconst (v := 3) hx hb dL_law_655 (by decide) ?_
  refine lv_iadd hx hb dL_law_656 ?_
  rw [show nI i + (3 : Int32) = nI (i + 3) from nI_add i 3]
  refine og_sld (j := i + 3) (v := (xs (i + 3))) hx hb hX hbl hbA hS (by omega) (by omega) rfl dL_law_657 ?_
  refine lv_aload_n hx hb dL_law_658 rfl (lv_at hl 0 rfl) ?_
  refine lv_iload_n hx hb dL_law_659 rfl (lv_at hl 3 rfl) ?_
  refine lv_iconst (v := 4) hx hb dL_law_660 (by decide) ?_
  refine lv_iadd hx hb dL_law_661 ?_
  rw [show nI i + (4 : Int32) = nI (i + 4) from nI_add i 4]
  refine og_sld (j := i + 4) (v := (xs (i + 4))) hx hb hX hbl hbA hS (by omega) (by omega) rfl dL_law_662 ?_
  refine lv_aload_n hx hb dL_law_663 rfl (lv_at hl 0 rfl) ?_
  refine lv_iload_n hx hb dL_law_664 rfl (lv_at hl 3 rfl) ?_
  refine lv_iconst (v := 5) hx hb dL_law_665 (by decide) ?_
  refine lv_iadd hx hb dL_law_666 ?_
  rw [show nI i + (5 : Int32) = nI (i + 5) from nI_add i 5]
  refine og_sld (j := i + 5) (v := (xs (i + 5))) hx hb hX hbl hbA hS (by omega) (by omega) rfl dL_law_667 ?_
  refine og_ciW (og_runV (C := RX3) (T := TX3) (N := 14) (g := 0) (i := 0) (As := [.int 1, .int (xs (i + 2)), .int (xs (i + 3)), .int (xs (i + 4)), .int (xs (i + 5))]) (rest := []) ⟨hx, hb, hml, hown, hts⟩ (kX3_record l D ca ad A st 1 (xs (i + 2)) (xs (i + 3)) (xs (i + 4)) (xs (i + 5)) (RL_sz h (by decide)) (RL_sz h (by decide))) (cwV 5 hts gL_law_X3_record rfl rfl rfl (by decide +kernel) ⟨Nat.le_of_ble_eq_true rfl, Nat.le_of_ble_eq_true rfl⟩) hC hP hS (ow_q0_0) rfl rfl rfl hl.1 rfl (Nat.le_of_ble_eq_true rfl) dL_law_668 ⟨Nat.le_refl _, Nat.le_refl _⟩) hS (fun H locs hP hS => ?_)
  refine lv_aload_n hx hb dL_law_671 rfl (lv_at hl 2 rfl) ?_
  refine lv_aload_n hx hb dL_law_672 rfl (lv_at hl 0 rfl) ?_
  refine lv_iload_n hx hb dL_law_673 rfl (lv_at hl 3 rfl) ?_
  refine lv_iconst (v := 1) hx hb dL_law_674 (by decide) ?_
  refine lv_iadd hx hb dL_law_675 ?_
  rw [show nI i + (1 : Int32) = nI (i + 1) from nI_add i 1]
  refine og_sld (j := i + 1) (v := 1) hx hb hX hbl hbA hS (by omega) (by omega) hf1 dL_law_676 ?_
  refine lv_aload_n hx hb dL_law_677 rfl (lv_at hl 0 rfl) ?_
  refine lv_iload_n hx hb dL_law_678 rfl (lv_at hl 3 rfl) ?_
  refine lv_iconst (v := 2) hx hb dL_law_679 (by decide) ?_
  refine lv_iadd hx hb dL_law_680 ?_
  rw [show nI i + (2 : Int32) = nI (i + 2) from nI_add i 2]
  refine og_sld (j := i + 2) (v := (xs (i + 2))) hx hb hX hbl hbA hS (by omega) (by omega) rfl dL_law_681 ?_
  refine lv_aload_n hx hb dL_law_682 rfl (lv_at hl 0 rfl) ?_
  refine lv_iload_n hx hb dL_law_683 rfl (lv_at hl 3 rfl) ?_
  refine lv_iconst (v := 3) hx hb dL_law_684 (by decide) ?_
  refine lv_iadd hx hb dL_law_685 ?_
  rw [show nI i + (3 : Int32) = nI (i + 3) from nI_add i 3]
  refine og_sld (j := i + 3) (v := (xs (i + 3))) hx hb hX hbl hbA hS (by omega) (by omega) rfl dL_law_686 ?_
  refine lv_aload_n hx hb dL_law_687 rfl (lv_at hl 0 rfl) ?_
  refine lv_iload_n hx hb dL_law_688 rfl (lv_at hl 3 rfl) ?_
  refine lv_iconst (v := 4) hx hb dL_law_689 (by decide) ?_
  refine lv_iadd hx hb dL_law_690 ?_
  rw [show nI i + (4 : Int32) = nI (i + 4) from nI_add i 4]
  refine og_sld (j := i + 4) (v := (xs (i + 4))) hx hb hX hbl hbA hS (by omega) (by omega) rfl dL_law_691 ?_
  refine lv_aload_n hx hb dL_law_692 rfl (lv_at hl 0 rfl) ?_
  refine lv_iload_n hx hb dL_law_693 rfl (lv_at hl 3 rfl) ?_
  refine lv_iconst (v := 5) hx hb dL_law_694 (by decide) ?_
  refine lv_iadd hx hb dL_law_695 ?_
  rw [show nI i + (5 : Int32) = nI (i + 5) from nI_add i 5]
  refine og_sld (j := i + 5) (v := (xs (i + 5))) hx hb hX hbl hbA hS (by omega) (by omega) rfl dL_law_696 ?_
  refine og_ciW (og_runV (C := RX4) (T := TX4) (N := 19) (g := 10) (i := 0) (As := [.int 1, .int (xs (i + 2)), .int (xs (i + 3)), .int (xs (i + 4)), .int (xs (i + 5))]) (rest := [.int ((fX3_record st 1 (xs (i + 2)) (xs (i + 3)) (xs (i + 4)) (xs (i + 5))).1)]) ⟨hx, hb, hml, hown, hts⟩ (kX4_record_1 l D ca ad A (fX3_record st 1 (xs (i + 2)) (xs (i + 3)) (xs (i + 4)) (xs (i + 5))).2 (xs (i + 2)) (xs (i + 3)) (xs (i + 4)) (xs (i + 5)) ((MOK_of (RL_mok h) (mk_record_1 h (xs (i + 2)) (xs (i + 3)) (xs (i + 4)) (xs (i + 5)))).2.2.1 1 (by decide))) (cwV 5 hts gL_law_X4_record rfl rfl rfl (by decide +kernel) ⟨Nat.le_of_ble_eq_true rfl, Nat.le_of_ble_eq_true rfl⟩) hC hP hS (ow_q10_0) rfl rfl rfl hl.1 rfl (Nat.le_of_ble_eq_true rfl) dL_law_697 ⟨Nat.le_refl _, Nat.le_refl _⟩) hS (fun H locs hP hS => ?_)
  refine lv_icmp_eq (tgt := 990) hx hb dL_law_700 (by decide) (fun _ => ?_) (fun c => absurd ((eq_record_1 h (xs (i + 2)) (xs (i + 3)) (xs (i + 4)) (xs (i + 5))).1) c)
  exact K _ _ _ ls (eq_record_1 h (xs (i + 2)) (xs (i + 3)) (xs (i + 4)) (xs (i + 5))).2 hP hS hl

set_option maxHeartbeats 4000000 in
set_option maxRecDepth 100000 in
theorem lawc_12_n {p : Program} {l : Launch} {e : Env} {s : State} {m : MethodId} {below : List Frame} {meth : Method} {c : Code} {D : va_G} {ca : Nat → ClassId} {ad : ow_Ad} {b L : Nat} {xs : Nat → Int32} {Q : State → Prop} {A : Nat → Prop} (hx : p.tables.exec = Jvm.exec) (hb : c.code = cL_law) (hml : c.maxLocals = 4) (hown : s.vm.findClass RL = some m.cls) (hts : ∀ w ∈ wsL_law, w.before #[Value.ref b] s = true) (hC : ow_C D ca ad A s) (hbA : ¬ A b) (hX : va_X b L xs s s.heap) (hbl : b < s.heap.size) (hL : L ≤ 3072) {st : ow_St} {i : Nat} {H : Heap} {locs : List Loc} {ls : Array Slot} (hi : i + 6 ≤ L) (h : RLs st) (hn0 : ¬ xs (i + 1) = 0) (hn1 : ¬ xs (i + 1) = 1) (hP : va_P D vwCl (ow_ws ad (ow_c ca ad st)) H) (hS : va_S A s.heap H locs) (hl : lv_has ls 4 [(0, .ref b), (1, .ref (ad 0 0)), (2, .ref (ad 10 0)), (3, .int (nI i))]) (K : ∀ (st : ow_St) (H : Heap) (locs : List Loc) (ls : Array Slot), RLs st → va_P D vwCl (ow_ws ad (ow_c ca ad st)) H → va_S A s.heap H locs → lv_has ls 4 [(0, .ref b), (1, .ref (ad 0 0)), (2, .ref (ad 10 0)), (3, .int (nI i))] → W p l e room_1 s m #[Value.ref b] below meth c H locs 600000 7302250 Q (F0 m 990 ls [])) : W p l e room_1 s m #[Value.ref b] below meth c H locs 600000 7302250 Q (F0 m 642 ls []) := by
  refine lv_aload_n hx hb dL_law_642 rfl (lv_at hl 1 rfl) ?_
  refine lv_aload_n hx hb dL_law_643 rfl (lv_at hl 0 rfl) ?_
  refine lv_iload_n hx hb dL_law_644 rfl (lv_at hl 3 rfl) ?_
  refine lv_iconst (v := 1) hx hb dL_law_645 (by decide) ?_
  refine lv_iadd hx hb dL_law_646 ?_
  rw [show nI i + (1 : Int32) = nI (i + 1) from nI_add i 1]
  refine og_sld (j := i + 1) (v := (xs (i + 1))) hx hb hX hbl hbA hS (by omega) (by omega) rfl dL_law_647 ?_
  refine lv_aload_n hx hb dL_law_648 rfl (lv_at hl 0 rfl) ?_
  refine lv_iload_n hx hb dL_law_649 rfl (lv_at hl 3 rfl) ?_
  refine lv_iconst (v := 2) hx hb dL_law_650 (by decide) ?_
  refine lv_iadd hx hb dL_law_651 ?_
  rw [show nI i + (2 : Int32) = nI (i + 2) from nI_add i 2]
  refine og_sld (j := i + 2) (v := (xs (i + 2))) hx hb hX hbl hbA hS (by omega) (by omega) rfl dL_law_652 ?_
  refine lv_aload_n hx hb dL_law_653 rfl (lv_at hl 0 rfl) ?_
  refine lv_iload_n hx hb dL_law_654 rfl (lv_at hl 3 rfl) ?_
  refine lv_iconst (v := 3) hx hb dL_law_655 (by decide) ?_
  refine lv_iadd hx hb dL_law_656 ?_
  rw [show nI i + (3 : Int32) = nI (i + 3) from nI_add i 3]
  refine og_sld (j := i + 3) (v := (xs (i + 3))) hx hb hX hbl hbA hS (by omega) (by omega) rfl dL_law_657 ?_
  refine lv_aload_n hx hb dL_law_658 rfl (lv_at hl 0 rfl) ?_
  refine lv_iload_n hx hb dL_law_659 rfl (lv_at hl 3 rfl) ?_
  refine lv_iconst (v := 4) hx hb dL_law_660 (by decide) ?_
  refine lv_iadd hx hb dL_law_661 ?_
  rw [show nI i + (4 : Int32) = nI (i + 4) from nI_add i 4]
  refine og_sld (j := i + 4) (v := (xs (i + 4))) hx hb hX hbl hbA hS (by omega) (by omega) rfl dL_law_662 ?_
  refine lv_aload_n hx hb dL_law_663 rfl (lv_at hl 0 rfl) ?_
  refine lv_iload_n hx hb dL_law_664 rfl (lv_at hl 3 rfl) ?_
  refine lv_iconst (v := 5) hx hb dL_law_665 (by decide) ?_
  refine lv_iadd hx hb dL_law_666 ?_
  rw [show nI i + (5 : Int32) = nI (i + 5) from nI_add i 5]
  refine og_sld (j := i + 5) (v := (xs (i + 5))) hx hb hX hbl hbA hS (by omega) (by omega) rfl dL_law_667 ?_
  refine og_ciW (og_runV (C := RX3) (T := TX3) (N := 14) (g := 0) (i := 0) (As := [.int (xs (i + 1)), .int (xs (i + 2)), .int (xs (i + 3)), .int (xs (i + 4)), .int (xs (i + 5))]) (rest := []) ⟨hx, hb, hml, hown, hts⟩ (kX3_record l D ca ad A st (xs (i + 1)) (xs (i + 2)) (xs (i + 3)) (xs (i + 4)) (xs (i + 5)) (RL_sz h (by decide)) (RL_sz h (by decide))) (cwV 5 hts gL_law_X3_record rfl rfl rfl (by decide +kernel) ⟨Nat.le_of_ble_eq_true rfl, Nat.le_of_ble_eq_true rfl⟩) hC hP hS (ow_q0_0) rfl rfl rfl hl.1 rfl (Nat.le_of_ble_eq_true rfl) dL_law_668 ⟨Nat.le_refl _, Nat.le_refl _⟩) hS (fun H locs hP hS => ?_)
  refine lv_aload_n hx hb dL_law_671 rfl (lv_at hl 2 rfl) ?_
  refine lv_aload_n hx hb dL_law_672 rfl (lv_at hl 0 rfl) ?_
  refine lv_iload_n hx hb dL_law_673 rfl (lv_at hl 3 rfl) ?_
  refine lv_iconst (v := 1) hx hb dL_law_674 (by decide) ?_
  refine lv_iadd hx hb dL_law_675 ?_
  rw [show nI i + (1 : Int32) = nI (i + 1) from nI_add i 1]
  refine og_sld (j := i + 1) (v := (xs (i + 1))) hx hb hX hbl hbA hS (by omega) (by omega) rfl dL_law_676 ?_
  refine lv_aload_n hx hb dL_law_677 rfl (lv_at hl 0 rfl) ?_
  refine lv_iload_n hx hb dL_law_678 rfl (lv_at hl 3 rfl) ?_
  refine lv_iconst (v := 2) hx hb dL_law_679 (by decide) ?_
  refine lv_iadd hx hb dL_law_680 ?_
  rw [show nI i + (2 : Int32) = nI (i + 2) from nI_add i 2]
  refine og_sld (j := i + 2) (v := (xs (i + 2))) hx hb hX hbl hbA hS (by omega) (by omega) rfl dL_law_681 ?_
  refine lv_aload_n hx hb dL_law_682 rfl (lv_at hl 0 rfl) ?_
  refine lv_iload_n hx hb dL_law_683 rfl (lv_at hl 3 rfl) ?_
  refine lv_iconst (v := 3) hx hb dL_law_684 (by decide) ?_
  refine lv_iadd hx hb dL_law_685 ?_
  rw [show nI i + (3 : Int32) = nI (i + 3) from nI_add i 3]
  refine og_sld (j := i + 3) (v := (xs (i + 3))) hx hb hX hbl hbA hS (by omega) (by omega) rfl dL_law_686 ?_
  refine lv_aload_n hx hb dL_law_687 rfl (lv_at hl 0 rfl) ?_
  refine lv_iload_n hx hb dL_law_688 rfl (lv_at hl 3 rfl) ?_
  refine lv_iconst (v := 4) hx hb dL_law_689 (by decide) ?_
  refine lv_iadd hx hb dL_law_690 ?_
  rw [show nI i + (4 : Int32) = nI (i + 4) from nI_add i 4]
  refine og_sld (j := i + 4) (v := (xs (i + 4))) hx hb hX hbl hbA hS (by omega) (by omega) rfl dL_law_691 ?_
  refine lv_aload_n hx hb dL_law_692 rfl (lv_at hl 0 rfl) ?_
  refine lv_iload_n hx hb dL_law_693 rfl (lv_at hl 3 rfl) ?_
  refine lv_iconst (v := 5) hx hb dL_law_694 (by decide) ?_
  refine lv_iadd hx hb dL_law_695 ?_
  rw [show nI i + (5 : Int32) = nI (i + 5) from nI_add i 5]
  refine og_sld (j := i + 5) (v := (xs (i + 5))) hx hb hX hbl hbA hS (by omega) (by omega) rfl dL_law_696 ?_
  refine og_ciW (og_runV (C := RX4) (T := TX4) (N := 19) (g := 10) (i := 0) (As := [.int (xs (i + 1)), .int (xs (i + 2)), .int (xs (i + 3)), .int (xs (i + 4)), .int (xs (i + 5))]) (rest := [.int ((fX3_record st (xs (i + 1)) (xs (i + 2)) (xs (i + 3)) (xs (i + 4)) (xs (i + 5))).1)]) ⟨hx, hb, hml, hown, hts⟩ (kX4_record_n l D ca ad A (fX3_record st (xs (i + 1)) (xs (i + 2)) (xs (i + 3)) (xs (i + 4)) (xs (i + 5))).2 (xs (i + 1)) (xs (i + 2)) (xs (i + 3)) (xs (i + 4)) (xs (i + 5)) hn0 hn1) (cwV 5 hts gL_law_X4_record rfl rfl rfl (by decide +kernel) ⟨Nat.le_of_ble_eq_true rfl, Nat.le_of_ble_eq_true rfl⟩) hC hP hS (ow_q10_0) rfl rfl rfl hl.1 rfl (Nat.le_of_ble_eq_true rfl) dL_law_697 ⟨Nat.le_refl _, Nat.le_refl _⟩) hS (fun H locs hP hS => ?_)
  refine lv_icmp_eq (tgt := 990) hx hb dL_law_700 (by decide) (fun _ => ?_) (fun c => absurd ((eq_record_n h (xs (i + 1)) (xs (i + 2)) (xs (i + 3)) (xs (i + 4)) (xs (i + 5)) hn0 hn1).1) c)
  exact K _ _ _ ls (eq_record_n h (xs (i + 1)) (xs (i + 2)) (xs (i + 3)) (xs (i + 4)) (xs (i + 5)) hn0 hn1).2 hP hS hl

set_option maxHeartbeats 4000000 in
set_option maxRecDepth 100000 in
theorem lawc_13_0 {p : Program} {l : Launch} {e : Env} {s : State} {m : MethodId} {below : List Frame} {meth : Method} {c : Code} {D : va_G} {ca : Nat → ClassId} {ad : ow_Ad} {b L : Nat} {xs : Nat → Int32} {Q : State → Prop} {A : Nat → Prop} (hx : p.tables.exec = Jvm.exec) (hb : c.code = cL_law) (hml : c.maxLocals = 4) (hown : s.vm.findClass RL = some m.cls) (hts : ∀ w ∈ wsL_law, w.before #[Value.ref b] s = true) (hC : ow_C D ca ad A s) (hbA : ¬ A b) (hX : va_X b L xs s s.heap) (hbl : b < s.heap.size) (hL : L ≤ 3072) {st : ow_St} {i : Nat} {H : Heap} {locs : List Loc} {ls : Array Slot} (hi : i + 6 ≤ L) (h : RLs st) (hf1 : xs (i + 1) = 0) (hP : va_P D vwCl (ow_ws ad (ow_c ca ad st)) H) (hS : va_S A s.heap H locs) (hl : lv_has ls 4 [(0, .ref b), (1, .ref (ad 0 0)), (2, .ref (ad 10 0)), (3, .int (nI i))]) (K : ∀ (st : ow_St) (H : Heap) (locs : List Loc) (ls : Array Slot), RLs st → va_P D vwCl (ow_ws ad (ow_c ca ad st)) H → va_S A s.heap H locs → lv_has ls 4 [(0, .ref b), (1, .ref (ad 0 0)), (2, .ref (ad 10 0)), (3, .int (nI i))] → W p l e room_1 s m #[Value.ref b] below meth c H locs 600000 7302250 Q (F0 m 990 ls [])) : W p l e room_1 s m #[Value.ref b] below meth c H locs 600000 7302250 Q (F0 m 705 ls []) := by
  refine lv_aload_n hx hb dL_law_705 rfl (lv_at hl 1 rfl) ?_
  refine lv_aload_n hx hb dL_law_706 rfl (lv_at hl 0 rfl) ?_
  refine lv_iload_n hx hb dL_law_707 rfl (lv_at hl 3 rfl) ?_
  refine lv_iconst (v := 1) hx hb dL_law_708 (by decide) ?_
  refine lv_iadd hx hb dL_law_709 ?_
  rw [show nI i + (1 : Int32) = nI (i + 1) from nI_add i 1]
  refine og_sld (j := i + 1) (v := 0) hx hb hX hbl hbA hS (by omega) (by omega) hf1 dL_law_710 ?_
  refine lv_aload_n hx hb dL_law_711 rfl (lv_at hl 0 rfl) ?_
  refine lv_iload_n hx hb dL_law_712 rfl (lv_at hl 3 rfl) ?_
  refine lv_iconst (v := 2) hx hb dL_law_713 (by decide) ?_
  refine lv_iadd hx hb dL_law_714 ?_
  rw [show nI i + (2 : Int32) = nI (i + 2) from nI_add i 2]
  refine og_sld (j := i + 2) (v := (xs (i + 2))) hx hb hX hbl hbA hS (by omega) (by omega) rfl dL_law_715 ?_
  refine lv_aload_n hx hb dL_law_716 rfl (lv_at hl 0 rfl) ?_
  refine lv_iload_n hx hb dL_law_717 rfl (lv_at hl 3 rfl) ?_
  refine lv_iconst (v := 3) hx hb dL_law_718 (by decide) ?_
  refine lv_iadd hx hb dL_law_719 ?_
  rw [show nI i + (3 : Int32) = nI (i + 3) from nI_add i 3]
  refine og_sld (j := i + 3) (v := (xs (i + 3))) hx hb hX hbl hbA hS (by omega) (by omega) rfl dL_law_720 ?_
  refine lv_aload_n hx hb dL_law_721 rfl (lv_at hl 0 rfl) ?_
  refine lv_iload_n hx hb dL_law_722 rfl (lv_at hl 3 rfl) ?_
  refine lv_iconst (v := 4) hx hb dL_law_723 (by decide) ?_
  refine lv_iadd hx hb dL_law_724 ?_
  rw [show nI i + (4 : Int32) = nI (i + 4) from nI_add i 4]
  refine og_sld (j := i + 4) (v := (xs (i + 4))) hx hb hX hbl hbA hS (by omega) (by omega) rfl dL_law_725 ?_
  refine og_ciW (og_runV (C := RX3) (T := TX3) (N := 14) (g := 0) (i := 0) (As := [.int 0, .int (xs (i + 2)), .int (xs (i + 3)), .int (xs (i + 4))]) (rest := []) ⟨hx, hb, hml, hown, hts⟩ (kX3_lay l D ca ad A st 0 (xs (i + 2)) (xs (i + 3)) (xs (i + 4)) (RL_sz h (by decide)) (RL_sz h (by decide))) (cwV 4 hts gL_law_X3_lay rfl rfl rfl (by decide +kernel) ⟨Nat.le_of_ble_eq_true rfl, Nat.le_of_ble_eq_true rfl⟩) hC hP hS (ow_q0_0) rfl rfl rfl hl.1 rfl (Nat.le_of_ble_eq_true rfl) dL_law_726 ⟨Nat.le_refl _, Nat.le_refl _⟩) hS (fun H locs hP hS => ?_)
  refine lv_aload_n hx hb dL_law_729 rfl (lv_at hl 2 rfl) ?_
  refine lv_aload_n hx hb dL_law_730 rfl (lv_at hl 0 rfl) ?_
  refine lv_iload_n hx hb dL_law_731 rfl (lv_at hl 3 rfl) ?_
  refine lv_iconst (v := 1) hx hb dL_law_732 (by decide) ?_
  refine lv_iadd hx hb dL_law_733 ?_
  rw [show nI i + (1 : Int32) = nI (i + 1) from nI_add i 1]
  refine og_sld (j := i + 1) (v := 0) hx hb hX hbl hbA hS (by omega) (by omega) hf1 dL_law_734 ?_
  refine lv_aload_n hx hb dL_law_735 rfl (lv_at hl 0 rfl) ?_
  refine lv_iload_n hx hb dL_law_736 rfl (lv_at hl 3 rfl) ?_
  refine lv_iconst (v := 2) hx hb dL_law_737 (by decide) ?_
  refine lv_iadd hx hb dL_law_738 ?_
  rw [show nI i + (2 : Int32) = nI (i + 2) from nI_add i 2]
  refine og_sld (j := i + 2) (v := (xs (i + 2))) hx hb hX hbl hbA hS (by omega) (by omega) rfl dL_law_739 ?_
  refine lv_aload_n hx hb dL_law_740 rfl (lv_at hl 0 rfl) ?_
  refine lv_iload_n hx hb dL_law_741 rfl (lv_at hl 3 rfl) ?_
  refine lv_iconst (v := 3) hx hb dL_law_742 (by decide) ?_
  refine lv_iadd hx hb dL_law_743 ?_
  rw [show nI i + (3 : Int32) = nI (i + 3) from nI_add i 3]
  refine og_sld (j := i + 3) (v := (xs (i + 3))) hx hb hX hbl hbA hS (by omega) (by omega) rfl dL_law_744 ?_
  refine lv_aload_n hx hb dL_law_745 rfl (lv_at hl 0 rfl) ?_
  refine lv_iload_n hx hb dL_law_746 rfl (lv_at hl 3 rfl) ?_
  refine lv_iconst (v := 4) hx hb dL_law_747 (by decide) ?_
  refine lv_iadd hx hb dL_law_748 ?_
  rw [show nI i + (4 : Int32) = nI (i + 4) from nI_add i 4]
  refine og_sld (j := i + 4) (v := (xs (i + 4))) hx hb hX hbl hbA hS (by omega) (by omega) rfl dL_law_749 ?_
  refine og_ciW (og_runV (C := RX4) (T := TX4) (N := 19) (g := 10) (i := 0) (As := [.int 0, .int (xs (i + 2)), .int (xs (i + 3)), .int (xs (i + 4))]) (rest := [.int ((fX3_lay st 0 (xs (i + 2)) (xs (i + 3)) (xs (i + 4))).1)]) ⟨hx, hb, hml, hown, hts⟩ (kX4_lay_0 l D ca ad A (fX3_lay st 0 (xs (i + 2)) (xs (i + 3)) (xs (i + 4))).2 (xs (i + 2)) (xs (i + 3)) (xs (i + 4)) ((MOK_of (RL_mok h) (mk_lay_0 h (xs (i + 2)) (xs (i + 3)) (xs (i + 4)))).2.2.1 0 (by decide))) (cwV 4 hts gL_law_X4_lay rfl rfl rfl (by decide +kernel) ⟨Nat.le_of_ble_eq_true rfl, Nat.le_of_ble_eq_true rfl⟩) hC hP hS (ow_q10_0) rfl rfl rfl hl.1 rfl (Nat.le_of_ble_eq_true rfl) dL_law_750 ⟨Nat.le_refl _, Nat.le_refl _⟩) hS (fun H locs hP hS => ?_)
  refine lv_icmp_eq (tgt := 990) hx hb dL_law_753 (by decide) (fun _ => ?_) (fun c => absurd ((eq_lay_0 h (xs (i + 2)) (xs (i + 3)) (xs (i + 4))).1) c)
  exact K _ _ _ ls (eq_lay_0 h (xs (i + 2)) (xs (i + 3)) (xs (i + 4))).2 hP hS hl

set_option maxHeartbeats 4000000 in
set_option maxRecDepth 100000 in
theorem lawc_13_1 {p : Program} {l : Launch} {e : Env} {s : State} {m : MethodId} {below : List Frame} {meth : Method} {c : Code} {D : va_G} {ca : Nat → ClassId} {ad : ow_Ad} {b L : Nat} {xs : Nat → Int32} {Q : State → Prop} {A : Nat → Prop} (hx : p.tables.exec = Jvm.exec) (hb : c.code = cL_law) (hml : c.maxLocals = 4) (hown : s.vm.findClass RL = some m.cls) (hts : ∀ w ∈ wsL_law, w.before #[Value.ref b] s = true) (hC : ow_C D ca ad A s) (hbA : ¬ A b) (hX : va_X b L xs s s.heap) (hbl : b < s.heap.size) (hL : L ≤ 3072) {st : ow_St} {i : Nat} {H : Heap} {locs : List Loc} {ls : Array Slot} (hi : i + 6 ≤ L) (h : RLs st) (hf1 : xs (i + 1) = 1) (hP : va_P D vwCl (ow_ws ad (ow_c ca ad st)) H) (hS : va_S A s.heap H locs) (hl : lv_has ls 4 [(0, .ref b), (1, .ref (ad 0 0)), (2, .ref (ad 10 0)), (3, .int (nI i))]) (K : ∀ (st : ow_St) (H : Heap) (locs : List Loc) (ls : Array Slot), RLs st → va_P D vwCl (ow_ws ad (ow_c ca ad st)) H → va_S A s.heap H locs → lv_has ls 4 [(0, .ref b), (1, .ref (ad 0 0)), (2, .ref (ad 10 0)), (3, .int (nI i))] → W p l e room_1 s m #[Value.ref b] below meth c H locs 600000 7302250 Q (F0 m 990 ls [])) : W p l e room_1 s m #[Value.ref b] below meth c H locs 600000 7302250 Q (F0 m 705 ls []) := by
  refine lv_aload_n hx hb dL_law_705 rfl (lv_at hl 1 rfl) ?_
  refine lv_aload_n hx hb dL_law_706 rfl (lv_at hl 0 rfl) ?_
  refine lv_iload_n hx hb dL_law_707 rfl (lv_at hl 3 rfl) ?_
  refine lv_iconst (v := 1) hx hb dL_law_708 (by decide) ?_
  refine lv_iadd hx hb dL_law_709 ?_
  rw [show nI i + (1 : Int32) = nI (i + 1) from nI_add i 1]
  refine og_sld (j := i + 1) (v := 1) hx hb hX hbl hbA hS (by omega) (by omega) hf1 dL_law_710 ?_
  refine lv_aload_n hx hb dL_law_711 rfl (lv_at hl 0 rfl) ?_
  refine lv_iload_n hx hb dL_law_712 rfl (lv_at hl 3 rfl) ?_
  refine lv_iconst (v := 2) hx hb dL_law_713 (by decide) ?_
  refine lv_iadd hx hb dL_law_714 ?_
  rw [show nI i + (2 : Int32) = nI (i + 2) from nI_add i 2]
  refine og_sld (j := i + 2) (v := (xs (i + 2))) hx hb hX hbl hbA hS (by omega) (by omega) rfl dL_law_715 ?_
  refine lv_aload_n hx hb dL_law_716 rfl (lv_at hl 0 rfl) ?_
  refine lv_iload_n hx hb dL_law_717 rfl (lv_at hl 3 rfl) ?_
  refine lv_iconst (v := 3) hx hb dL_law_718 (by decide) ?_
  refine lv_iadd hx hb dL_law_719 ?_
  rw [show nI i + (3 : Int32) = nI (i + 3) from nI_add i 3]
  refine og_sld (j := i + 3) (v := (xs (i + 3))) hx hb hX hbl hbA hS (by omega) (by omega) rfl dL_law_720 ?_
  refine lv_aload_n hx hb dL_law_721 rfl (lv_at hl 0 rfl) ?_
  refine lv_iload_n hx hb dL_law_722 rfl (lv_at hl 3 rfl) ?_
  refine lv_iconst (v := 4) hx hb dL_law_723 (by decide) ?_
  refine lv_iadd hx hb dL_law_724 ?_
  rw [show nI i + (4 : Int32) = nI (i + 4) from nI_add i 4]
  refine og_sld (j := i + 4) (v := (xs (i + 4))) hx hb hX hbl hbA hS (by omega) (by omega) rfl dL_law_725 ?_
  refine og_ciW (og_runV (C := RX3) (T := TX3) (N := 14) (g := 0) (i := 0) (As := [.int 1, .int (xs (i + 2)), .int (xs (i + 3)), .int (xs (i + 4))]) (rest := []) ⟨hx, hb, hml, hown, hts⟩ (kX3_lay l D ca ad A st 1 (xs (i + 2)) (xs (i + 3)) (xs (i + 4)) (RL_sz h (by decide)) (RL_sz h (by decide))) (cwV 4 hts gL_law_X3_lay rfl rfl rfl (by decide +kernel) ⟨Nat.le_of_ble_eq_true rfl, Nat.le_of_ble_eq_true rfl⟩) hC hP hS (ow_q0_0) rfl rfl rfl hl.1 rfl (Nat.le_of_ble_eq_true rfl) dL_law_726 ⟨Nat.le_refl _, Nat.le_refl _⟩) hS (fun H locs hP hS => ?_)
  refine lv_aload_n hx hb dL_law_729 rfl (lv_at hl 2 rfl) ?_
  refine lv_aload_n hx hb dL_law_730 rfl (lv_at hl 0 rfl) ?_
  refine lv_iload_n hx hb dL_law_731 rfl (lv_at hl 3 rfl) ?_
  refine lv_iconst (v := 1) hx hb dL_law_732 (by decide) ?_
  refine lv_iadd hx hb dL_law_733 ?_
  rw [show nI i + (1 : Int32) = nI (i + 1) from nI_add i 1]
  refine og_sld (j := i + 1) (v := 1) hx hb hX hbl hbA hS (by omega) (by omega) hf1 dL_law_734 ?_
  refine lv_aload_n hx hb dL_law_735 rfl (lv_at hl 0 rfl) ?_
  refine lv_iload_n hx hb dL_law_736 rfl (lv_at hl 3 rfl) ?_
  refine lv_iconst (v := 2) hx hb dL_law_737 (by decide) ?_
  refine lv_iadd hx hb dL_law_738 ?_
  rw [show nI i + (2 : Int32) = nI (i + 2) from nI_add i 2]
  refine og_sld (j := i + 2) (v := (xs (i + 2))) hx hb hX hbl hbA hS (by omega) (by omega) rfl dL_law_739 ?_
  refine lv_aload_n hx hb dL_law_740 rfl (lv_at hl 0 rfl) ?_
  refine lv_iload_n hx hb dL_law_741 rfl (lv_at hl 3 rfl) ?_
  refine lv_iconst (v := 3) hx hb dL_law_742 (by decide) ?_
  refine lv_iadd hx hb dL_law_743 ?_
  rw [show nI i + (3 : Int32) = nI (i + 3) from nI_add i 3]
  refine og_sld (j := i + 3) (v := (xs (i + 3))) hx hb hX hbl hbA hS (by omega) (by omega) rfl dL_law_744 ?_
  refine lv_aload_n hx hb dL_law_745 rfl (lv_at hl 0 rfl) ?_
  refine lv_iload_n hx hb dL_law_746 rfl (lv_at hl 3 rfl) ?_
  refine lv_iconst (v := 4) hx hb dL_law_747 (by decide) ?_
  refine lv_iadd hx hb dL_law_748 ?_
  rw [show nI i + (4 : Int32) = nI (i + 4) from nI_add i 4]
  refine og_sld (j := i + 4) (v := (xs (i + 4))) hx hb hX hbl hbA hS (by omega) (by omega) rfl dL_law_749 ?_
  refine og_ciW (og_runV (C := RX4) (T := TX4) (N := 19) (g := 10) (i := 0) (As := [.int 1, .int (xs (i + 2)), .int (xs (i + 3)), .int (xs (i + 4))]) (rest := [.int ((fX3_lay st 1 (xs (i + 2)) (xs (i + 3)) (xs (i + 4))).1)]) ⟨hx, hb, hml, hown, hts⟩ (kX4_lay_1 l D ca ad A (fX3_lay st 1 (xs (i + 2)) (xs (i + 3)) (xs (i + 4))).2 (xs (i + 2)) (xs (i + 3)) (xs (i + 4)) ((MOK_of (RL_mok h) (mk_lay_1 h (xs (i + 2)) (xs (i + 3)) (xs (i + 4)))).2.2.1 1 (by decide))) (cwV 4 hts gL_law_X4_lay rfl rfl rfl (by decide +kernel) ⟨Nat.le_of_ble_eq_true rfl, Nat.le_of_ble_eq_true rfl⟩) hC hP hS (ow_q10_0) rfl rfl rfl hl.1 rfl (Nat.le_of_ble_eq_true rfl) dL_law_750 ⟨Nat.le_refl _, Nat.le_refl _⟩) hS (fun H locs hP hS => ?_)
  refine lv_icmp_eq (tgt := 990) hx hb dL_law_753 (by decide) (fun _ => ?_) (fun c => absurd ((eq_lay_1 h (xs (i + 2)) (xs (i + 3)) (xs (i + 4))).1) c)
  exact K _ _ _ ls (eq_lay_1 h (xs (i + 2)) (xs (i + 3)) (xs (i + 4))).2 hP hS hl
