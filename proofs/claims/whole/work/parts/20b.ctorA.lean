theorem va_RA_find {U : State} {cA : ClassId} {ty : FieldType} (h : va_RA U cA ty) : U.vm.findClass ("[" ++ ty.toString) = some cA := by
  cases ty with
  | object C =>
    obtain ⟨_, _, _, _, _, h4⟩ := h
    exact h4
  | _ => exact h
theorem ca_eq {D : va_G} {cl : List vw_C} {tys : List (ClassId × FieldType)} {s : State} {cA c0 : ClassId} {ty : FieldType} (hK : va_K D cl tys s) (hK9 : va_K D cl (tys ++ [(cA, ty)]) s) (k : Nat) (h : tys[k]? = some (c0, ty)) : c0 = cA := by
  have h1 := va_RA_find (hK.2 k _ h).2
  have h2 := va_RA_find (hK9.2 tys.length (cA, ty) (by simp)).2
  exact Option.some.inj (h1.symm.trans h2)
theorem mna_in (c : ClassId) : Jvm.Free.Multi.innerC c 30 (defaultValue .int) = vp_cell c (30, .inl (fun _ => 0)) := by
  rw [vp_cell_i]
  show ({ cls := c, slots := Array.replicate 30 (.int 0), vm := .none } : Cell) = _
  rw [arrV_new]
theorem mna_ws {r : Nat → Nat} {e : va_E} : va_pl ([] ++ (List.range 4).map r) (vr_up (fun _ => (.inr (0, []) : va_E)) ((List.range 4).map r) e) = [(r 0, e), (r 1, e), (r 2, e), (r 3, e)] := by
  have h : (List.range 4).map r = [r 0, r 1, r 2, r 3] := rfl
  rw [h]
  simp [va_pl, vr_up]
theorem va_AOA.find {U : State} (h : va_AOA .int U) : ∃ comp c k, U.vm.findClass "[I" = some comp ∧ (U.vm.classes.findIdx? fun (x : Class) => match x.kind with | .array component _ => component == comp | _ => false) = some c ∧ U.vm.classes[c]? = some k ∧ k.kind = .array comp (.array .int) ∧ U.vm.findClass "[[I" = some c := by
  have h : (Cond.arrayOver (.array .int)).holds #[] U none U [] = true := h
  simp only [Cond.holds, Cond.value, beq_iff_eq] at h
  cases hc : U.vm.findClass (FieldType.array .int).toString with
  | none => simp [hc] at h
  | some comp =>
    simp only [hc, Option.bind_some, Option.bind_eq_some_iff, Option.map_eq_some_iff] at h
    obtain ⟨c, hi, k, hk, hb⟩ := h
    obtain ⟨hlt, hp, -⟩ := Array.findIdx?_eq_some_iff_getElem.mp hi
    have hkk : U.vm.classes[c] = k := (Array.getElem?_eq_some_iff.mp hk).2
    rw [hkk] at hp
    cases hkind : k.kind with
    | array component ty =>
      rw [hkind] at hb hp
      simp at hb hp
      exact ⟨comp, c, k, hc, hi, hk, by rw [hkind, hp, hb.1], hb.2⟩
    | _ => rw [hkind] at hb; simp at hb
theorem va_AOA.moved {u U : State} (hvm : u.vm.Alike U.vm) (h : va_AOA .int u) : va_AOA .int U := by
  obtain ⟨comp, c, k, h1, h2, h3, h4, h5⟩ := h.find
  obtain ⟨k', hk', he⟩ := hvm.2.2 _ _ h3
  have hi : (U.vm.classes.findIdx? fun (x : Class) => match x.kind with | .array component _ => component == comp | _ => false) = some c := by
    have e1 := va_idx_bare U.vm comp
    have e2 := va_idx_bare u.vm comp
    have eb : U.vm.bare = u.vm.bare := by first | exact hvm.bare_eq | exact hvm.bare_eq.symm
    rw [eb] at e1
    exact e1.symm.trans (e2.trans h2)
  have hkind : k'.kind = .array comp (.array .int) := by rw [he]; exact h4
  have f1 : U.vm.findClass (FieldType.array .int).toString = some comp := by rw [hvm.findClass]; exact h1
  have f2 : U.vm.findClass ("[" ++ (FieldType.array .int).toString) = some c := by rw [hvm.findClass]; exact h5
  unfold va_AOA Cond.before Cond.holds
  simp only [Cond.value]
  rw [f1, Option.bind_some]
  refine (congrArg (fun o : Option Nat => (o.bind (fun c => (U.vm.classes[c]?).map fun (k : Class) => match k.kind with | .array _ ty => decide (ty = FieldType.array .int) && decide (U.vm.findClass ("[" ++ (FieldType.array .int).toString) = some c) | _ => false) == some true)) hi).trans ?_
  simp [hk', hkind, f2]
/-- the first i places hold their numbers -/
def kf (i j : Nat) : Int32 := if j < i then nI j else 0
theorem kf_0 : kf 0 = fun _ => 0 := by
  funext j
  simp [kf]
theorem kf_up {i : Nat} (h : i < 2 ^ 31) : upd (kf i) (nI i).toNatClampNeg (nI i) = kf (i + 1) := by
  rw [nI_clamp h]
  funext j
  unfold upd kf
  by_cases e : j = i
  · subst e
    simp
  · by_cases h2 : j < i
    · rw [if_neg e, if_pos h2, if_pos (by omega)]
    · rw [if_neg e, if_neg h2, if_neg (by omega)]
def mf (n j : Nat) : Int32 := if j < n then nI (j % 26) else 0
theorem mf_0 : mf 0 = fun _ => 0 := by
  funext j
  simp [mf]
theorem mf_up {n i : Nat} (h : n < 2 ^ 31) (hi : n % 26 = i) : upd (mf n) (nI n).toNatClampNeg (nI i) = mf (n + 1) := by
  rw [nI_clamp h]
  funext j
  unfold upd mf
  by_cases e : j = n
  · subst e
    rw [if_pos rfl, if_pos (by omega), hi]
  · by_cases h2 : j < n
    · rw [if_neg e, if_pos h2, if_pos (by omega)]
    · rw [if_neg e, if_neg h2, if_neg (by omega)]
/-- what the class's constructor needs of the statics and the tables -/
def ct_S (A : Nat → Prop) (t0 t1 t2 : Nat) (U : State) : Prop :=
  va_Z "RecordLabels" "NODE_NAMES" "[J" (.ref t0) A U U.heap ∧ va_Z "RecordLabels" "ARC_NAMES" "[J" (.ref t1) A U U.heap ∧ va_Z "RecordLabels" "SIGN_NAMES" "[J" (.ref t2) A U U.heap ∧
  va_T .long t0 5 (fun j => .long (ow_nm 0 j)) A U U.heap ∧ va_T .long t1 7 (fun j => .long (ow_nm 1 j)) A U U.heap ∧ va_T .long t2 26 (fun j => .long (ow_nm 2 j)) A U U.heap ∧ (∀ w ∈ ow_nest, va_Nw w U) ∧ va_AO "RecordLabels$LabelSet" U ∧ va_AOA .int U

theorem lk_X0_init_5_0 : (.methodLink RX0 3 objectInit : Cond) ∈ wsX0_init := by decide +kernel
theorem lk_X0_init_5_1 : (.instanceMethod objectInit : Cond) ∈ wsX0_init := by decide +kernel
theorem lk_X0_init_5_2 : (.code objectInit ⟨#[0xb1]⟩ 1 none : Cond) ∈ wsX0_init := by decide +kernel
theorem li_X0_init_5_X0 : ∀ w ∈ u_ws RX0 TX0 7, w ∈ wsX0_init := by decide +kernel
theorem lk_X0_init_5_4 : (.fieldLink RX0 9 "RecordLabels$Kind" "start" "I" : Cond) ∈ wsX0_init := by decide +kernel
theorem lk_X0_init_5_5 : (.fieldLink RX0 15 "RecordLabels$Kind" "toldToFail" "Z" : Cond) ∈ wsX0_init := by decide +kernel
theorem lk_X0_init_5_6 : (.fieldLink RX0 19 "RecordLabels$Kind" "number" "I" : Cond) ∈ wsX0_init := by decide +kernel
theorem lk_X0_init_5_7 : (.fieldLink RX0 22 "RecordLabels$Kind" "names" "[J" : Cond) ∈ wsX0_init := by decide +kernel
theorem lk_X0_init_5_8 : (.fieldLink RX0 26 "RecordLabels$Kind" "size" "I" : Cond) ∈ wsX0_init := by decide +kernel
theorem lk_X0_init_5_9 : (.arrayClass .int : Cond) ∈ wsX0_init := by decide +kernel
theorem lk_X0_init_5_10 : (.fieldLink RX0 29 "RecordLabels$Kind" "constants" "[I" : Cond) ∈ wsX0_init := by decide +kernel
theorem lk_X0_init_5_11 : (.fieldLink RX0 33 "RecordLabels$Kind" "codes" "[I" : Cond) ∈ wsX0_init := by decide +kernel
set_option maxHeartbeats 8000000 in
set_option maxRecDepth 100000 in
theorem kX0_init_5 (l : Launch) (D : va_G) (ca : Nat → ClassId) (h0 sz : Nat) (n : Int32) (t0 : Nat) (fv : Nat → Value) : Met l yX0_init wsX0_init ({ frames := 1, cells := 2, slots := 10, locals := 12 }) (va_Pc [.ref h0, .int n, .ref t0] (fun U => U.heap.size = sz ∧ va_P D vwCl [(h0, .inr (0, [.int 0, .null, .int 0, .null, .null, .int 0, .int 0]))] U.heap ∧ va_K D vwCl (ow_ty ca) U ∧ va_D (fun _ => True) [(h0, .inr (0, [.int 0, .null, .int 0, .null, .null, .int 0, .int 0]))] ∧ va_T .long t0 5 fv (va_A [(h0, .inr (0, [.int 0, .null, .int 0, .null, .null, .int 0, .int 0]))] sz) U U.heap)) (va_Qv (fun (_ : Unit) => True) (fun _ t => ∃ (q33 q41 : Nat), va_P D vwCl [(h0, .inr (0, [.int n, .ref t0, .int 5, .ref q33, .ref q41, .int 0, .int 0])), (q33, .inl (ca 0, 5, .inl (kf 5))), (q41, .inl (ca 0, 5, .inl (kf 5)))] t.heap ∧ va_D (va_A [(h0, .inr (0, [.int 0, .null, .int 0, .null, .null, .int 0, .int 0]))] sz) [(h0, .inr (0, [.int n, .ref t0, .int 5, .ref q33, .ref q41, .int 0, .int 0])), (q33, .inl (ca 0, 5, .inl (kf 5))), (q41, .inl (ca 0, 5, .inl (kf 5)))]) (va_A [(h0, .inr (0, [.int 0, .null, .int 0, .null, .null, .int 0, .int 0]))] sz)) 2 10 (va_A [(h0, .inr (0, [.int 0, .null, .int 0, .null, .null, .int 0, .int 0]))] sz) := by
  refine Met.ofW (cc := cX0_init) (maxL := 4) (ret := none) (by decide) rfl ?_
  intro p e s m args below meth c s₁ B hml hv
  obtain ⟨rfl, hsz, hP, hK, hD0, hT⟩ := hv
  have hx := B.exec
  have hb := B.bytes
  have hr := B.returns
  have hts := atoms_spec (ws := wsX0_init) B.pre
  have hown : s.vm.findClass RX0 = some m.cls := findClass_of_methodNamed B.named
  have hlocks := B.notSynchronized
  have hin : meth.name = "<init>" := (name_of_methodNamed B.named B.method).1
  subst hsz
  have hD := hD0.self (sz := s.heap.size)
  generalize hAe : va_A [(h0, .inr (0, [.int 0, .null, .int 0, .null, .null, .int 0, .int 0]))] s.heap.size = A at hD hT ⊢
  have hA : ∀ q : Nat, s.heap.size ≤ q → A q := fun q h => by rw [← hAe]; exact Or.inr h
  have hS : va_S A s.heap s.heap [] := va_S.rf
  have hP : va_P D vwCl [(h0, .inr (0, [.int 0, .null, .int 0, .null, .null, .int 0, .int 0]))] s.heap := hP
  have hl := lv_entry ([.ref h0, .int n, .ref t0]) (n := 4) (Nat.le_of_ble_eq_true rfl)
  rw [lg_entry_eq]
  generalize (lg_sl ([.ref h0, .int n, .ref t0]) ++ List.replicate (4 - (lg_sl ([.ref h0, .int n, .ref t0])).length) Slot.unset).toArray = ls at hl ⊢
  have hl : lv_has ls 4 [(0, .ref h0), (1, .int n), (2, .ref t0)] := hl
  refine lv_aload_n hx hb dX0_init_0 rfl (lv_at hl 0 rfl) ?_
  refine W.objInit hx hb hown (hts _ lk_X0_init_5_0) (hts _ lk_X0_init_5_1) (hts _ lk_X0_init_5_2) rfl (by rw [hml]; exact hl.1) rfl dX0_init_1 (Nat.le_of_ble_eq_true rfl) (Nat.le_of_ble_eq_true rfl) ?_
  refine W.eq (g2 := F0 m 4 ls []) rfl ?_
  refine lv_aload_n hx hb dX0_init_4 rfl (lv_at hl 0 rfl) ?_
  refine lv_iconst (v := 0) hx hb dX0_init_5 (by decide) ?_
  refine va_put (D := D) (ci := 0) (v := .int 0) (ty := .int) (C := RX0) (T := TX0) (N := 7) hx hb hts li_X0_init_5_X0 tyX0 tyX0_ok nmX0 hown hK hP hD hS 0 rfl rfl 5 (by decide) (hts _ lk_X0_init_5_4) (fun _ h9 => h9) rfl (by decide +kernel) rfl rfl (Nat.le_of_ble_eq_true rfl) dX0_init_6 (fun H locs hP hD hS => ?_)
  have hP : va_P D vwCl [(h0, .inr (0, [.int 0, .null, .int 0, .null, .null, .int 0, .int 0]))] H := hP
  have hD : va_D A [(h0, .inr (0, [.int 0, .null, .int 0, .null, .null, .int 0, .int 0]))] := hD
  refine lv_aload_n hx hb dX0_init_9 rfl (lv_at hl 0 rfl) ?_
  refine lv_iconst (v := 0) hx hb dX0_init_10 (by decide) ?_
  refine va_put (D := D) (ci := 0) (v := .int 0) (ty := .boolean) (C := RX0) (T := TX0) (N := 7) hx hb hts li_X0_init_5_X0 tyX0 tyX0_ok nmX0 hown hK hP hD hS 0 rfl rfl 6 (by decide) (hts _ lk_X0_init_5_5) (fun _ h9 => h9) rfl (by decide +kernel) rfl rfl (Nat.le_of_ble_eq_true rfl) dX0_init_11 (fun H locs hP hD hS => ?_)
  have hP : va_P D vwCl [(h0, .inr (0, [.int 0, .null, .int 0, .null, .null, .int 0, .int 0]))] H := hP
  have hD : va_D A [(h0, .inr (0, [.int 0, .null, .int 0, .null, .null, .int 0, .int 0]))] := hD
  refine lv_aload_n hx hb dX0_init_14 rfl (lv_at hl 0 rfl) ?_
  refine lv_iload_n hx hb dX0_init_15 rfl (lv_at hl 1 rfl) ?_
  refine va_putF (D := D) (ci := 0) (v := .int n) (ty := .int) (C := RX0) (T := TX0) (N := 7) hx hb hts li_X0_init_5_X0 tyX0 tyX0_ok nmX0 hown hK hP hD hS 0 rfl rfl 0 (by decide) (hts _ lk_X0_init_5_6) (fun _ h9 => h9) rfl hin rfl (by decide +kernel) rfl rfl (Nat.le_of_ble_eq_true rfl) dX0_init_16 (fun H locs hP hD hS => ?_)
  have hP : va_P D vwCl [(h0, .inr (0, [.int n, .null, .int 0, .null, .null, .int 0, .int 0]))] H := hP
  have hD : va_D A [(h0, .inr (0, [.int n, .null, .int 0, .null, .null, .int 0, .int 0]))] := hD
  refine lv_aload_n hx hb dX0_init_19 rfl (lv_at hl 0 rfl) ?_
  refine lv_aload_n hx hb dX0_init_20 rfl (lv_at hl 2 rfl) ?_
  refine va_putF (D := D) (ci := 0) (v := .ref t0) (ty := .array .long) (C := RX0) (T := TX0) (N := 7) hx hb hts li_X0_init_5_X0 tyX0 tyX0_ok nmX0 hown hK hP hD hS 0 rfl rfl 1 (by decide) (hts _ lk_X0_init_5_7) (fun _ h9 => h9) rfl hin rfl (by decide +kernel) rfl rfl (Nat.le_of_ble_eq_true rfl) dX0_init_21 (fun H locs hP hD hS => ?_)
  have hP : va_P D vwCl [(h0, .inr (0, [.int n, .ref t0, .int 0, .null, .null, .int 0, .int 0]))] H := hP
  have hD : va_D A [(h0, .inr (0, [.int n, .ref t0, .int 0, .null, .null, .int 0, .int 0]))] := hD
  refine lv_aload_n hx hb dX0_init_24 rfl (lv_at hl 0 rfl) ?_
  refine lv_aload_n hx hb dX0_init_25 rfl (lv_at hl 2 rfl) ?_
  refine va_tlen (v := 5) hx hb hT hS rfl dX0_init_26 ?_
  refine va_putF (D := D) (ci := 0) (v := .int 5) (ty := .int) (C := RX0) (T := TX0) (N := 7) hx hb hts li_X0_init_5_X0 tyX0 tyX0_ok nmX0 hown hK hP hD hS 0 rfl rfl 2 (by decide) (hts _ lk_X0_init_5_8) (fun _ h9 => h9) rfl hin rfl (by decide +kernel) rfl rfl (Nat.le_of_ble_eq_true rfl) dX0_init_27 (fun H locs hP hD hS => ?_)
  have hP : va_P D vwCl [(h0, .inr (0, [.int n, .ref t0, .int 5, .null, .null, .int 0, .int 0]))] H := hP
  have hD : va_D A [(h0, .inr (0, [.int n, .ref t0, .int 5, .null, .null, .int 0, .int 0]))] := hD
  refine lv_aload_n hx hb dX0_init_30 rfl (lv_at hl 0 rfl) ?_
  refine lv_aload_n hx hb dX0_init_31 rfl (lv_at hl 2 rfl) ?_
  refine va_tlen (v := 5) hx hb hT hS rfl dX0_init_32 ?_
  refine va_newa (atype := .int) (a0 := (5, .inl (fun _ => 0))) hx hb (hts _ lk_X0_init_5_9) rfl hK hP hD hS hA (fun _ => rfl) (by decide) rfl (by decide) (Nat.le_of_ble_eq_true rfl) (Nat.le_of_ble_eq_true rfl) dX0_init_33 (fun q33 cA H hK9 hP hD hS => ?_)
  obtain rfl : ca 0 = cA := ca_eq hK hK9 0 rfl
  have hP : va_P D vwCl [(h0, .inr (0, [.int n, .ref t0, .int 5, .null, .null, .int 0, .int 0])), (q33, .inl (ca 0, 5, .inl (fun _ => 0)))] H := hP
  have hD : va_D A [(h0, .inr (0, [.int n, .ref t0, .int 5, .null, .null, .int 0, .int 0])), (q33, .inl (ca 0, 5, .inl (fun _ => 0)))] := hD
  refine W.widen (k := 1) (n := 5) (Nat.le_of_ble_eq_true rfl) (Nat.le_of_ble_eq_true rfl) ?_
  refine va_putF (D := D) (ci := 0) (v := .ref q33) (ty := .array .int) (C := RX0) (T := TX0) (N := 7) hx hb hts li_X0_init_5_X0 tyX0 tyX0_ok nmX0 hown hK hP hD hS 0 rfl rfl 3 (by decide) (hts _ lk_X0_init_5_10) (fun _ h9 => h9) rfl hin rfl (by decide +kernel) rfl rfl (Nat.le_of_ble_eq_true rfl) dX0_init_35 (fun H locs hP hD hS => ?_)
  have hP : va_P D vwCl [(h0, .inr (0, [.int n, .ref t0, .int 5, .ref q33, .null, .int 0, .int 0])), (q33, .inl (ca 0, 5, .inl (fun _ => 0)))] H := hP
  have hD : va_D A [(h0, .inr (0, [.int n, .ref t0, .int 5, .ref q33, .null, .int 0, .int 0])), (q33, .inl (ca 0, 5, .inl (fun _ => 0)))] := hD
  refine lv_aload_n hx hb dX0_init_38 rfl (lv_at hl 0 rfl) ?_
  refine lv_aload_n hx hb dX0_init_39 rfl (lv_at hl 2 rfl) ?_
  refine va_tlen (v := 5) hx hb hT hS rfl dX0_init_40 ?_
  refine va_newa (atype := .int) (a0 := (5, .inl (fun _ => 0))) hx hb (hts _ lk_X0_init_5_9) rfl hK hP hD hS hA (fun _ => rfl) (by decide) rfl (by decide) (Nat.le_of_ble_eq_true rfl) (Nat.le_of_ble_eq_true rfl) dX0_init_41 (fun q41 cA H hK9 hP hD hS => ?_)
  obtain rfl : ca 0 = cA := ca_eq hK hK9 0 rfl
  have hP : va_P D vwCl [(h0, .inr (0, [.int n, .ref t0, .int 5, .ref q33, .null, .int 0, .int 0])), (q33, .inl (ca 0, 5, .inl (fun _ => 0))), (q41, .inl (ca 0, 5, .inl (fun _ => 0)))] H := hP
  have hD : va_D A [(h0, .inr (0, [.int n, .ref t0, .int 5, .ref q33, .null, .int 0, .int 0])), (q33, .inl (ca 0, 5, .inl (fun _ => 0))), (q41, .inl (ca 0, 5, .inl (fun _ => 0)))] := hD
  refine W.widen (k := 2) (n := 10) (Nat.le_of_ble_eq_true rfl) (Nat.le_of_ble_eq_true rfl) ?_
  refine va_putF (D := D) (ci := 0) (v := .ref q41) (ty := .array .int) (C := RX0) (T := TX0) (N := 7) hx hb hts li_X0_init_5_X0 tyX0 tyX0_ok nmX0 hown hK hP hD hS 0 rfl rfl 4 (by decide) (hts _ lk_X0_init_5_11) (fun _ h9 => h9) rfl hin rfl (by decide +kernel) rfl rfl (Nat.le_of_ble_eq_true rfl) dX0_init_43 (fun H locs hP hD hS => ?_)
  have hP : va_P D vwCl [(h0, .inr (0, [.int n, .ref t0, .int 5, .ref q33, .ref q41, .int 0, .int 0])), (q33, .inl (ca 0, 5, .inl (fun _ => 0))), (q41, .inl (ca 0, 5, .inl (fun _ => 0)))] H := hP
  have hD : va_D A [(h0, .inr (0, [.int n, .ref t0, .int 5, .ref q33, .ref q41, .int 0, .int 0])), (q33, .inl (ca 0, 5, .inl (fun _ => 0))), (q41, .inl (ca 0, 5, .inl (fun _ => 0)))] := hD
  refine lv_iconst (v := 0) hx hb dX0_init_46 (by decide) ?_
  refine lv_istore_n (lv' := [(3, .int 0), (0, .ref h0), (1, .int n), (2, .ref t0)]) hx hb dX0_init_47 rfl hl (by decide) rfl (fun ls hl => ?_)
  have loop : ∀ (k i : Nat) (H : Heap) (locs : List Loc) (ls : Array Slot), i ≤ 5 → 5 < i + k → va_P D vwCl [(h0, .inr (0, [.int n, .ref t0, .int 5, .ref q33, .ref q41, .int 0, .int 0])), (q33, .inl (ca 0, 5, .inl (kf i))), (q41, .inl (ca 0, 5, .inl (kf i)))] H → va_D A [(h0, .inr (0, [.int n, .ref t0, .int 5, .ref q33, .ref q41, .int 0, .int 0])), (q33, .inl (ca 0, 5, .inl (kf i))), (q41, .inl (ca 0, 5, .inl (kf i)))] → va_S A s.heap H locs → lv_has ls 4 [(3, .int (nI i)), (0, .ref h0), (1, .int n), (2, .ref t0)] → W p l e (headSpec wsX0_init ({ frames := 1, cells := 2, slots := 10, locals := 12 } : Room)).room s m ([.ref h0, .int n, .ref t0] : List Value).toArray below meth c H locs 2 10 (MQ below (va_Qv (fun (_ : Unit) => True) (fun _ t => ∃ (q33 q41 : Nat), va_P D vwCl [(h0, .inr (0, [.int n, .ref t0, .int 5, .ref q33, .ref q41, .int 0, .int 0])), (q33, .inl (ca 0, 5, .inl (kf 5))), (q41, .inl (ca 0, 5, .inl (kf 5)))] t.heap ∧ va_D A [(h0, .inr (0, [.int n, .ref t0, .int 5, .ref q33, .ref q41, .int 0, .int 0])), (q33, .inl (ca 0, 5, .inl (kf 5))), (q41, .inl (ca 0, 5, .inl (kf 5)))]) A) ([.ref h0, .int n, .ref t0] : List Value).toArray s 2 10 A) (F0 m 48 ls []) := by
    intro k
    induction k with
    | zero => intro i H locs ls h1 h2; exact absurd h2 (by omega)
    | succ k ih =>
      intro i H locs ls hle hlt hP hD hS hl
      refine lv_iload_n hx hb dX0_init_48 rfl (lv_at hl 0 rfl) ?_
      refine lv_aload_n hx hb dX0_init_49 rfl (lv_at hl 3 rfl) ?_
      refine va_tlen (v := 5) hx hb hT hS rfl dX0_init_50 ?_
      refine lv_icmp_ge (tgt := 74) hx hb dX0_init_51 (by decide) (fun c_1 => ?_) (fun c_1 => ?_)
      · have hi : i = 5 := by
          rcases Nat.lt_or_ge i 5 with q | q
          · exact absurd (show nI 5 ≤ nI i from c_1) (nI_ge q (by decide))
          · omega
        subst hi
        exact W.vret hx hb hr (fun t ht hW => ⟨⟨(), rfl, trivial, ⟨q33, q41, by rw [ht]; exact hP, hD⟩⟩, hS.F ht⟩) hS.2.2 dX0_init_74
      · have hi : i < 5 := ow_lt (b := 5) c_1 hle (by decide)
        have hi31 : i < 2 ^ 31 := by omega
        refine lv_aload_n hx hb dX0_init_54 rfl (lv_at hl 1 rfl) ?_
        refine va_get (D := D) (ci := 0) (v := .ref q33) (C := RX0) (T := TX0) (N := 7) hx hb hts li_X0_init_5_X0 hown hK hP 0 rfl rfl 3 (by decide) (hts _ lk_X0_init_5_10) (fun _ h9 => h9) rfl dX0_init_55 ?_
        refine lv_iload_n hx hb dX0_init_58 rfl (lv_at hl 0 rfl) ?_
        refine lv_iload_n hx hb dX0_init_59 rfl (lv_at hl 0 rfl) ?_
        refine va_iast hx hb hK hP hD hS 1 0 rfl rfl (vp_in_nI hi (by decide)) dX0_init_60 (fun H locs hP hD hS => ?_)
        have hP : va_P D vwCl [(h0, .inr (0, [.int n, .ref t0, .int 5, .ref q33, .ref q41, .int 0, .int 0])), (q33, .inl (ca 0, 5, .inl (kf (i + 1)))), (q41, .inl (ca 0, 5, .inl (kf i)))] H := by rw [← kf_up hi31]; exact hP
        have hD : va_D A [(h0, .inr (0, [.int n, .ref t0, .int 5, .ref q33, .ref q41, .int 0, .int 0])), (q33, .inl (ca 0, 5, .inl (kf (i + 1)))), (q41, .inl (ca 0, 5, .inl (kf i)))] := by rw [← kf_up hi31]; exact hD
        refine lv_aload_n hx hb dX0_init_61 rfl (lv_at hl 1 rfl) ?_
        refine va_get (D := D) (ci := 0) (v := .ref q41) (C := RX0) (T := TX0) (N := 7) hx hb hts li_X0_init_5_X0 hown hK hP 0 rfl rfl 4 (by decide) (hts _ lk_X0_init_5_11) (fun _ h9 => h9) rfl dX0_init_62 ?_
        refine lv_iload_n hx hb dX0_init_65 rfl (lv_at hl 0 rfl) ?_
        refine lv_iload_n hx hb dX0_init_66 rfl (lv_at hl 0 rfl) ?_
        refine va_iast hx hb hK hP hD hS 2 0 rfl rfl (vp_in_nI hi (by decide)) dX0_init_67 (fun H locs hP hD hS => ?_)
        have hP : va_P D vwCl [(h0, .inr (0, [.int n, .ref t0, .int 5, .ref q33, .ref q41, .int 0, .int 0])), (q33, .inl (ca 0, 5, .inl (kf (i + 1)))), (q41, .inl (ca 0, 5, .inl (kf (i + 1))))] H := by rw [← kf_up hi31] at hP ⊢; exact hP
        have hD : va_D A [(h0, .inr (0, [.int n, .ref t0, .int 5, .ref q33, .ref q41, .int 0, .int 0])), (q33, .inl (ca 0, 5, .inl (kf (i + 1)))), (q41, .inl (ca 0, 5, .inl (kf (i + 1))))] := by rw [← kf_up hi31] at hD ⊢; exact hD
        refine lv_iinc (v := (nI (i + 1))) (lv' := [(3, .int (nI (i + 1))), (0, .ref h0), (1, .int n), (2, .ref t0)]) hx hb dX0_init_68 hl (k := 0) rfl (nI_1 _) (by decide) rfl (fun ls hl => ?_)
        refine lv_goto (tgt := 48) hx hb dX0_init_71 (by decide) ?_
        exact ih (i + 1) _ _ _ (by omega) (by omega) hP hD hS hl
  have hP : va_P D vwCl [(h0, .inr (0, [.int n, .ref t0, .int 5, .ref q33, .ref q41, .int 0, .int 0])), (q33, .inl (ca 0, 5, .inl (kf 0))), (q41, .inl (ca 0, 5, .inl (kf 0)))] H := by rw [kf_0]; exact hP
  have hD : va_D A [(h0, .inr (0, [.int n, .ref t0, .int 5, .ref q33, .ref q41, .int 0, .int 0])), (q33, .inl (ca 0, 5, .inl (kf 0))), (q41, .inl (ca 0, 5, .inl (kf 0)))] := by rw [kf_0]; exact hD
  exact loop 6 0 _ _ _ (Nat.zero_le _) (by omega) hP hD hS (lv_sub hl [0, 1, 2, 3] rfl)

theorem lk_X0_init_7_0 : (.methodLink RX0 3 objectInit : Cond) ∈ wsX0_init := by decide +kernel
theorem lk_X0_init_7_1 : (.instanceMethod objectInit : Cond) ∈ wsX0_init := by decide +kernel
theorem lk_X0_init_7_2 : (.code objectInit ⟨#[0xb1]⟩ 1 none : Cond) ∈ wsX0_init := by decide +kernel
theorem li_X0_init_7_X0 : ∀ w ∈ u_ws RX0 TX0 7, w ∈ wsX0_init := by decide +kernel
theorem lk_X0_init_7_4 : (.fieldLink RX0 9 "RecordLabels$Kind" "start" "I" : Cond) ∈ wsX0_init := by decide +kernel
theorem lk_X0_init_7_5 : (.fieldLink RX0 15 "RecordLabels$Kind" "toldToFail" "Z" : Cond) ∈ wsX0_init := by decide +kernel
theorem lk_X0_init_7_6 : (.fieldLink RX0 19 "RecordLabels$Kind" "number" "I" : Cond) ∈ wsX0_init := by decide +kernel
theorem lk_X0_init_7_7 : (.fieldLink RX0 22 "RecordLabels$Kind" "names" "[J" : Cond) ∈ wsX0_init := by decide +kernel
theorem lk_X0_init_7_8 : (.fieldLink RX0 26 "RecordLabels$Kind" "size" "I" : Cond) ∈ wsX0_init := by decide +kernel
theorem lk_X0_init_7_9 : (.arrayClass .int : Cond) ∈ wsX0_init := by decide +kernel
theorem lk_X0_init_7_10 : (.fieldLink RX0 29 "RecordLabels$Kind" "constants" "[I" : Cond) ∈ wsX0_init := by decide +kernel
theorem lk_X0_init_7_11 : (.fieldLink RX0 33 "RecordLabels$Kind" "codes" "[I" : Cond) ∈ wsX0_init := by decide +kernel
set_option maxHeartbeats 8000000 in
set_option maxRecDepth 100000 in
theorem kX0_init_7 (l : Launch) (D : va_G) (ca : Nat → ClassId) (h0 sz : Nat) (n : Int32) (t0 : Nat) (fv : Nat → Value) : Met l yX0_init wsX0_init ({ frames := 1, cells := 2, slots := 14, locals := 12 }) (va_Pc [.ref h0, .int n, .ref t0] (fun U => U.heap.size = sz ∧ va_P D vwCl [(h0, .inr (0, [.int 0, .null, .int 0, .null, .null, .int 0, .int 0]))] U.heap ∧ va_K D vwCl (ow_ty ca) U ∧ va_D (fun _ => True) [(h0, .inr (0, [.int 0, .null, .int 0, .null, .null, .int 0, .int 0]))] ∧ va_T .long t0 7 fv (va_A [(h0, .inr (0, [.int 0, .null, .int 0, .null, .null, .int 0, .int 0]))] sz) U U.heap)) (va_Qv (fun (_ : Unit) => True) (fun _ t => ∃ (q33 q41 : Nat), va_P D vwCl [(h0, .inr (0, [.int n, .ref t0, .int 7, .ref q33, .ref q41, .int 0, .int 0])), (q33, .inl (ca 0, 7, .inl (kf 7))), (q41, .inl (ca 0, 7, .inl (kf 7)))] t.heap ∧ va_D (va_A [(h0, .inr (0, [.int 0, .null, .int 0, .null, .null, .int 0, .int 0]))] sz) [(h0, .inr (0, [.int n, .ref t0, .int 7, .ref q33, .ref q41, .int 0, .int 0])), (q33, .inl (ca 0, 7, .inl (kf 7))), (q41, .inl (ca 0, 7, .inl (kf 7)))]) (va_A [(h0, .inr (0, [.int 0, .null, .int 0, .null, .null, .int 0, .int 0]))] sz)) 2 14 (va_A [(h0, .inr (0, [.int 0, .null, .int 0, .null, .null, .int 0, .int 0]))] sz) := by
  refine Met.ofW (cc := cX0_init) (maxL := 4) (ret := none) (by decide) rfl ?_
  intro p e s m args below meth c s₁ B hml hv
  obtain ⟨rfl, hsz, hP, hK, hD0, hT⟩ := hv
  have hx := B.exec
  have hb := B.bytes
  have hr := B.returns
  have hts := atoms_spec (ws := wsX0_init) B.pre
  have hown : s.vm.findClass RX0 = some m.cls := findClass_of_methodNamed B.named
  have hlocks := B.notSynchronized
  have hin : meth.name = "<init>" := (name_of_methodNamed B.named B.method).1
  subst hsz
  have hD := hD0.self (sz := s.heap.size)
  generalize hAe : va_A [(h0, .inr (0, [.int 0, .null, .int 0, .null, .null, .int 0, .int 0]))] s.heap.size = A at hD hT ⊢
  have hA : ∀ q : Nat, s.heap.size ≤ q → A q := fun q h => by rw [← hAe]; exact Or.inr h
  have hS : va_S A s.heap s.heap [] := va_S.rf
  have hP : va_P D vwCl [(h0, .inr (0, [.int 0, .null, .int 0, .null, .null, .int 0, .int 0]))] s.heap := hP
  have hl := lv_entry ([.ref h0, .int n, .ref t0]) (n := 4) (Nat.le_of_ble_eq_true rfl)
  rw [lg_entry_eq]
  generalize (lg_sl ([.ref h0, .int n, .ref t0]) ++ List.replicate (4 - (lg_sl ([.ref h0, .int n, .ref t0])).length) Slot.unset).toArray = ls at hl ⊢
  have hl : lv_has ls 4 [(0, .ref h0), (1, .int n), (2, .ref t0)] := hl
  refine lv_aload_n hx hb dX0_init_0 rfl (lv_at hl 0 rfl) ?_
  refine W.objInit hx hb hown (hts _ lk_X0_init_7_0) (hts _ lk_X0_init_7_1) (hts _ lk_X0_init_7_2) rfl (by rw [hml]; exact hl.1) rfl dX0_init_1 (Nat.le_of_ble_eq_true rfl) (Nat.le_of_ble_eq_true rfl) ?_
  refine W.eq (g2 := F0 m 4 ls []) rfl ?_
  refine lv_aload_n hx hb dX0_init_4 rfl (lv_at hl 0 rfl) ?_
  refine lv_iconst (v := 0) hx hb dX0_init_5 (by decide) ?_
  refine va_put (D := D) (ci := 0) (v := .int 0) (ty := .int) (C := RX0) (T := TX0) (N := 7) hx hb hts li_X0_init_7_X0 tyX0 tyX0_ok nmX0 hown hK hP hD hS 0 rfl rfl 5 (by decide) (hts _ lk_X0_init_7_4) (fun _ h9 => h9) rfl (by decide +kernel) rfl rfl (Nat.le_of_ble_eq_true rfl) dX0_init_6 (fun H locs hP hD hS => ?_)
  have hP : va_P D vwCl [(h0, .inr (0, [.int 0, .null, .int 0, .null, .null, .int 0, .int 0]))] H := hP
  have hD : va_D A [(h0, .inr (0, [.int 0, .null, .int 0, .null, .null, .int 0, .int 0]))] := hD
  refine lv_aload_n hx hb dX0_init_9 rfl (lv_at hl 0 rfl) ?_
  refine lv_iconst (v := 0) hx hb dX0_init_10 (by decide) ?_
  refine va_put (D := D) (ci := 0) (v := .int 0) (ty := .boolean) (C := RX0) (T := TX0) (N := 7) hx hb hts li_X0_init_7_X0 tyX0 tyX0_ok nmX0 hown hK hP hD hS 0 rfl rfl 6 (by decide) (hts _ lk_X0_init_7_5) (fun _ h9 => h9) rfl (by decide +kernel) rfl rfl (Nat.le_of_ble_eq_true rfl) dX0_init_11 (fun H locs hP hD hS => ?_)
  have hP : va_P D vwCl [(h0, .inr (0, [.int 0, .null, .int 0, .null, .null, .int 0, .int 0]))] H := hP
  have hD : va_D A [(h0, .inr (0, [.int 0, .null, .int 0, .null, .null, .int 0, .int 0]))] := hD
  refine lv_aload_n hx hb dX0_init_14 rfl (lv_at hl 0 rfl) ?_
  refine lv_iload_n hx hb dX0_init_15 rfl (lv_at hl 1 rfl) ?_
  refine va_putF (D := D) (ci := 0) (v := .int n) (ty := .int) (C := RX0) (T := TX0) (N := 7) hx hb hts li_X0_init_7_X0 tyX0 tyX0_ok nmX0 hown hK hP hD hS 0 rfl rfl 0 (by decide) (hts _ lk_X0_init_7_6) (fun _ h9 => h9) rfl hin rfl (by decide +kernel) rfl rfl (Nat.le_of_ble_eq_true rfl) dX0_init_16 (fun H locs hP hD hS => ?_)
  have hP : va_P D vwCl [(h0, .inr (0, [.int n, .null, .int 0, .null, .null, .int 0, .int 0]))] H := hP
  have hD : va_D A [(h0, .inr (0, [.int n, .null, .int 0, .null, .null, .int 0, .int 0]))] := hD
  refine lv_aload_n hx hb dX0_init_19 rfl (lv_at hl 0 rfl) ?_
  refine lv_aload_n hx hb dX0_init_20 rfl (lv_at hl 2 rfl) ?_
  refine va_putF (D := D) (ci := 0) (v := .ref t0) (ty := .array .long) (C := RX0) (T := TX0) (N := 7) hx hb hts li_X0_init_7_X0 tyX0 tyX0_ok nmX0 hown hK hP hD hS 0 rfl rfl 1 (by decide) (hts _ lk_X0_init_7_7) (fun _ h9 => h9) rfl hin rfl (by decide +kernel) rfl rfl (Nat.le_of_ble_eq_true rfl) dX0_init_21 (fun H locs hP hD hS => ?_)
  have hP : va_P D vwCl [(h0, .inr (0, [.int n, .ref t0, .int 0, .null, .null, .int 0, .int 0]))] H := hP
  have hD : va_D A [(h0, .inr (0, [.int n, .ref t0, .int 0, .null, .null, .int 0, .int 0]))] := hD
  refine lv_aload_n hx hb dX0_init_24 rfl (lv_at hl 0 rfl) ?_
  refine lv_aload_n hx hb dX0_init_25 rfl (lv_at hl 2 rfl) ?_
  refine va_tlen (v := 7) hx hb hT hS rfl dX0_init_26 ?_
  refine va_putF (D := D) (ci := 0) (v := .int 7) (ty := .int) (C := RX0) (T := TX0) (N := 7) hx hb hts li_X0_init_7_X0 tyX0 tyX0_ok nmX0 hown hK hP hD hS 0 rfl rfl 2 (by decide) (hts _ lk_X0_init_7_8) (fun _ h9 => h9) rfl hin rfl (by decide +kernel) rfl rfl (Nat.le_of_ble_eq_true rfl) dX0_init_27 (fun H locs hP hD hS => ?_)
  have hP : va_P D vwCl [(h0, .inr (0, [.int n, .ref t0, .int 7, .null, .null, .int 0, .int 0]))] H := hP
  have hD : va_D A [(h0, .inr (0, [.int n, .ref t0, .int 7, .null, .null, .int 0, .int 0]))] := hD
  refine lv_aload_n hx hb dX0_init_30 rfl (lv_at hl 0 rfl) ?_
  refine lv_aload_n hx hb dX0_init_31 rfl (lv_at hl 2 rfl) ?_
  refine va_tlen (v := 7) hx hb hT hS rfl dX0_init_32 ?_
  refine va_newa (atype := .int) (a0 := (7, .inl (fun _ => 0))) hx hb (hts _ lk_X0_init_7_9) rfl hK hP hD hS hA (fun _ => rfl) (by decide) rfl (by decide) (Nat.le_of_ble_eq_true rfl) (Nat.le_of_ble_eq_true rfl) dX0_init_33 (fun q33 cA H hK9 hP hD hS => ?_)
  obtain rfl : ca 0 = cA := ca_eq hK hK9 0 rfl
  have hP : va_P D vwCl [(h0, .inr (0, [.int n, .ref t0, .int 7, .null, .null, .int 0, .int 0])), (q33, .inl (ca 0, 7, .inl (fun _ => 0)))] H := hP
  have hD : va_D A [(h0, .inr (0, [.int n, .ref t0, .int 7, .null, .null, .int 0, .int 0])), (q33, .inl (ca 0, 7, .inl (fun _ => 0)))] := hD
  refine W.widen (k := 1) (n := 7) (Nat.le_of_ble_eq_true rfl) (Nat.le_of_ble_eq_true rfl) ?_
  refine va_putF (D := D) (ci := 0) (v := .ref q33) (ty := .array .int) (C := RX0) (T := TX0) (N := 7) hx hb hts li_X0_init_7_X0 tyX0 tyX0_ok nmX0 hown hK hP hD hS 0 rfl rfl 3 (by decide) (hts _ lk_X0_init_7_10) (fun _ h9 => h9) rfl hin rfl (by decide +kernel) rfl rfl (Nat.le_of_ble_eq_true rfl) dX0_init_35 (fun H locs hP hD hS => ?_)
  have hP : va_P D vwCl [(h0, .inr (0, [.int n, .ref t0, .int 7, .ref q33, .null, .int 0, .int 0])), (q33, .inl (ca 0, 7, .inl (fun _ => 0)))] H := hP
  have hD : va_D A [(h0, .inr (0, [.int n, .ref t0, .int 7, .ref q33, .null, .int 0, .int 0])), (q33, .inl (ca 0, 7, .inl (fun _ => 0)))] := hD
  refine lv_aload_n hx hb dX0_init_38 rfl (lv_at hl 0 rfl) ?_
  refine lv_aload_n hx hb dX0_init_39 rfl (lv_at hl 2 rfl) ?_
  refine va_tlen (v := 7) hx hb hT hS rfl dX0_init_40 ?_
  refine va_newa (atype := .int) (a0 := (7, .inl (fun _ => 0))) hx hb (hts _ lk_X0_init_7_9) rfl hK hP hD hS hA (fun _ => rfl) (by decide) rfl (by decide) (Nat.le_of_ble_eq_true rfl) (Nat.le_of_ble_eq_true rfl) dX0_init_41 (fun q41 cA H hK9 hP hD hS => ?_)
  obtain rfl : ca 0 = cA := ca_eq hK hK9 0 rfl
  have hP : va_P D vwCl [(h0, .inr (0, [.int n, .ref t0, .int 7, .ref q33, .null, .int 0, .int 0])), (q33, .inl (ca 0, 7, .inl (fun _ => 0))), (q41, .inl (ca 0, 7, .inl (fun _ => 0)))] H := hP
  have hD : va_D A [(h0, .inr (0, [.int n, .ref t0, .int 7, .ref q33, .null, .int 0, .int 0])), (q33, .inl (ca 0, 7, .inl (fun _ => 0))), (q41, .inl (ca 0, 7, .inl (fun _ => 0)))] := hD
  refine W.widen (k := 2) (n := 14) (Nat.le_of_ble_eq_true rfl) (Nat.le_of_ble_eq_true rfl) ?_
  refine va_putF (D := D) (ci := 0) (v := .ref q41) (ty := .array .int) (C := RX0) (T := TX0) (N := 7) hx hb hts li_X0_init_7_X0 tyX0 tyX0_ok nmX0 hown hK hP hD hS 0 rfl rfl 4 (by decide) (hts _ lk_X0_init_7_11) (fun _ h9 => h9) rfl hin rfl (by decide +kernel) rfl rfl (Nat.le_of_ble_eq_true rfl) dX0_init_43 (fun H locs hP hD hS => ?_)
  have hP : va_P D vwCl [(h0, .inr (0, [.int n, .ref t0, .int 7, .ref q33, .ref q41, .int 0, .int 0])), (q33, .inl (ca 0, 7, .inl (fun _ => 0))), (q41, .inl (ca 0, 7, .inl (fun _ => 0)))] H := hP
  have hD : va_D A [(h0, .inr (0, [.int n, .ref t0, .int 7, .ref q33, .ref q41, .int 0, .int 0])), (q33, .inl (ca 0, 7, .inl (fun _ => 0))), (q41, .inl (ca 0, 7, .inl (fun _ => 0)))] := hD
  refine lv_iconst (v := 0) hx hb dX0_init_46 (by decide) ?_
  refine lv_istore_n (lv' := [(3, .int 0), (0, .ref h0), (1, .int n), (2, .ref t0)]) hx hb dX0_init_47 rfl hl (by decide) rfl (fun ls hl => ?_)
  have loop : ∀ (k i : Nat) (H : Heap) (locs : List Loc) (ls : Array Slot), i ≤ 7 → 7 < i + k → va_P D vwCl [(h0, .inr (0, [.int n, .ref t0, .int 7, .ref q33, .ref q41, .int 0, .int 0])), (q33, .inl (ca 0, 7, .inl (kf i))), (q41, .inl (ca 0, 7, .inl (kf i)))] H → va_D A [(h0, .inr (0, [.int n, .ref t0, .int 7, .ref q33, .ref q41, .int 0, .int 0])), (q33, .inl (ca 0, 7, .inl (kf i))), (q41, .inl (ca 0, 7, .inl (kf i)))] → va_S A s.heap H locs → lv_has ls 4 [(3, .int (nI i)), (0, .ref h0), (1, .int n), (2, .ref t0)] → W p l e (headSpec wsX0_init ({ frames := 1, cells := 2, slots := 14, locals := 12 } : Room)).room s m ([.ref h0, .int n, .ref t0] : List Value).toArray below meth c H locs 2 14 (MQ below (va_Qv (fun (_ : Unit) => True) (fun _ t => ∃ (q33 q41 : Nat), va_P D vwCl [(h0, .inr (0, [.int n, .ref t0, .int 7, .ref q33, .ref q41, .int 0, .int 0])), (q33, .inl (ca 0, 7, .inl (kf 7))), (q41, .inl (ca 0, 7, .inl (kf 7)))] t.heap ∧ va_D A [(h0, .inr (0, [.int n, .ref t0, .int 7, .ref q33, .ref q41, .int 0, .int 0])), (q33, .inl (ca 0, 7, .inl (kf 7))), (q41, .inl (ca 0, 7, .inl (kf 7)))]) A) ([.ref h0, .int n, .ref t0] : List Value).toArray s 2 14 A) (F0 m 48 ls []) := by
    intro k
    induction k with
    | zero => intro i H locs ls h1 h2; exact absurd h2 (by omega)
    | succ k ih =>
      intro i H locs ls hle hlt hP hD hS hl
      refine lv_iload_n hx hb dX0_init_48 rfl (lv_at hl 0 rfl) ?_
      refine lv_aload_n hx hb dX0_init_49 rfl (lv_at hl 3 rfl) ?_
      refine va_tlen (v := 7) hx hb hT hS rfl dX0_init_50 ?_
      refine lv_icmp_ge (tgt := 74) hx hb dX0_init_51 (by decide) (fun c_1 => ?_) (fun c_1 => ?_)
      · have hi : i = 7 := by
          rcases Nat.lt_or_ge i 7 with q | q
          · exact absurd (show nI 7 ≤ nI i from c_1) (nI_ge q (by decide))
          · omega
        subst hi
        exact W.vret hx hb hr (fun t ht hW => ⟨⟨(), rfl, trivial, ⟨q33, q41, by rw [ht]; exact hP, hD⟩⟩, hS.F ht⟩) hS.2.2 dX0_init_74
      · have hi : i < 7 := ow_lt (b := 7) c_1 hle (by decide)
        have hi31 : i < 2 ^ 31 := by omega
        refine lv_aload_n hx hb dX0_init_54 rfl (lv_at hl 1 rfl) ?_
        refine va_get (D := D) (ci := 0) (v := .ref q33) (C := RX0) (T := TX0) (N := 7) hx hb hts li_X0_init_7_X0 hown hK hP 0 rfl rfl 3 (by decide) (hts _ lk_X0_init_7_10) (fun _ h9 => h9) rfl dX0_init_55 ?_
        refine lv_iload_n hx hb dX0_init_58 rfl (lv_at hl 0 rfl) ?_
        refine lv_iload_n hx hb dX0_init_59 rfl (lv_at hl 0 rfl) ?_
        refine va_iast hx hb hK hP hD hS 1 0 rfl rfl (vp_in_nI hi (by decide)) dX0_init_60 (fun H locs hP hD hS => ?_)
        have hP : va_P D vwCl [(h0, .inr (0, [.int n, .ref t0, .int 7, .ref q33, .ref q41, .int 0, .int 0])), (q33, .inl (ca 0, 7, .inl (kf (i + 1)))), (q41, .inl (ca 0, 7, .inl (kf i)))] H := by rw [← kf_up hi31]; exact hP
        have hD : va_D A [(h0, .inr (0, [.int n, .ref t0, .int 7, .ref q33, .ref q41, .int 0, .int 0])), (q33, .inl (ca 0, 7, .inl (kf (i + 1)))), (q41, .inl (ca 0, 7, .inl (kf i)))] := by rw [← kf_up hi31]; exact hD
        refine lv_aload_n hx hb dX0_init_61 rfl (lv_at hl 1 rfl) ?_
        refine va_get (D := D) (ci := 0) (v := .ref q41) (C := RX0) (T := TX0) (N := 7) hx hb hts li_X0_init_7_X0 hown hK hP 0 rfl rfl 4 (by decide) (hts _ lk_X0_init_7_11) (fun _ h9 => h9) rfl dX0_init_62 ?_
        refine lv_iload_n hx hb dX0_init_65 rfl (lv_at hl 0 rfl) ?_
        refine lv_iload_n hx hb dX0_init_66 rfl (lv_at hl 0 rfl) ?_
        refine va_iast hx hb hK hP hD hS 2 0 rfl rfl (vp_in_nI hi (by decide)) dX0_init_67 (fun H locs hP hD hS => ?_)
        have hP : va_P D vwCl [(h0, .inr (0, [.int n, .ref t0, .int 7, .ref q33, .ref q41, .int 0, .int 0])), (q33, .inl (ca 0, 7, .inl (kf (i + 1)))), (q41, .inl (ca 0, 7, .inl (kf (i + 1))))] H := by rw [← kf_up hi31] at hP ⊢; exact hP
        have hD : va_D A [(h0, .inr (0, [.int n, .ref t0, .int 7, .ref q33, .ref q41, .int 0, .int 0])), (q33, .inl (ca 0, 7, .inl (kf (i + 1)))), (q41, .inl (ca 0, 7, .inl (kf (i + 1))))] := by rw [← kf_up hi31] at hD ⊢; exact hD
        refine lv_iinc (v := (nI (i + 1))) (lv' := [(3, .int (nI (i + 1))), (0, .ref h0), (1, .int n), (2, .ref t0)]) hx hb dX0_init_68 hl (k := 0) rfl (nI_1 _) (by decide) rfl (fun ls hl => ?_)
        refine lv_goto (tgt := 48) hx hb dX0_init_71 (by decide) ?_
        exact ih (i + 1) _ _ _ (by omega) (by omega) hP hD hS hl
  have hP : va_P D vwCl [(h0, .inr (0, [.int n, .ref t0, .int 7, .ref q33, .ref q41, .int 0, .int 0])), (q33, .inl (ca 0, 7, .inl (kf 0))), (q41, .inl (ca 0, 7, .inl (kf 0)))] H := by rw [kf_0]; exact hP
  have hD : va_D A [(h0, .inr (0, [.int n, .ref t0, .int 7, .ref q33, .ref q41, .int 0, .int 0])), (q33, .inl (ca 0, 7, .inl (kf 0))), (q41, .inl (ca 0, 7, .inl (kf 0)))] := by rw [kf_0]; exact hD
  exact loop 8 0 _ _ _ (Nat.zero_le _) (by omega) hP hD hS (lv_sub hl [0, 1, 2, 3] rfl)

theorem lk_X0_init_26_0 : (.methodLink RX0 3 objectInit : Cond) ∈ wsX0_init := by decide +kernel
theorem lk_X0_init_26_1 : (.instanceMethod objectInit : Cond) ∈ wsX0_init := by decide +kernel
theorem lk_X0_init_26_2 : (.code objectInit ⟨#[0xb1]⟩ 1 none : Cond) ∈ wsX0_init := by decide +kernel
theorem li_X0_init_26_X0 : ∀ w ∈ u_ws RX0 TX0 7, w ∈ wsX0_init := by decide +kernel
theorem lk_X0_init_26_4 : (.fieldLink RX0 9 "RecordLabels$Kind" "start" "I" : Cond) ∈ wsX0_init := by decide +kernel
theorem lk_X0_init_26_5 : (.fieldLink RX0 15 "RecordLabels$Kind" "toldToFail" "Z" : Cond) ∈ wsX0_init := by decide +kernel
theorem lk_X0_init_26_6 : (.fieldLink RX0 19 "RecordLabels$Kind" "number" "I" : Cond) ∈ wsX0_init := by decide +kernel
theorem lk_X0_init_26_7 : (.fieldLink RX0 22 "RecordLabels$Kind" "names" "[J" : Cond) ∈ wsX0_init := by decide +kernel
theorem lk_X0_init_26_8 : (.fieldLink RX0 26 "RecordLabels$Kind" "size" "I" : Cond) ∈ wsX0_init := by decide +kernel
theorem lk_X0_init_26_9 : (.arrayClass .int : Cond) ∈ wsX0_init := by decide +kernel
theorem lk_X0_init_26_10 : (.fieldLink RX0 29 "RecordLabels$Kind" "constants" "[I" : Cond) ∈ wsX0_init := by decide +kernel
theorem lk_X0_init_26_11 : (.fieldLink RX0 33 "RecordLabels$Kind" "codes" "[I" : Cond) ∈ wsX0_init := by decide +kernel
set_option maxHeartbeats 8000000 in
set_option maxRecDepth 100000 in
theorem kX0_init_26 (l : Launch) (D : va_G) (ca : Nat → ClassId) (h0 sz : Nat) (n : Int32) (t0 : Nat) (fv : Nat → Value) : Met l yX0_init wsX0_init ({ frames := 1, cells := 2, slots := 52, locals := 12 }) (va_Pc [.ref h0, .int n, .ref t0] (fun U => U.heap.size = sz ∧ va_P D vwCl [(h0, .inr (0, [.int 0, .null, .int 0, .null, .null, .int 0, .int 0]))] U.heap ∧ va_K D vwCl (ow_ty ca) U ∧ va_D (fun _ => True) [(h0, .inr (0, [.int 0, .null, .int 0, .null, .null, .int 0, .int 0]))] ∧ va_T .long t0 26 fv (va_A [(h0, .inr (0, [.int 0, .null, .int 0, .null, .null, .int 0, .int 0]))] sz) U U.heap)) (va_Qv (fun (_ : Unit) => True) (fun _ t => ∃ (q33 q41 : Nat), va_P D vwCl [(h0, .inr (0, [.int n, .ref t0, .int 26, .ref q33, .ref q41, .int 0, .int 0])), (q33, .inl (ca 0, 26, .inl (kf 26))), (q41, .inl (ca 0, 26, .inl (kf 26)))] t.heap ∧ va_D (va_A [(h0, .inr (0, [.int 0, .null, .int 0, .null, .null, .int 0, .int 0]))] sz) [(h0, .inr (0, [.int n, .ref t0, .int 26, .ref q33, .ref q41, .int 0, .int 0])), (q33, .inl (ca 0, 26, .inl (kf 26))), (q41, .inl (ca 0, 26, .inl (kf 26)))]) (va_A [(h0, .inr (0, [.int 0, .null, .int 0, .null, .null, .int 0, .int 0]))] sz)) 2 52 (va_A [(h0, .inr (0, [.int 0, .null, .int 0, .null, .null, .int 0, .int 0]))] sz) := by
  refine Met.ofW (cc := cX0_init) (maxL := 4) (ret := none) (by decide) rfl ?_
  intro p e s m args below meth c s₁ B hml hv
  obtain ⟨rfl, hsz, hP, hK, hD0, hT⟩ := hv
  have hx := B.exec
  have hb := B.bytes
  have hr := B.returns
  have hts := atoms_spec (ws := wsX0_init) B.pre
  have hown : s.vm.findClass RX0 = some m.cls := findClass_of_methodNamed B.named
  have hlocks := B.notSynchronized
  have hin : meth.name = "<init>" := (name_of_methodNamed B.named B.method).1
  subst hsz
  have hD := hD0.self (sz := s.heap.size)
  generalize hAe : va_A [(h0, .inr (0, [.int 0, .null, .int 0, .null, .null, .int 0, .int 0]))] s.heap.size = A at hD hT ⊢
  have hA : ∀ q : Nat, s.heap.size ≤ q → A q := fun q h => by rw [← hAe]; exact Or.inr h
  have hS : va_S A s.heap s.heap [] := va_S.rf
  have hP : va_P D vwCl [(h0, .inr (0, [.int 0, .null, .int 0, .null, .null, .int 0, .int 0]))] s.heap := hP
  have hl := lv_entry ([.ref h0, .int n, .ref t0]) (n := 4) (Nat.le_of_ble_eq_true rfl)
  rw [lg_entry_eq]
  generalize (lg_sl ([.ref h0, .int n, .ref t0]) ++ List.replicate (4 - (lg_sl ([.ref h0, .int n, .ref t0])).length) Slot.unset).toArray = ls at hl ⊢
  have hl : lv_has ls 4 [(0, .ref h0), (1, .int n), (2, .ref t0)] := hl
  refine lv_aload_n hx hb dX0_init_0 rfl (lv_at hl 0 rfl) ?_
  refine W.objInit hx hb hown (hts _ lk_X0_init_26_0) (hts _ lk_X0_init_26_1) (hts _ lk_X0_init_26_2) rfl (by rw [hml]; exact hl.1) rfl dX0_init_1 (Nat.le_of_ble_eq_true rfl) (Nat.le_of_ble_eq_true rfl) ?_
  refine W.eq (g2 := F0 m 4 ls []) rfl ?_
  refine lv_aload_n hx hb dX0_init_4 rfl (lv_at hl 0 rfl) ?_
  refine lv_iconst (v := 0) hx hb dX0_init_5 (by decide) ?_
  refine va_put (D := D) (ci := 0) (v := .int 0) (ty := .int) (C := RX0) (T := TX0) (N := 7) hx hb hts li_X0_init_26_X0 tyX0 tyX0_ok nmX0 hown hK hP hD hS 0 rfl rfl 5 (by decide) (hts _ lk_X0_init_26_4) (fun _ h9 => h9) rfl (by decide +kernel) rfl rfl (Nat.le_of_ble_eq_true rfl) dX0_init_6 (fun H locs hP hD hS => ?_)
  have hP : va_P D vwCl [(h0, .inr (0, [.int 0, .null, .int 0, .null, .null, .int 0, .int 0]))] H := hP
  have hD : va_D A [(h0, .inr (0, [.int 0, .null, .int 0, .null, .null, .int 0, .int 0]))] := hD
  refine lv_aload_n hx hb dX0_init_9 rfl (lv_at hl 0 rfl) ?_
  refine lv_iconst (v := 0) hx hb dX0_init_10 (by decide) ?_
  refine va_put (D := D) (ci := 0) (v := .int 0) (ty := .boolean) (C := RX0) (T := TX0) (N := 7) hx hb hts li_X0_init_26_X0 tyX0 tyX0_ok nmX0 hown hK hP hD hS 0 rfl rfl 6 (by decide) (hts _ lk_X0_init_26_5) (fun _ h9 => h9) rfl (by decide +kernel) rfl rfl (Nat.le_of_ble_eq_true rfl) dX0_init_11 (fun H locs hP hD hS => ?_)
  have hP : va_P D vwCl [(h0, .inr (0, [.int 0, .null, .int 0, .null, .null, .int 0, .int 0]))] H := hP
  have hD : va_D A [(h0, .inr (0, [.int 0, .null, .int 0, .null, .null, .int 0, .int 0]))] := hD
  refine lv_aload_n hx hb dX0_init_14 rfl (lv_at hl 0 rfl) ?_
  refine lv_iload_n hx hb dX0_init_15 rfl (lv_at hl 1 rfl) ?_
  refine va_putF (D := D) (ci := 0) (v := .int n) (ty := .int) (C := RX0) (T := TX0) (N := 7) hx hb hts li_X0_init_26_X0 tyX0 tyX0_ok nmX0 hown hK hP hD hS 0 rfl rfl 0 (by decide) (hts _ lk_X0_init_26_6) (fun _ h9 => h9) rfl hin rfl (by decide +kernel) rfl rfl (Nat.le_of_ble_eq_true rfl) dX0_init_16 (fun H locs hP hD hS => ?_)
  have hP : va_P D vwCl [(h0, .inr (0, [.int n, .null, .int 0, .null, .null, .int 0, .int 0]))] H := hP
  have hD : va_D A [(h0, .inr (0, [.int n, .null, .int 0, .null, .null, .int 0, .int 0]))] := hD
  refine lv_aload_n hx hb dX0_init_19 rfl (lv_at hl 0 rfl) ?_
  refine lv_aload_n hx hb dX0_init_20 rfl (lv_at hl 2 rfl) ?_
  refine va_putF (D := D) (ci := 0) (v := .ref t0) (ty := .array .long) (C := RX0) (T := TX0) (N := 7) hx hb hts li_X0_init_26_X0 tyX0 tyX0_ok nmX0 hown hK hP hD hS 0 rfl rfl 1 (by decide) (hts _ lk_X0_init_26_7) (fun _ h9 => h9) rfl hin rfl (by decide +kernel) rfl rfl (Nat.le_of_ble_eq_true rfl) dX0_init_21 (fun H locs hP hD hS => ?_)
  have hP : va_P D vwCl [(h0, .inr (0, [.int n, .ref t0, .int 0, .null, .null, .int 0, .int 0]))] H := hP
  have hD : va_D A [(h0, .inr (0, [.int n, .ref t0, .int 0, .null, .null, .int 0, .int 0]))] := hD
  refine lv_aload_n hx hb dX0_init_24 rfl (lv_at hl 0 rfl) ?_
  refine lv_aload_n hx hb dX0_init_25 rfl (lv_at hl 2 rfl) ?_
  refine va_tlen (v := 26) hx hb hT hS rfl dX0_init_26 ?_
  refine va_putF (D := D) (ci := 0) (v := .int 26) (ty := .int) (C := RX0) (T := TX0) (N := 7) hx hb hts li_X0_init_26_X0 tyX0 tyX0_ok nmX0 hown hK hP hD hS 0 rfl rfl 2 (by decide) (hts _ lk_X0_init_26_8) (fun _ h9 => h9) rfl hin rfl (by decide +kernel) rfl rfl (Nat.le_of_ble_eq_true rfl) dX0_init_27 (fun H locs hP hD hS => ?_)
  have hP : va_P D vwCl [(h0, .inr (0, [.int n, .ref t0, .int 26, .null, .null, .int 0, .int 0]))] H := hP
  have hD : va_D A [(h0, .inr (0, [.int n, .ref t0, .int 26, .null, .null, .int 0, .int 0]))] := hD
  refine lv_aload_n hx hb dX0_init_30 rfl (lv_at hl 0 rfl) ?_
  refine lv_aload_n hx hb dX0_init_31 rfl (lv_at hl 2 rfl) ?_
  refine va_tlen (v := 26) hx hb hT hS rfl dX0_init_32 ?_
  refine va_newa (atype := .int) (a0 := (26, .inl (fun _ => 0))) hx hb (hts _ lk_X0_init_26_9) rfl hK hP hD hS hA (fun _ => rfl) (by decide) rfl (by decide) (Nat.le_of_ble_eq_true rfl) (Nat.le_of_ble_eq_true rfl) dX0_init_33 (fun q33 cA H hK9 hP hD hS => ?_)
  obtain rfl : ca 0 = cA := ca_eq hK hK9 0 rfl
  have hP : va_P D vwCl [(h0, .inr (0, [.int n, .ref t0, .int 26, .null, .null, .int 0, .int 0])), (q33, .inl (ca 0, 26, .inl (fun _ => 0)))] H := hP
  have hD : va_D A [(h0, .inr (0, [.int n, .ref t0, .int 26, .null, .null, .int 0, .int 0])), (q33, .inl (ca 0, 26, .inl (fun _ => 0)))] := hD
  refine W.widen (k := 1) (n := 26) (Nat.le_of_ble_eq_true rfl) (Nat.le_of_ble_eq_true rfl) ?_
  refine va_putF (D := D) (ci := 0) (v := .ref q33) (ty := .array .int) (C := RX0) (T := TX0) (N := 7) hx hb hts li_X0_init_26_X0 tyX0 tyX0_ok nmX0 hown hK hP hD hS 0 rfl rfl 3 (by decide) (hts _ lk_X0_init_26_10) (fun _ h9 => h9) rfl hin rfl (by decide +kernel) rfl rfl (Nat.le_of_ble_eq_true rfl) dX0_init_35 (fun H locs hP hD hS => ?_)
  have hP : va_P D vwCl [(h0, .inr (0, [.int n, .ref t0, .int 26, .ref q33, .null, .int 0, .int 0])), (q33, .inl (ca 0, 26, .inl (fun _ => 0)))] H := hP
  have hD : va_D A [(h0, .inr (0, [.int n, .ref t0, .int 26, .ref q33, .null, .int 0, .int 0])), (q33, .inl (ca 0, 26, .inl (fun _ => 0)))] := hD
  refine lv_aload_n hx hb dX0_init_38 rfl (lv_at hl 0 rfl) ?_
  refine lv_aload_n hx hb dX0_init_39 rfl (lv_at hl 2 rfl) ?_
  refine va_tlen (v := 26) hx hb hT hS rfl dX0_init_40 ?_
  refine va_newa (atype := .int) (a0 := (26, .inl (fun _ => 0))) hx hb (hts _ lk_X0_init_26_9) rfl hK hP hD hS hA (fun _ => rfl) (by decide) rfl (by decide) (Nat.le_of_ble_eq_true rfl) (Nat.le_of_ble_eq_true rfl) dX0_init_41 (fun q41 cA H hK9 hP hD hS => ?_)
  obtain rfl : ca 0 = cA := ca_eq hK hK9 0 rfl
  have hP : va_P D vwCl [(h0, .inr (0, [.int n, .ref t0, .int 26, .ref q33, .null, .int 0, .int 0])), (q33, .inl (ca 0, 26, .inl (fun _ => 0))), (q41, .inl (ca 0, 26, .inl (fun _ => 0)))] H := hP
  have hD : va_D A [(h0, .inr (0, [.int n, .ref t0, .int 26, .ref q33, .null, .int 0, .int 0])), (q33, .inl (ca 0, 26, .inl (fun _ => 0))), (q41, .inl (ca 0, 26, .inl (fun _ => 0)))] := hD
  refine W.widen (k := 2) (n := 52) (Nat.le_of_ble_eq_true rfl) (Nat.le_of_ble_eq_true rfl) ?_
  refine va_putF (D := D) (ci := 0) (v := .ref q41) (ty := .array .int) (C := RX0) (T := TX0) (N := 7) hx hb hts li_X0_init_26_X0 tyX0 tyX0_ok nmX0 hown hK hP hD hS 0 rfl rfl 4 (by decide) (hts _ lk_X0_init_26_11) (fun _ h9 => h9) rfl hin rfl (by decide +kernel) rfl rfl (Nat.le_of_ble_eq_true rfl) dX0_init_43 (fun H locs hP hD hS => ?_)
  have hP : va_P D vwCl [(h0, .inr (0, [.int n, .ref t0, .int 26, .ref q33, .ref q41, .int 0, .int 0])), (q33, .inl (ca 0, 26, .inl (fun _ => 0))), (q41, .inl (ca 0, 26, .inl (fun _ => 0)))] H := hP
  have hD : va_D A [(h0, .inr (0, [.int n, .ref t0, .int 26, .ref q33, .ref q41, .int 0, .int 0])), (q33, .inl (ca 0, 26, .inl (fun _ => 0))), (q41, .inl (ca 0, 26, .inl (fun _ => 0)))] := hD
  refine lv_iconst (v := 0) hx hb dX0_init_46 (by decide) ?_
  refine lv_istore_n (lv' := [(3, .int 0), (0, .ref h0), (1, .int n), (2, .ref t0)]) hx hb dX0_init_47 rfl hl (by decide) rfl (fun ls hl => ?_)
  have loop : ∀ (k i : Nat) (H : Heap) (locs : List Loc) (ls : Array Slot), i ≤ 26 → 26 < i + k → va_P D vwCl [(h0, .inr (0, [.int n, .ref t0, .int 26, .ref q33, .ref q41, .int 0, .int 0])), (q33, .inl (ca 0, 26, .inl (kf i))), (q41, .inl (ca 0, 26, .inl (kf i)))] H → va_D A [(h0, .inr (0, [.int n, .ref t0, .int 26, .ref q33, .ref q41, .int 0, .int 0])), (q33, .inl (ca 0, 26, .inl (kf i))), (q41, .inl (ca 0, 26, .inl (kf i)))] → va_S A s.heap H locs → lv_has ls 4 [(3, .int (nI i)), (0, .ref h0), (1, .int n), (2, .ref t0)] → W p l e (headSpec wsX0_init ({ frames := 1, cells := 2, slots := 52, locals := 12 } : Room)).room s m ([.ref h0, .int n, .ref t0] : List Value).toArray below meth c H locs 2 52 (MQ below (va_Qv (fun (_ : Unit) => True) (fun _ t => ∃ (q33 q41 : Nat), va_P D vwCl [(h0, .inr (0, [.int n, .ref t0, .int 26, .ref q33, .ref q41, .int 0, .int 0])), (q33, .inl (ca 0, 26, .inl (kf 26))), (q41, .inl (ca 0, 26, .inl (kf 26)))] t.heap ∧ va_D A [(h0, .inr (0, [.int n, .ref t0, .int 26, .ref q33, .ref q41, .int 0, .int 0])), (q33, .inl (ca 0, 26, .inl (kf 26))), (q41, .inl (ca 0, 26, .inl (kf 26)))]) A) ([.ref h0, .int n, .ref t0] : List Value).toArray s 2 52 A) (F0 m 48 ls []) := by
    intro k
    induction k with
    | zero => intro i H locs ls h1 h2; exact absurd h2 (by omega)
    | succ k ih =>
      intro i H locs ls hle hlt hP hD hS hl
      refine lv_iload_n hx hb dX0_init_48 rfl (lv_at hl 0 rfl) ?_
      refine lv_aload_n hx hb dX0_init_49 rfl (lv_at hl 3 rfl) ?_
      refine va_tlen (v := 26) hx hb hT hS rfl dX0_init_50 ?_
      refine lv_icmp_ge (tgt := 74) hx hb dX0_init_51 (by decide) (fun c_1 => ?_) (fun c_1 => ?_)
      · have hi : i = 26 := by
          rcases Nat.lt_or_ge i 26 with q | q
          · exact absurd (show nI 26 ≤ nI i from c_1) (nI_ge q (by decide))
          · omega
        subst hi
        exact W.vret hx hb hr (fun t ht hW => ⟨⟨(), rfl, trivial, ⟨q33, q41, by rw [ht]; exact hP, hD⟩⟩, hS.F ht⟩) hS.2.2 dX0_init_74
      · have hi : i < 26 := ow_lt (b := 26) c_1 hle (by decide)
        have hi31 : i < 2 ^ 31 := by omega
        refine lv_aload_n hx hb dX0_init_54 rfl (lv_at hl 1 rfl) ?_
        refine va_get (D := D) (ci := 0) (v := .ref q33) (C := RX0) (T := TX0) (N := 7) hx hb hts li_X0_init_26_X0 hown hK hP 0 rfl rfl 3 (by decide) (hts _ lk_X0_init_26_10) (fun _ h9 => h9) rfl dX0_init_55 ?_
        refine lv_iload_n hx hb dX0_init_58 rfl (lv_at hl 0 rfl) ?_
        refine lv_iload_n hx hb dX0_init_59 rfl (lv_at hl 0 rfl) ?_
        refine va_iast hx hb hK hP hD hS 1 0 rfl rfl (vp_in_nI hi (by decide)) dX0_init_60 (fun H locs hP hD hS => ?_)
        have hP : va_P D vwCl [(h0, .inr (0, [.int n, .ref t0, .int 26, .ref q33, .ref q41, .int 0, .int 0])), (q33, .inl (ca 0, 26, .inl (kf (i + 1)))), (q41, .inl (ca 0, 26, .inl (kf i)))] H := by rw [← kf_up hi31]; exact hP
        have hD : va_D A [(h0, .inr (0, [.int n, .ref t0, .int 26, .ref q33, .ref q41, .int 0, .int 0])), (q33, .inl (ca 0, 26, .inl (kf (i + 1)))), (q41, .inl (ca 0, 26, .inl (kf i)))] := by rw [← kf_up hi31]; exact hD
        refine lv_aload_n hx hb dX0_init_61 rfl (lv_at hl 1 rfl) ?_
        refine va_get (D := D) (ci := 0) (v := .ref q41) (C := RX0) (T := TX0) (N := 7) hx hb hts li_X0_init_26_X0 hown hK hP 0 rfl rfl 4 (by decide) (hts _ lk_X0_init_26_11) (fun _ h9 => h9) rfl dX0_init_62 ?_
        refine lv_iload_n hx hb dX0_init_65 rfl (lv_at hl 0 rfl) ?_
        refine lv_iload_n hx hb dX0_init_66 rfl (lv_at hl 0 rfl) ?_
        refine va_iast hx hb hK hP hD hS 2 0 rfl rfl (vp_in_nI hi (by decide)) dX0_init_67 (fun H locs hP hD hS => ?_)
        have hP : va_P D vwCl [(h0, .inr (0, [.int n, .ref t0, .int 26, .ref q33, .ref q41, .int 0, .int 0])), (q33, .inl (ca 0, 26, .inl (kf (i + 1)))), (q41, .inl (ca 0, 26, .inl (kf (i + 1))))] H := by rw [← kf_up hi31] at hP ⊢; exact hP
        have hD : va_D A [(h0, .inr (0, [.int n, .ref t0, .int 26, .ref q33, .ref q41, .int 0, .int 0])), (q33, .inl (ca 0, 26, .inl (kf (i + 1)))), (q41, .inl (ca 0, 26, .inl (kf (i + 1))))] := by rw [← kf_up hi31] at hD ⊢; exact hD
        refine lv_iinc (v := (nI (i + 1))) (lv' := [(3, .int (nI (i + 1))), (0, .ref h0), (1, .int n), (2, .ref t0)]) hx hb dX0_init_68 hl (k := 0) rfl (nI_1 _) (by decide) rfl (fun ls hl => ?_)
        refine lv_goto (tgt := 48) hx hb dX0_init_71 (by decide) ?_
        exact ih (i + 1) _ _ _ (by omega) (by omega) hP hD hS hl
  have hP : va_P D vwCl [(h0, .inr (0, [.int n, .ref t0, .int 26, .ref q33, .ref q41, .int 0, .int 0])), (q33, .inl (ca 0, 26, .inl (kf 0))), (q41, .inl (ca 0, 26, .inl (kf 0)))] H := by rw [kf_0]; exact hP
  have hD : va_D A [(h0, .inr (0, [.int n, .ref t0, .int 26, .ref q33, .ref q41, .int 0, .int 0])), (q33, .inl (ca 0, 26, .inl (kf 0))), (q41, .inl (ca 0, 26, .inl (kf 0)))] := by rw [kf_0]; exact hD
  exact loop 27 0 _ _ _ (Nat.zero_le _) (by omega) hP hD hS (lv_sub hl [0, 1, 2, 3] rfl)

theorem lk_X1_init_0 : (.methodLink RX1 1 objectInit : Cond) ∈ wsX1_init := by decide +kernel
theorem lk_X1_init_1 : (.instanceMethod objectInit : Cond) ∈ wsX1_init := by decide +kernel
theorem lk_X1_init_2 : (.code objectInit ⟨#[0xb1]⟩ 1 none : Cond) ∈ wsX1_init := by decide +kernel
theorem li_X1_init_X1 : ∀ w ∈ u_ws RX1 TX1 2, w ∈ wsX1_init := by decide +kernel
theorem lk_X1_init_4 : (.fieldLink RX1 7 "RecordLabels$LabelSet" "members" "I" : Cond) ∈ wsX1_init := by decide +kernel
theorem lk_X1_init_5 : (.fieldLink RX1 13 "RecordLabels$LabelSet" "kind" "LRecordLabels$Kind;" : Cond) ∈ wsX1_init := by decide +kernel
set_option maxHeartbeats 8000000 in
set_option maxRecDepth 100000 in
theorem kX1_init (l : Launch) (D : va_G) (ca : Nat → ClassId) (h0 sz : Nat) (k0 : Nat) : Met l yX1_init wsX1_init ({ frames := 1, cells := 0, slots := 0, locals := 12 }) (va_Pc [.ref h0, .ref k0] (fun U => U.heap.size = sz ∧ va_P D vwCl [(h0, .inr (1, [.null, .int 0]))] U.heap ∧ va_K D vwCl (ow_ty ca) U ∧ va_D (fun _ => True) [(h0, .inr (1, [.null, .int 0]))])) (va_Qv (fun (_ : Unit) => True) (fun _ t => va_P D vwCl [(h0, .inr (1, [.ref k0, .int 0]))] t.heap ∧ va_D (va_A [(h0, .inr (1, [.null, .int 0]))] sz) [(h0, .inr (1, [.ref k0, .int 0]))]) (va_A [(h0, .inr (1, [.null, .int 0]))] sz)) 0 0 (va_A [(h0, .inr (1, [.null, .int 0]))] sz) := by
  refine Met.ofW (cc := cX1_init) (maxL := 2) (ret := none) (by decide) rfl ?_
  intro p e s m args below meth c s₁ B hml hv
  obtain ⟨rfl, hsz, hP, hK, hD0⟩ := hv
  have hx := B.exec
  have hb := B.bytes
  have hr := B.returns
  have hts := atoms_spec (ws := wsX1_init) B.pre
  have hown : s.vm.findClass RX1 = some m.cls := findClass_of_methodNamed B.named
  have hlocks := B.notSynchronized
  have hin : meth.name = "<init>" := (name_of_methodNamed B.named B.method).1
  subst hsz
  have hD := hD0.self (sz := s.heap.size)
  generalize hAe : va_A [(h0, .inr (1, [.null, .int 0]))] s.heap.size = A at hD  ⊢
  have hA : ∀ q : Nat, s.heap.size ≤ q → A q := fun q h => by rw [← hAe]; exact Or.inr h
  have hS : va_S A s.heap s.heap [] := va_S.rf
  have hP : va_P D vwCl [(h0, .inr (1, [.null, .int 0]))] s.heap := hP
  have hl := lv_entry ([.ref h0, .ref k0]) (n := 2) (Nat.le_of_ble_eq_true rfl)
  rw [lg_entry_eq]
  generalize (lg_sl ([.ref h0, .ref k0]) ++ List.replicate (2 - (lg_sl ([.ref h0, .ref k0])).length) Slot.unset).toArray = ls at hl ⊢
  have hl : lv_has ls 2 [(0, .ref h0), (1, .ref k0)] := hl
  refine lv_aload_n hx hb dX1_init_0 rfl (lv_at hl 0 rfl) ?_
  refine W.objInit hx hb hown (hts _ lk_X1_init_0) (hts _ lk_X1_init_1) (hts _ lk_X1_init_2) rfl (by rw [hml]; exact hl.1) rfl dX1_init_1 (Nat.le_of_ble_eq_true rfl) (Nat.le_of_ble_eq_true rfl) ?_
  refine W.eq (g2 := F0 m 4 ls []) rfl ?_
  refine lv_aload_n hx hb dX1_init_4 rfl (lv_at hl 0 rfl) ?_
  refine lv_iconst (v := 0) hx hb dX1_init_5 (by decide) ?_
  refine va_put (D := D) (ci := 1) (v := .int 0) (ty := .int) (C := RX1) (T := TX1) (N := 2) hx hb hts li_X1_init_X1 tyX1 tyX1_ok nmX1 hown hK hP hD hS 0 rfl rfl 1 (by decide) (hts _ lk_X1_init_4) (fun _ h9 => h9) rfl (by decide +kernel) rfl rfl (Nat.le_of_ble_eq_true rfl) dX1_init_6 (fun H locs hP hD hS => ?_)
  have hP : va_P D vwCl [(h0, .inr (1, [.null, .int 0]))] H := hP
  have hD : va_D A [(h0, .inr (1, [.null, .int 0]))] := hD
  refine lv_aload_n hx hb dX1_init_9 rfl (lv_at hl 0 rfl) ?_
  refine lv_aload_n hx hb dX1_init_10 rfl (lv_at hl 1 rfl) ?_
  refine va_put (D := D) (ci := 1) (v := .ref k0) (ty := .object "RecordLabels$Kind") (C := RX1) (T := TX1) (N := 2) hx hb hts li_X1_init_X1 tyX1 tyX1_ok nmX1 hown hK hP hD hS 0 rfl rfl 0 (by decide) (hts _ lk_X1_init_5) (fun _ h9 => h9) rfl (by decide +kernel) rfl rfl (Nat.le_of_ble_eq_true rfl) dX1_init_11 (fun H locs hP hD hS => ?_)
  have hP : va_P D vwCl [(h0, .inr (1, [.ref k0, .int 0]))] H := hP
  have hD : va_D A [(h0, .inr (1, [.ref k0, .int 0]))] := hD
  exact W.vret hx hb hr (fun t ht hW => ⟨⟨(), rfl, trivial, ⟨by rw [ht]; exact hP, hD⟩⟩, hS.F ht⟩) hS.2.2 dX1_init_14

theorem lk_X2_init_0 : (.methodLink RX2 3 objectInit : Cond) ∈ wsX2_init := by decide +kernel
theorem lk_X2_init_1 : (.instanceMethod objectInit : Cond) ∈ wsX2_init := by decide +kernel
theorem lk_X2_init_2 : (.code objectInit ⟨#[0xb1]⟩ 1 none : Cond) ∈ wsX2_init := by decide +kernel
theorem li_X2_init_X2 : ∀ w ∈ u_ws RX2 TX2 5, w ∈ wsX2_init := by decide +kernel
theorem lk_X2_init_4 : (.fieldLink RX2 9 "RecordLabels$Table" "size" "I" : Cond) ∈ wsX2_init := by decide +kernel
theorem lk_X2_init_5 : (.fieldLink RX2 15 "RecordLabels$Table" "kind" "LRecordLabels$Kind;" : Cond) ∈ wsX2_init := by decide +kernel
theorem lk_X2_init_6 : (.fieldLink RX2 19 "RecordLabels$Table" "items" "I" : Cond) ∈ wsX2_init := by decide +kernel
theorem lk_X2_init_7 : (.fieldLink RX2 22 "RecordLabels$Table" "measure" "I" : Cond) ∈ wsX2_init := by decide +kernel
theorem lk_X2_init_8 : (.classLink RX2 25 "[[I" : Cond) ∈ wsX2_init := by decide +kernel
theorem lk_X2_init_9 : (.arrayClass .int : Cond) ∈ wsX2_init := by decide +kernel
theorem lk_X2_init_10 : (.fieldLink RX2 27 "RecordLabels$Table" "columns" "[[I" : Cond) ∈ wsX2_init := by decide +kernel
set_option maxHeartbeats 8000000 in
set_option maxRecDepth 100000 in
theorem kX2_init (l : Launch) (D : va_G) (ca : Nat → ClassId) (h0 sz : Nat) (k0 : Nat) (n mz : Int32) : Met l yX2_init wsX2_init ({ frames := 1, cells := 5, slots := 124, locals := 12 }) (va_Pc [.ref h0, .ref k0, .int n, .int mz] (fun U => U.heap.size = sz ∧ va_P D vwCl [(h0, .inr (2, [.null, .int 0, .int 0, .null, .int 0]))] U.heap ∧ va_K D vwCl (ow_ty ca) U ∧ va_D (fun _ => True) [(h0, .inr (2, [.null, .int 0, .int 0, .null, .int 0]))] ∧ va_AOA .int U)) (va_Qv (fun (_ : Unit) => True) (fun _ t => ∃ (qo : Nat) (r : Nat → Nat), va_P D vwCl [(h0, .inr (2, [.ref k0, .int n, .int mz, .ref qo, .int 0])), (qo, .inl (ca 4, 4, .inr (.inr (.inr (.inr (fun i => if i < 4 then some (r i) else none)))))), ((r 0), .inl (ca 0, 30, .inl (fun _ => 0))), ((r 1), .inl (ca 0, 30, .inl (fun _ => 0))), ((r 2), .inl (ca 0, 30, .inl (fun _ => 0))), ((r 3), .inl (ca 0, 30, .inl (fun _ => 0)))] t.heap ∧ va_D (va_A [(h0, .inr (2, [.null, .int 0, .int 0, .null, .int 0]))] sz) [(h0, .inr (2, [.ref k0, .int n, .int mz, .ref qo, .int 0])), (qo, .inl (ca 4, 4, .inr (.inr (.inr (.inr (fun i => if i < 4 then some (r i) else none)))))), ((r 0), .inl (ca 0, 30, .inl (fun _ => 0))), ((r 1), .inl (ca 0, 30, .inl (fun _ => 0))), ((r 2), .inl (ca 0, 30, .inl (fun _ => 0))), ((r 3), .inl (ca 0, 30, .inl (fun _ => 0)))]) (va_A [(h0, .inr (2, [.null, .int 0, .int 0, .null, .int 0]))] sz)) 5 124 (va_A [(h0, .inr (2, [.null, .int 0, .int 0, .null, .int 0]))] sz) := by
  refine Met.ofW (cc := cX2_init) (maxL := 4) (ret := none) (by decide) rfl ?_
  intro p e s m args below meth c s₁ B hml hv
  obtain ⟨rfl, hsz, hP, hK, hD0, hAOA⟩ := hv
  have hx := B.exec
  have hb := B.bytes
  have hr := B.returns
  have hts := atoms_spec (ws := wsX2_init) B.pre
  have hown : s.vm.findClass RX2 = some m.cls := findClass_of_methodNamed B.named
  have hlocks := B.notSynchronized
  have hin : meth.name = "<init>" := (name_of_methodNamed B.named B.method).1
  subst hsz
  have hD := hD0.self (sz := s.heap.size)
  generalize hAe : va_A [(h0, .inr (2, [.null, .int 0, .int 0, .null, .int 0]))] s.heap.size = A at hD  ⊢
  have hA : ∀ q : Nat, s.heap.size ≤ q → A q := fun q h => by rw [← hAe]; exact Or.inr h
  have hS : va_S A s.heap s.heap [] := va_S.rf
  have hP : va_P D vwCl [(h0, .inr (2, [.null, .int 0, .int 0, .null, .int 0]))] s.heap := hP
  have hl := lv_entry ([.ref h0, .ref k0, .int n, .int mz]) (n := 4) (Nat.le_of_ble_eq_true rfl)
  rw [lg_entry_eq]
  generalize (lg_sl ([.ref h0, .ref k0, .int n, .int mz]) ++ List.replicate (4 - (lg_sl ([.ref h0, .ref k0, .int n, .int mz])).length) Slot.unset).toArray = ls at hl ⊢
  have hl : lv_has ls 4 [(0, .ref h0), (1, .ref k0), (2, .int n), (3, .int mz)] := hl
  have hcy : s.vm.findClass (FieldType.array .int).toString = some (ca 0) := (hK.2 0 _ rfl).2
  refine lv_aload_n hx hb dX2_init_0 rfl (lv_at hl 0 rfl) ?_
  refine W.objInit hx hb hown (hts _ lk_X2_init_0) (hts _ lk_X2_init_1) (hts _ lk_X2_init_2) rfl (by rw [hml]; exact hl.1) rfl dX2_init_1 (Nat.le_of_ble_eq_true rfl) (Nat.le_of_ble_eq_true rfl) ?_
  refine W.eq (g2 := F0 m 4 ls []) rfl ?_
  refine lv_aload_n hx hb dX2_init_4 rfl (lv_at hl 0 rfl) ?_
  refine lv_iconst (v := 0) hx hb dX2_init_5 (by decide) ?_
  refine va_put (D := D) (ci := 2) (v := .int 0) (ty := .int) (C := RX2) (T := TX2) (N := 5) hx hb hts li_X2_init_X2 tyX2 tyX2_ok nmX2 hown hK hP hD hS 0 rfl rfl 4 (by decide) (hts _ lk_X2_init_4) (fun _ h9 => h9) rfl (by decide +kernel) rfl rfl (Nat.le_of_ble_eq_true rfl) dX2_init_6 (fun H locs hP hD hS => ?_)
  have hP : va_P D vwCl [(h0, .inr (2, [.null, .int 0, .int 0, .null, .int 0]))] H := hP
  have hD : va_D A [(h0, .inr (2, [.null, .int 0, .int 0, .null, .int 0]))] := hD
  refine lv_aload_n hx hb dX2_init_9 rfl (lv_at hl 0 rfl) ?_
  refine lv_aload_n hx hb dX2_init_10 rfl (lv_at hl 1 rfl) ?_
  refine va_putF (D := D) (ci := 2) (v := .ref k0) (ty := .object "RecordLabels$Kind") (C := RX2) (T := TX2) (N := 5) hx hb hts li_X2_init_X2 tyX2 tyX2_ok nmX2 hown hK hP hD hS 0 rfl rfl 0 (by decide) (hts _ lk_X2_init_5) (fun _ h9 => h9) rfl hin rfl (by decide +kernel) rfl rfl (Nat.le_of_ble_eq_true rfl) dX2_init_11 (fun H locs hP hD hS => ?_)
  have hP : va_P D vwCl [(h0, .inr (2, [.ref k0, .int 0, .int 0, .null, .int 0]))] H := hP
  have hD : va_D A [(h0, .inr (2, [.ref k0, .int 0, .int 0, .null, .int 0]))] := hD
  refine lv_aload_n hx hb dX2_init_14 rfl (lv_at hl 0 rfl) ?_
  refine lv_iload_n hx hb dX2_init_15 rfl (lv_at hl 2 rfl) ?_
  refine va_putF (D := D) (ci := 2) (v := .int n) (ty := .int) (C := RX2) (T := TX2) (N := 5) hx hb hts li_X2_init_X2 tyX2 tyX2_ok nmX2 hown hK hP hD hS 0 rfl rfl 1 (by decide) (hts _ lk_X2_init_6) (fun _ h9 => h9) rfl hin rfl (by decide +kernel) rfl rfl (Nat.le_of_ble_eq_true rfl) dX2_init_16 (fun H locs hP hD hS => ?_)
  have hP : va_P D vwCl [(h0, .inr (2, [.ref k0, .int n, .int 0, .null, .int 0]))] H := hP
  have hD : va_D A [(h0, .inr (2, [.ref k0, .int n, .int 0, .null, .int 0]))] := hD
  refine lv_aload_n hx hb dX2_init_19 rfl (lv_at hl 0 rfl) ?_
  refine lv_iload_n hx hb dX2_init_20 rfl (lv_at hl 3 rfl) ?_
  refine va_putF (D := D) (ci := 2) (v := .int mz) (ty := .int) (C := RX2) (T := TX2) (N := 5) hx hb hts li_X2_init_X2 tyX2 tyX2_ok nmX2 hown hK hP hD hS 0 rfl rfl 2 (by decide) (hts _ lk_X2_init_7) (fun _ h9 => h9) rfl hin rfl (by decide +kernel) rfl rfl (Nat.le_of_ble_eq_true rfl) dX2_init_21 (fun H locs hP hD hS => ?_)
  have hP : va_P D vwCl [(h0, .inr (2, [.ref k0, .int n, .int mz, .null, .int 0]))] H := hP
  have hD : va_D A [(h0, .inr (2, [.ref k0, .int n, .int mz, .null, .int 0]))] := hD
  refine lv_aload_n hx hb dX2_init_24 rfl (lv_at hl 0 rfl) ?_
  refine lv_iconst (v := 4) hx hb dX2_init_25 (by decide) ?_
  refine lv_bipush (v := 30) hx hb dX2_init_26 (by decide) ?_
  have hP : va_P D vwCl ([(h0, .inr (2, [.ref k0, .int n, .int mz, .null, .int 0]))] ++ va_pl [] (fun _ => (.inr (0, []) : va_E))) H := by rw [show va_pl [] (fun _ => (.inr (0, []) : va_E)) = [] from rfl, List.append_nil]; exact hP
  have hD : va_D A ([(h0, .inr (2, [.ref k0, .int n, .int mz, .null, .int 0]))] ++ va_pl [] (fun _ => (.inr (0, []) : va_E))) := by rw [show va_pl [] (fun _ => (.inr (0, []) : va_E)) = [] from rfl, List.append_nil]; exact hD
  refine va_mna (cy := ca 0) (z := (30, .inl (fun _ => 0))) (ty := .int) hx hb hown (hts _ lk_X2_init_8) hAOA (hts _ lk_X2_init_9) hcy hK hP hD hS hA (n := 4) (k := 30) (by decide) (by decide) (N' := 4) (K' := 30) rfl rfl (by decide) (by decide) (by decide) rfl rfl (Nat.le_of_ble_eq_true rfl) (Nat.le_of_ble_eq_true rfl) (fun _ => mna_in _) dX2_init_28 (fun qo r cA H hrj _ hK9 hP hD hS => ?_)
  obtain rfl : ca 4 = cA := ca_eq hK hK9 4 rfl
  have hP : va_P D vwCl [(h0, .inr (2, [.ref k0, .int n, .int mz, .null, .int 0])), (qo, .inl (ca 4, 4, .inr (.inr (.inr (.inr (fun i => if i < 4 then some (r i) else none)))))), ((r 0), .inl (ca 0, 30, .inl (fun _ => 0))), ((r 1), .inl (ca 0, 30, .inl (fun _ => 0))), ((r 2), .inl (ca 0, 30, .inl (fun _ => 0))), ((r 3), .inl (ca 0, 30, .inl (fun _ => 0)))] H := by have e9 := mna_ws (r := r) (e := (.inl (ca 0, 30, .inl (fun _ => 0)) : va_E)); rw [e9] at hP; exact hP
  have hD : va_D A [(h0, .inr (2, [.ref k0, .int n, .int mz, .null, .int 0])), (qo, .inl (ca 4, 4, .inr (.inr (.inr (.inr (fun i => if i < 4 then some (r i) else none)))))), ((r 0), .inl (ca 0, 30, .inl (fun _ => 0))), ((r 1), .inl (ca 0, 30, .inl (fun _ => 0))), ((r 2), .inl (ca 0, 30, .inl (fun _ => 0))), ((r 3), .inl (ca 0, 30, .inl (fun _ => 0)))] := by have e9 := mna_ws (r := r) (e := (.inl (ca 0, 30, .inl (fun _ => 0)) : va_E)); rw [e9] at hD; exact hD
  refine W.widen (k := 5) (n := 124) (Nat.le_of_ble_eq_true rfl) (Nat.le_of_ble_eq_true rfl) ?_
  refine va_putF (D := D) (ci := 2) (v := .ref qo) (ty := .array (.array .int)) (C := RX2) (T := TX2) (N := 5) hx hb hts li_X2_init_X2 tyX2 tyX2_ok nmX2 hown hK hP hD hS 0 rfl rfl 3 (by decide) (hts _ lk_X2_init_10) (fun _ h9 => h9) rfl hin rfl (by decide +kernel) rfl rfl (Nat.le_of_ble_eq_true rfl) dX2_init_32 (fun H locs hP hD hS => ?_)
  have hP : va_P D vwCl [(h0, .inr (2, [.ref k0, .int n, .int mz, .ref qo, .int 0])), (qo, .inl (ca 4, 4, .inr (.inr (.inr (.inr (fun i => if i < 4 then some (r i) else none)))))), ((r 0), .inl (ca 0, 30, .inl (fun _ => 0))), ((r 1), .inl (ca 0, 30, .inl (fun _ => 0))), ((r 2), .inl (ca 0, 30, .inl (fun _ => 0))), ((r 3), .inl (ca 0, 30, .inl (fun _ => 0)))] H := hP
  have hD : va_D A [(h0, .inr (2, [.ref k0, .int n, .int mz, .ref qo, .int 0])), (qo, .inl (ca 4, 4, .inr (.inr (.inr (.inr (fun i => if i < 4 then some (r i) else none)))))), ((r 0), .inl (ca 0, 30, .inl (fun _ => 0))), ((r 1), .inl (ca 0, 30, .inl (fun _ => 0))), ((r 2), .inl (ca 0, 30, .inl (fun _ => 0))), ((r 3), .inl (ca 0, 30, .inl (fun _ => 0)))] := hD
  exact W.vret hx hb hr (fun t ht hW => ⟨⟨(), rfl, trivial, ⟨qo, r, by rw [ht]; exact hP, hD⟩⟩, hS.F ht⟩) hS.2.2 dX2_init_35
