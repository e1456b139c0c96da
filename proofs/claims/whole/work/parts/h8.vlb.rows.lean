noncomputable def fn_VL_begin_b0 (a1 : Int32) (a2 : Int32) (v_vl_isThere : Int32) (v_vl_columns : Int32) (v_vl_bound : Int32) (v_vl_total : Int32) : Option ((Nat × Int32 × Int32 × Int32 × Int32) ⊕ (Int32 × Int32 × Int32 × Int32)) := some (.inr (1, a1, a2, 0))
noncomputable def fn_VL_begin (a1 : Int32) (a2 : Int32) : Nat × Int32 × Int32 × Int32 × Int32 → Option ((Nat × Int32 × Int32 × Int32 × Int32) ⊕ (Int32 × Int32 × Int32 × Int32)) := fun st => match st with
  | (pc, w_vl_isThere, w_vl_columns, w_vl_bound, w_vl_total) => if pc = 0 then fn_VL_begin_b0 a1 a2 w_vl_isThere w_vl_columns w_vl_bound w_vl_total else none
theorem fn_VL_begin_q0 (a1 : Int32) (a2 : Int32) (w_vl_isThere : Int32) (w_vl_columns : Int32) (w_vl_bound : Int32) (w_vl_total : Int32) : fn_VL_begin a1 a2 (0, w_vl_isThere, w_vl_columns, w_vl_bound, w_vl_total) = fn_VL_begin_b0 a1 a2 w_vl_isThere w_vl_columns w_vl_bound w_vl_total := by simp [fn_VL_begin]
set_option maxHeartbeats 4000000 in
set_option maxRecDepth 100000 in
theorem c_VL_begin (l : Launch) (dC : Nat → ClassId) (dI : Nat → Nat → Nat) (a_vl : Nat) (f_vl_numbers : Nat) (v_vl_isThere : Int32) (v_vl_columns : Int32) (v_vl_bound : Int32) (v_vl_total : Int32) (v_vl_lesser : Int32) (a1 : Int32) (a2 : Int32) (sz : Nat) (out : Int32 × Int32 × Int32 × Int32) (hs : sm_tot (fn_VL_begin a1 a2) (0, v_vl_isThere, v_vl_columns, v_vl_bound, v_vl_total) = some out) : Met l y_VL_begin (Cond.code y_VL_begin b_VL_begin 3 (Option.none : Option Jvm.ClassFile.FieldType) :: wd) { frames := 0, cells := 0, slots := 0, locals := 0 } (va_Pc [.ref a_vl, .int a1, .int a2] (fun U => U.heap.size = sz ∧ va_P (dC, dI) cls [(a_vl, .inr (7, [.ref f_vl_numbers, .int v_vl_isThere, .int v_vl_columns, .int v_vl_bound, .int v_vl_total, .int v_vl_lesser]))] U.heap ∧ va_K (dC, dI) cls [] U ∧ va_D (fun _ => True) [(a_vl, .inr (7, [.ref f_vl_numbers, .int v_vl_isThere, .int v_vl_columns, .int v_vl_bound, .int v_vl_total, .int v_vl_lesser]))] ∧ nw_ok U)) (va_Qv (fun _ : Unit => True) (fun (_ : Unit) t => va_P (dC, dI) cls [(a_vl, .inr (7, [.ref f_vl_numbers, .int out.1, .int out.2.1, .int out.2.2.1, .int out.2.2.2, .int v_vl_lesser]))] t.heap ∧ va_K (dC, dI) cls [] t ∧ va_D (va_A [(a_vl, .inr (7, [.ref f_vl_numbers, .int v_vl_isThere, .int v_vl_columns, .int v_vl_bound, .int v_vl_total, .int v_vl_lesser]))] sz) [(a_vl, .inr (7, [.ref f_vl_numbers, .int out.1, .int out.2.1, .int out.2.2.1, .int out.2.2.2, .int v_vl_lesser]))]) (va_A [(a_vl, .inr (7, [.ref f_vl_numbers, .int v_vl_isThere, .int v_vl_columns, .int v_vl_bound, .int v_vl_total, .int v_vl_lesser]))] sz)) 0 0 (va_A [(a_vl, .inr (7, [.ref f_vl_numbers, .int v_vl_isThere, .int v_vl_columns, .int v_vl_bound, .int v_vl_total, .int v_vl_lesser]))] sz) := by
  refine Met.ofW (cc := b_VL_begin) (maxL := 3) (ret := (Option.none : Option Jvm.ClassFile.FieldType)) (by decide) rfl ?_
  intro p e s m args below meth c s₁ B hml hv
  obtain ⟨rfl, hsz, hP, hK, hD0, hN⟩ := hv
  have hx := B.exec
  have hb := B.bytes
  have hr := B.returns
  have hlocks := B.notSynchronized
  have hts : ∀ w ∈ wd, w.before ([.ref a_vl, .int a1, .int a2] : List Value).toArray s = true := fun w hw => atoms_spec (ws := (Cond.code y_VL_begin b_VL_begin 3 (Option.none : Option Jvm.ClassFile.FieldType) :: wd)) B.pre w (List.mem_cons_of_mem _ hw)
  have hown : s.vm.findClass "LeastSolutions$VectorList" = some m.cls := findClass_of_methodNamed B.named
  subst hsz
  have hD := hD0.self (sz := s.heap.size)
  generalize hAe : va_A [(a_vl, .inr (7, [.ref f_vl_numbers, .int v_vl_isThere, .int v_vl_columns, .int v_vl_bound, .int v_vl_total, .int v_vl_lesser]))] s.heap.size = A at hD ⊢
  have hA : ∀ q : Nat, s.heap.size ≤ q → A q := fun q h => by rw [← hAe]; exact Or.inr h
  have hS : va_S A s.heap s.heap [] := va_S.rf
  have hl := lv_entry ([.ref a_vl, .int a1, .int a2]) (n := 3) (Nat.le_of_ble_eq_true rfl)
  rw [lg_entry_eq]
  generalize (lg_sl ([.ref a_vl, .int a1, .int a2]) ++ List.replicate (3 - (lg_sl ([.ref a_vl, .int a1, .int a2])).length) Slot.unset).toArray = ls at hl ⊢
  have hl : lv_has ls 3 [(0, .ref a_vl), (1, .int a1), (2, .int a2)] := hl
  obtain ⟨k8, hs⟩ := sm_of hs
  cases k8 with
  | zero => cases hs
  | succ k9 =>
    rw [sm_it_succ, fn_VL_begin_q0] at hs
    unfold fn_VL_begin_b0 at hs
    refine lv_aload_n hx hb d_VL_begin_0 rfl (lv_at hl 0 rfl) ?_
    refine lv_iload_n hx hb d_VL_begin_1 rfl (lv_at hl 1 rfl) ?_
    refine va_put (D := (dC, dI)) (ci := 7) (v := .int a1) (ty := .int) (C := R_VL) (T := T_VL) (N := 6) hx hb hts in_VL t_VL t_VL_ok n_VL hown hK hP hD hS 0 rfl rfl 2 (by decide) (hts _ k_270) (fun _ h9 => h9) rfl (by decide +kernel) rfl rfl (Nat.le_of_ble_eq_true rfl) d_VL_begin_2 (fun H1 locs hP hD hS => ?_)
    have hP : va_P (dC, dI) cls [(a_vl, .inr (7, [.ref f_vl_numbers, .int v_vl_isThere, .int a1, .int v_vl_bound, .int v_vl_total, .int v_vl_lesser]))] H1 := hP
    have hD : va_D A [(a_vl, .inr (7, [.ref f_vl_numbers, .int v_vl_isThere, .int a1, .int v_vl_bound, .int v_vl_total, .int v_vl_lesser]))] := hD
    refine lv_aload_n hx hb d_VL_begin_5 rfl (lv_at hl 0 rfl) ?_
    refine lv_iload_n hx hb d_VL_begin_6 rfl (lv_at hl 2 rfl) ?_
    refine va_put (D := (dC, dI)) (ci := 7) (v := .int a2) (ty := .int) (C := R_VL) (T := T_VL) (N := 6) hx hb hts in_VL t_VL t_VL_ok n_VL hown hK hP hD hS 0 rfl rfl 3 (by decide) (hts _ k_271) (fun _ h9 => h9) rfl (by decide +kernel) rfl rfl (Nat.le_of_ble_eq_true rfl) d_VL_begin_7 (fun H2 locs hP hD hS => ?_)
    have hP : va_P (dC, dI) cls [(a_vl, .inr (7, [.ref f_vl_numbers, .int v_vl_isThere, .int a1, .int a2, .int v_vl_total, .int v_vl_lesser]))] H2 := hP
    have hD : va_D A [(a_vl, .inr (7, [.ref f_vl_numbers, .int v_vl_isThere, .int a1, .int a2, .int v_vl_total, .int v_vl_lesser]))] := hD
    refine lv_aload_n hx hb d_VL_begin_10 rfl (lv_at hl 0 rfl) ?_
    refine lv_iconst (v := 0) hx hb d_VL_begin_11 (by decide) ?_
    refine va_put (D := (dC, dI)) (ci := 7) (v := .int 0) (ty := .int) (C := R_VL) (T := T_VL) (N := 6) hx hb hts in_VL t_VL t_VL_ok n_VL hown hK hP hD hS 0 rfl rfl 4 (by decide) (hts _ k_273) (fun _ h9 => h9) rfl (by decide +kernel) rfl rfl (Nat.le_of_ble_eq_true rfl) d_VL_begin_12 (fun H3 locs hP hD hS => ?_)
    have hP : va_P (dC, dI) cls [(a_vl, .inr (7, [.ref f_vl_numbers, .int v_vl_isThere, .int a1, .int a2, .int 0, .int v_vl_lesser]))] H3 := hP
    have hD : va_D A [(a_vl, .inr (7, [.ref f_vl_numbers, .int v_vl_isThere, .int a1, .int a2, .int 0, .int v_vl_lesser]))] := hD
    refine lv_aload_n hx hb d_VL_begin_15 rfl (lv_at hl 0 rfl) ?_
    refine lv_iconst (v := 1) hx hb d_VL_begin_16 (by decide) ?_
    refine va_put (D := (dC, dI)) (ci := 7) (v := .int 1) (ty := .boolean) (C := R_VL) (T := T_VL) (N := 6) hx hb hts in_VL t_VL t_VL_ok n_VL hown hK hP hD hS 0 rfl rfl 1 (by decide) (hts _ k_268) (fun _ h9 => h9) rfl (by decide +kernel) (by decide +kernel) (by decide +kernel) (Nat.le_of_ble_eq_true rfl) d_VL_begin_17 (fun H4 locs hP hD hS => ?_)
    have hP : va_P (dC, dI) cls [(a_vl, .inr (7, [.ref f_vl_numbers, .int 1, .int a1, .int a2, .int 0, .int v_vl_lesser]))] H4 := hP
    have hD : va_D A [(a_vl, .inr (7, [.ref f_vl_numbers, .int 1, .int a1, .int a2, .int 0, .int v_vl_lesser]))] := hD
    have he := sm_end hs
    subst he
    exact W.vret hx hb hr (fun t ht hW => ⟨⟨(), rfl, trivial, by rw [ht]; exact hP, va_K.moved hW.alike hK, hD⟩, hS.F ht⟩) hS.2.2 d_VL_begin_20

noncomputable def fn_VL_drop_b0  (v_vl_isThere : Int32) : Option ((Nat × Int32) ⊕ (Int32)) := some (.inr 0)
noncomputable def fn_VL_drop  : Nat × Int32 → Option ((Nat × Int32) ⊕ (Int32)) := fun st => match st with
  | (pc, w_vl_isThere) => if pc = 0 then fn_VL_drop_b0 w_vl_isThere else none
theorem fn_VL_drop_q0  (w_vl_isThere : Int32) : fn_VL_drop (0, w_vl_isThere) = fn_VL_drop_b0 w_vl_isThere := by simp [fn_VL_drop]
set_option maxHeartbeats 4000000 in
set_option maxRecDepth 100000 in
theorem c_VL_drop (l : Launch) (dC : Nat → ClassId) (dI : Nat → Nat → Nat) (a_vl : Nat) (f_vl_numbers : Nat) (v_vl_isThere : Int32) (v_vl_columns : Int32) (v_vl_bound : Int32) (v_vl_total : Int32) (v_vl_lesser : Int32) (sz : Nat) (out : Int32) (hs : sm_tot (fn_VL_drop) (0, v_vl_isThere) = some out) : Met l y_VL_drop (Cond.code y_VL_drop b_VL_drop 1 (Option.none : Option Jvm.ClassFile.FieldType) :: wd) { frames := 0, cells := 0, slots := 0, locals := 0 } (va_Pc [.ref a_vl] (fun U => U.heap.size = sz ∧ va_P (dC, dI) cls [(a_vl, .inr (7, [.ref f_vl_numbers, .int v_vl_isThere, .int v_vl_columns, .int v_vl_bound, .int v_vl_total, .int v_vl_lesser]))] U.heap ∧ va_K (dC, dI) cls [] U ∧ va_D (fun _ => True) [(a_vl, .inr (7, [.ref f_vl_numbers, .int v_vl_isThere, .int v_vl_columns, .int v_vl_bound, .int v_vl_total, .int v_vl_lesser]))] ∧ nw_ok U)) (va_Qv (fun _ : Unit => True) (fun (_ : Unit) t => va_P (dC, dI) cls [(a_vl, .inr (7, [.ref f_vl_numbers, .int out, .int v_vl_columns, .int v_vl_bound, .int v_vl_total, .int v_vl_lesser]))] t.heap ∧ va_K (dC, dI) cls [] t ∧ va_D (va_A [(a_vl, .inr (7, [.ref f_vl_numbers, .int v_vl_isThere, .int v_vl_columns, .int v_vl_bound, .int v_vl_total, .int v_vl_lesser]))] sz) [(a_vl, .inr (7, [.ref f_vl_numbers, .int out, .int v_vl_columns, .int v_vl_bound, .int v_vl_total, .int v_vl_lesser]))]) (va_A [(a_vl, .inr (7, [.ref f_vl_numbers, .int v_vl_isThere, .int v_vl_columns, .int v_vl_bound, .int v_vl_total, .int v_vl_lesser]))] sz)) 0 0 (va_A [(a_vl, .inr (7, [.ref f_vl_numbers, .int v_vl_isThere, .int v_vl_columns, .int v_vl_bound, .int v_vl_total, .int v_vl_lesser]))] sz) := by
  refine Met.ofW (cc := b_VL_drop) (maxL := 1) (ret := (Option.none : Option Jvm.ClassFile.FieldType)) (by decide) rfl ?_
  intro p e s m args below meth c s₁ B hml hv
  obtain ⟨rfl, hsz, hP, hK, hD0, hN⟩ := hv
  have hx := B.exec
  have hb := B.bytes
  have hr := B.returns
  have hlocks := B.notSynchronized
  have hts : ∀ w ∈ wd, w.before ([.ref a_vl] : List Value).toArray s = true := fun w hw => atoms_spec (ws := (Cond.code y_VL_drop b_VL_drop 1 (Option.none : Option Jvm.ClassFile.FieldType) :: wd)) B.pre w (List.mem_cons_of_mem _ hw)
  have hown : s.vm.findClass "LeastSolutions$VectorList" = some m.cls := findClass_of_methodNamed B.named
  subst hsz
  have hD := hD0.self (sz := s.heap.size)
  generalize hAe : va_A [(a_vl, .inr (7, [.ref f_vl_numbers, .int v_vl_isThere, .int v_vl_columns, .int v_vl_bound, .int v_vl_total, .int v_vl_lesser]))] s.heap.size = A at hD ⊢
  have hA : ∀ q : Nat, s.heap.size ≤ q → A q := fun q h => by rw [← hAe]; exact Or.inr h
  have hS : va_S A s.heap s.heap [] := va_S.rf
  have hl := lv_entry ([.ref a_vl]) (n := 1) (Nat.le_of_ble_eq_true rfl)
  rw [lg_entry_eq]
  generalize (lg_sl ([.ref a_vl]) ++ List.replicate (1 - (lg_sl ([.ref a_vl])).length) Slot.unset).toArray = ls at hl ⊢
  have hl : lv_has ls 1 [(0, .ref a_vl)] := hl
  obtain ⟨k8, hs⟩ := sm_of hs
  cases k8 with
  | zero => cases hs
  | succ k9 =>
    rw [sm_it_succ, fn_VL_drop_q0] at hs
    unfold fn_VL_drop_b0 at hs
    refine lv_aload_n hx hb d_VL_drop_0 rfl (lv_at hl 0 rfl) ?_
    refine lv_iconst (v := 0) hx hb d_VL_drop_1 (by decide) ?_
    refine va_put (D := (dC, dI)) (ci := 7) (v := .int 0) (ty := .boolean) (C := R_VL) (T := T_VL) (N := 6) hx hb hts in_VL t_VL t_VL_ok n_VL hown hK hP hD hS 0 rfl rfl 1 (by decide) (hts _ k_268) (fun _ h9 => h9) rfl (by decide +kernel) (by decide +kernel) (by decide +kernel) (Nat.le_of_ble_eq_true rfl) d_VL_drop_2 (fun H1 locs hP hD hS => ?_)
    have hP : va_P (dC, dI) cls [(a_vl, .inr (7, [.ref f_vl_numbers, .int 0, .int v_vl_columns, .int v_vl_bound, .int v_vl_total, .int v_vl_lesser]))] H1 := hP
    have hD : va_D A [(a_vl, .inr (7, [.ref f_vl_numbers, .int 0, .int v_vl_columns, .int v_vl_bound, .int v_vl_total, .int v_vl_lesser]))] := hD
    have he := sm_end hs
    subst he
    exact W.vret hx hb hr (fun t ht hW => ⟨⟨(), rfl, trivial, by rw [ht]; exact hP, va_K.moved hW.alike hK, hD⟩, hS.F ht⟩) hS.2.2 d_VL_drop_5

noncomputable def fn_VL_has_b0 (a1 : Int32) (v_vl_isThere : Int32) (v_vl_total : Int32) (_z0 : Int32) : Option ((Nat × Int32) ⊕ (Int32)) := if (v_vl_isThere : Int32) = 0 then (some (.inl (23, 0))) else (if (a1 : Int32) < 0 then (some (.inl (23, 0))) else (if (v_vl_total : Int32) ≤ a1 then (some (.inl (23, 0))) else (some (.inl (24, 1)))))
noncomputable def fn_VL_has_b23 (a1 : Int32) (v_vl_isThere : Int32) (v_vl_total : Int32) (s0i : Int32) : Option ((Nat × Int32) ⊕ (Int32)) := some (.inl (24, 0))
noncomputable def fn_VL_has_b24 (a1 : Int32) (v_vl_isThere : Int32) (v_vl_total : Int32) (s0i : Int32) : Option ((Nat × Int32) ⊕ (Int32)) := if ((s0i : Int32) = 0 ∨ (s0i : Int32) = 1) then some (.inr s0i) else none
noncomputable def fn_VL_has (a1 : Int32) (v_vl_isThere : Int32) (v_vl_total : Int32) : Nat × Int32 → Option ((Nat × Int32) ⊕ (Int32)) := fun st => match st with
  | (pc, s0i) => if pc = 0 then fn_VL_has_b0 a1 v_vl_isThere v_vl_total s0i else if pc = 23 then fn_VL_has_b23 a1 v_vl_isThere v_vl_total s0i else if pc = 24 then fn_VL_has_b24 a1 v_vl_isThere v_vl_total s0i else none
theorem fn_VL_has_q0 (a1 : Int32) (v_vl_isThere : Int32) (v_vl_total : Int32) (s0i : Int32) : fn_VL_has a1 v_vl_isThere v_vl_total (0, s0i) = fn_VL_has_b0 a1 v_vl_isThere v_vl_total s0i := by simp [fn_VL_has]
theorem fn_VL_has_q23 (a1 : Int32) (v_vl_isThere : Int32) (v_vl_total : Int32) (s0i : Int32) : fn_VL_has a1 v_vl_isThere v_vl_total (23, s0i) = fn_VL_has_b23 a1 v_vl_isThere v_vl_total s0i := by simp [fn_VL_has]
theorem fn_VL_has_q24 (a1 : Int32) (v_vl_isThere : Int32) (v_vl_total : Int32) (s0i : Int32) : fn_VL_has a1 v_vl_isThere v_vl_total (24, s0i) = fn_VL_has_b24 a1 v_vl_isThere v_vl_total s0i := by simp [fn_VL_has]
set_option maxHeartbeats 4000000 in
set_option maxRecDepth 100000 in
theorem c_VL_has (l : Launch) (dC : Nat → ClassId) (dI : Nat → Nat → Nat) (a_vl : Nat) (f_vl_numbers : Nat) (v_vl_isThere : Int32) (v_vl_columns : Int32) (v_vl_bound : Int32) (v_vl_total : Int32) (v_vl_lesser : Int32) (a1 : Int32) (sz : Nat) (out : Int32) (hs : sm_tot (fn_VL_has a1 v_vl_isThere v_vl_total) (0, 0) = some out) : Met l y_VL_has (Cond.code y_VL_has b_VL_has 2 (Option.some Jvm.ClassFile.FieldType.boolean) :: wd) { frames := 0, cells := 0, slots := 0, locals := 0 } (va_Pc [.ref a_vl, .int a1] (fun U => U.heap.size = sz ∧ va_P (dC, dI) cls [(a_vl, .inr (7, [.ref f_vl_numbers, .int v_vl_isThere, .int v_vl_columns, .int v_vl_bound, .int v_vl_total, .int v_vl_lesser]))] U.heap ∧ va_K (dC, dI) cls [] U ∧ va_D (fun _ => True) [(a_vl, .inr (7, [.ref f_vl_numbers, .int v_vl_isThere, .int v_vl_columns, .int v_vl_bound, .int v_vl_total, .int v_vl_lesser]))] ∧ nw_ok U)) (va_Qi (fun r (_ : Unit) => r = out) (fun (_ : Unit) t => va_P (dC, dI) cls [(a_vl, .inr (7, [.ref f_vl_numbers, .int v_vl_isThere, .int v_vl_columns, .int v_vl_bound, .int v_vl_total, .int v_vl_lesser]))] t.heap ∧ va_K (dC, dI) cls [] t ∧ va_D (va_A [(a_vl, .inr (7, [.ref f_vl_numbers, .int v_vl_isThere, .int v_vl_columns, .int v_vl_bound, .int v_vl_total, .int v_vl_lesser]))] sz) [(a_vl, .inr (7, [.ref f_vl_numbers, .int v_vl_isThere, .int v_vl_columns, .int v_vl_bound, .int v_vl_total, .int v_vl_lesser]))]) (va_A [(a_vl, .inr (7, [.ref f_vl_numbers, .int v_vl_isThere, .int v_vl_columns, .int v_vl_bound, .int v_vl_total, .int v_vl_lesser]))] sz)) 0 0 (va_A [(a_vl, .inr (7, [.ref f_vl_numbers, .int v_vl_isThere, .int v_vl_columns, .int v_vl_bound, .int v_vl_total, .int v_vl_lesser]))] sz) := by
  refine Met.ofW (cc := b_VL_has) (maxL := 2) (ret := (Option.some Jvm.ClassFile.FieldType.boolean)) (by decide) rfl ?_
  intro p e s m args below meth c s₁ B hml hv
  obtain ⟨rfl, hsz, hP, hK, hD0, hN⟩ := hv
  have hx := B.exec
  have hb := B.bytes
  have hr := B.returns
  have hlocks := B.notSynchronized
  have hts : ∀ w ∈ wd, w.before ([.ref a_vl, .int a1] : List Value).toArray s = true := fun w hw => atoms_spec (ws := (Cond.code y_VL_has b_VL_has 2 (Option.some Jvm.ClassFile.FieldType.boolean) :: wd)) B.pre w (List.mem_cons_of_mem _ hw)
  have hown : s.vm.findClass "LeastSolutions$VectorList" = some m.cls := findClass_of_methodNamed B.named
  subst hsz
  have hD := hD0.self (sz := s.heap.size)
  generalize hAe : va_A [(a_vl, .inr (7, [.ref f_vl_numbers, .int v_vl_isThere, .int v_vl_columns, .int v_vl_bound, .int v_vl_total, .int v_vl_lesser]))] s.heap.size = A at hD ⊢
  have hA : ∀ q : Nat, s.heap.size ≤ q → A q := fun q h => by rw [← hAe]; exact Or.inr h
  have hS : va_S A s.heap s.heap [] := va_S.rf
  have hl := lv_entry ([.ref a_vl, .int a1]) (n := 2) (Nat.le_of_ble_eq_true rfl)
  rw [lg_entry_eq]
  generalize (lg_sl ([.ref a_vl, .int a1]) ++ List.replicate (2 - (lg_sl ([.ref a_vl, .int a1])).length) Slot.unset).toArray = ls at hl ⊢
  have hl : lv_has ls 2 [(0, .ref a_vl), (1, .int a1)] := hl
  obtain ⟨k8, hs⟩ := sm_of hs
  refine sm_key (fun R Q k9 => (∀ (H : Heap) (locs : List Loc) (ls : Array Slot) (s0i : Int32), sm_it (fn_VL_has a1 v_vl_isThere v_vl_total) k9 (23, s0i) = some out → va_P (dC, dI) cls [(a_vl, .inr (7, [.ref f_vl_numbers, .int v_vl_isThere, .int v_vl_columns, .int v_vl_bound, .int v_vl_total, .int v_vl_lesser]))] H → va_D A [(a_vl, .inr (7, [.ref f_vl_numbers, .int v_vl_isThere, .int v_vl_columns, .int v_vl_bound, .int v_vl_total, .int v_vl_lesser]))] → va_S A s.heap H locs → lv_has ls 2 [] → W p l e R s m ([.ref a_vl, .int a1] : List Value).toArray below meth c H locs 0 0 Q (F0 m 23 ls [])) ∧ (∀ (H : Heap) (locs : List Loc) (ls : Array Slot) (s0i : Int32), sm_it (fn_VL_has a1 v_vl_isThere v_vl_total) k9 (24, s0i) = some out → va_P (dC, dI) cls [(a_vl, .inr (7, [.ref f_vl_numbers, .int v_vl_isThere, .int v_vl_columns, .int v_vl_bound, .int v_vl_total, .int v_vl_lesser]))] H → va_D A [(a_vl, .inr (7, [.ref f_vl_numbers, .int v_vl_isThere, .int v_vl_columns, .int v_vl_bound, .int v_vl_total, .int v_vl_lesser]))] → va_S A s.heap H locs → lv_has ls 2 [] → W p l e R s m ([.ref a_vl, .int a1] : List Value).toArray below meth c H locs 0 0 Q (F0 m 24 ls [.int s0i]))) ?_ ?_ ?_
  · exact ⟨(fun _ _ _ _ hs => by cases hs), (fun _ _ _ _ hs => by cases hs)⟩
  · intro k9 ih
    refine ⟨?_, ?_⟩
    · intro H locs ls s0i hs hP hD hS hl
      rw [sm_it_succ, fn_VL_has_q23] at hs
      unfold fn_VL_has_b23 at hs
      refine lv_iconst (v := 0) hx hb d_VL_has_23 (by decide) ?_
      exact ih.2 _ _ _ _ hs hP hD hS (lv_sub hl [] rfl)
    · intro H locs ls s0i hs hP hD hS hl
      rw [sm_it_succ, fn_VL_has_q24] at hs
      unfold fn_VL_has_b24 at hs
      obtain ⟨hg1, hs⟩ := sm_gd hs
      have he := sm_end hs
      subst he
      exact W.zret (v := s0i) (ty := .boolean) hx hb hr (by rcases hg1 with h9 | h9 <;> rw [h9] <;> rfl) (fun t ht hW => ⟨⟨s0i, (), rfl, rfl, by rw [ht]; exact hP, va_K.moved hW.alike hK, hD⟩, hS.F ht⟩) hS.2.2 d_VL_has_24
  · intro key
    cases k8 with
    | zero => cases hs
    | succ k9 =>
      rw [sm_it_succ, fn_VL_has_q0] at hs
      unfold fn_VL_has_b0 at hs
      refine lv_aload_n hx hb d_VL_has_0 rfl (lv_at hl 0 rfl) ?_
      refine va_get (D := (dC, dI)) (ci := 7) (v := .int v_vl_isThere) (C := R_VL) (T := T_VL) (N := 6) hx hb hts in_VL hown hK hP 0 rfl rfl 1 (by decide) (hts _ k_268) (fun _ h9 => h9) rfl d_VL_has_1 ?_
      refine lv_if_eq (tgt := 23) hx hb d_VL_has_4 (by decide) (fun hc1 => ?_) (fun hc1 => ?_)
      · have hs := sm_pos hc1 hs
        exact (key k9).1 _ _ _ _ hs hP hD hS (lv_sub hl [] rfl)
      · have hs := sm_neg hc1 hs
        refine lv_iload_n hx hb d_VL_has_7 rfl (lv_at hl 1 rfl) ?_
        refine lv_if_lt (tgt := 23) hx hb d_VL_has_8 (by decide) (fun hc2 => ?_) (fun hc2 => ?_)
        · have hs := sm_pos hc2 hs
          exact (key k9).1 _ _ _ _ hs hP hD hS (lv_sub hl [] rfl)
        · have hs := sm_neg hc2 hs
          refine lv_iload_n hx hb d_VL_has_11 rfl (lv_at hl 1 rfl) ?_
          refine lv_aload_n hx hb d_VL_has_12 rfl (lv_at hl 0 rfl) ?_
          refine va_get (D := (dC, dI)) (ci := 7) (v := .int v_vl_total) (C := R_VL) (T := T_VL) (N := 6) hx hb hts in_VL hown hK hP 0 rfl rfl 4 (by decide) (hts _ k_273) (fun _ h9 => h9) rfl d_VL_has_13 ?_
          refine lv_icmp_ge (tgt := 23) hx hb d_VL_has_16 (by decide) (fun hc3 => ?_) (fun hc3 => ?_)
          · have hs := sm_pos hc3 hs
            exact (key k9).1 _ _ _ _ hs hP hD hS (lv_sub hl [] rfl)
          · have hs := sm_neg hc3 hs
            refine lv_iconst (v := 1) hx hb d_VL_has_19 (by decide) ?_
            refine lv_goto (tgt := 24) hx hb d_VL_has_20 (by decide) ?_
            exact (key k9).2 _ _ _ _ hs hP hD hS (lv_sub hl [] rfl)

noncomputable def fn_VL_numberOf_b0 (a1 : Int32) (a2 : Int32) (c_vl_numbers : Nat → Int32)  : Option ((Nat) ⊕ (Int32)) := if ¬ ((((a1 * 6) + a2) : Int32) < 0 ∨ 12000 ≤ (((a1 * 6) + a2) : Int32).toNatClampNeg) then some (.inr (c_vl_numbers (((a1 * 6) + a2) : Int32).toNatClampNeg)) else none
noncomputable def fn_VL_numberOf (a1 : Int32) (a2 : Int32) (c_vl_numbers : Nat → Int32) : Nat → Option ((Nat) ⊕ (Int32)) := fun st => match st with
  | pc => if pc = 0 then fn_VL_numberOf_b0 a1 a2 c_vl_numbers else none
theorem fn_VL_numberOf_q0 (a1 : Int32) (a2 : Int32) (c_vl_numbers : Nat → Int32)  : fn_VL_numberOf a1 a2 c_vl_numbers (0) = fn_VL_numberOf_b0 a1 a2 c_vl_numbers := by simp [fn_VL_numberOf]
set_option maxHeartbeats 4000000 in
set_option maxRecDepth 100000 in
theorem c_VL_numberOf (l : Launch) (dC : Nat → ClassId) (dI : Nat → Nat → Nat) (a_vl : Nat) (f_vl_numbers : Nat) (v_vl_isThere : Int32) (v_vl_columns : Int32) (v_vl_bound : Int32) (v_vl_total : Int32) (v_vl_lesser : Int32) (k_vl_numbers : ClassId) (c_vl_numbers : Nat → Int32) (a1 : Int32) (a2 : Int32) (sz : Nat) (out : Int32) (hs : sm_tot (fn_VL_numberOf a1 a2 c_vl_numbers) 0 = some out) : Met l y_VL_numberOf (Cond.code y_VL_numberOf b_VL_numberOf 3 (Option.some Jvm.ClassFile.FieldType.int) :: wd) { frames := 0, cells := 0, slots := 0, locals := 0 } (va_Pc [.ref a_vl, .int a1, .int a2] (fun U => U.heap.size = sz ∧ va_P (dC, dI) cls [(a_vl, .inr (7, [.ref f_vl_numbers, .int v_vl_isThere, .int v_vl_columns, .int v_vl_bound, .int v_vl_total, .int v_vl_lesser])), (f_vl_numbers, .inl (k_vl_numbers, 12000, .inl c_vl_numbers))] U.heap ∧ va_K (dC, dI) cls [(k_vl_numbers, .byte)] U ∧ va_D (fun _ => True) [(a_vl, .inr (7, [.ref f_vl_numbers, .int v_vl_isThere, .int v_vl_columns, .int v_vl_bound, .int v_vl_total, .int v_vl_lesser])), (f_vl_numbers, .inl (k_vl_numbers, 12000, .inl c_vl_numbers))] ∧ nw_ok U)) (va_Qi (fun r (_ : Unit) => r = out) (fun (_ : Unit) t => va_P (dC, dI) cls [(a_vl, .inr (7, [.ref f_vl_numbers, .int v_vl_isThere, .int v_vl_columns, .int v_vl_bound, .int v_vl_total, .int v_vl_lesser])), (f_vl_numbers, .inl (k_vl_numbers, 12000, .inl c_vl_numbers))] t.heap ∧ va_K (dC, dI) cls [(k_vl_numbers, .byte)] t ∧ va_D (va_A [(a_vl, .inr (7, [.ref f_vl_numbers, .int v_vl_isThere, .int v_vl_columns, .int v_vl_bound, .int v_vl_total, .int v_vl_lesser])), (f_vl_numbers, .inl (k_vl_numbers, 12000, .inl c_vl_numbers))] sz) [(a_vl, .inr (7, [.ref f_vl_numbers, .int v_vl_isThere, .int v_vl_columns, .int v_vl_bound, .int v_vl_total, .int v_vl_lesser])), (f_vl_numbers, .inl (k_vl_numbers, 12000, .inl c_vl_numbers))]) (va_A [(a_vl, .inr (7, [.ref f_vl_numbers, .int v_vl_isThere, .int v_vl_columns, .int v_vl_bound, .int v_vl_total, .int v_vl_lesser])), (f_vl_numbers, .inl (k_vl_numbers, 12000, .inl c_vl_numbers))] sz)) 0 0 (va_A [(a_vl, .inr (7, [.ref f_vl_numbers, .int v_vl_isThere, .int v_vl_columns, .int v_vl_bound, .int v_vl_total, .int v_vl_lesser])), (f_vl_numbers, .inl (k_vl_numbers, 12000, .inl c_vl_numbers))] sz) := by
  refine Met.ofW (cc := b_VL_numberOf) (maxL := 3) (ret := (Option.some Jvm.ClassFile.FieldType.int)) (by decide) rfl ?_
  intro p e s m args below meth c s₁ B hml hv
  obtain ⟨rfl, hsz, hP, hK, hD0, hN⟩ := hv
  have hx := B.exec
  have hb := B.bytes
  have hr := B.returns
  have hlocks := B.notSynchronized
  have hts : ∀ w ∈ wd, w.before ([.ref a_vl, .int a1, .int a2] : List Value).toArray s = true := fun w hw => atoms_spec (ws := (Cond.code y_VL_numberOf b_VL_numberOf 3 (Option.some Jvm.ClassFile.FieldType.int) :: wd)) B.pre w (List.mem_cons_of_mem _ hw)
  have hown : s.vm.findClass "LeastSolutions$VectorList" = some m.cls := findClass_of_methodNamed B.named
  subst hsz
  have hD := hD0.self (sz := s.heap.size)
  generalize hAe : va_A [(a_vl, .inr (7, [.ref f_vl_numbers, .int v_vl_isThere, .int v_vl_columns, .int v_vl_bound, .int v_vl_total, .int v_vl_lesser])), (f_vl_numbers, .inl (k_vl_numbers, 12000, .inl c_vl_numbers))] s.heap.size = A at hD ⊢
  have hA : ∀ q : Nat, s.heap.size ≤ q → A q := fun q h => by rw [← hAe]; exact Or.inr h
  have hS : va_S A s.heap s.heap [] := va_S.rf
  have hl := lv_entry ([.ref a_vl, .int a1, .int a2]) (n := 3) (Nat.le_of_ble_eq_true rfl)
  rw [lg_entry_eq]
  generalize (lg_sl ([.ref a_vl, .int a1, .int a2]) ++ List.replicate (3 - (lg_sl ([.ref a_vl, .int a1, .int a2])).length) Slot.unset).toArray = ls at hl ⊢
  have hl : lv_has ls 3 [(0, .ref a_vl), (1, .int a1), (2, .int a2)] := hl
  obtain ⟨k8, hs⟩ := sm_of hs
  cases k8 with
  | zero => cases hs
  | succ k9 =>
    rw [sm_it_succ, fn_VL_numberOf_q0] at hs
    unfold fn_VL_numberOf_b0 at hs
    refine lv_aload_n hx hb d_VL_numberOf_0 rfl (lv_at hl 0 rfl) ?_
    refine va_get (D := (dC, dI)) (ci := 7) (v := .ref f_vl_numbers) (C := R_VL) (T := T_VL) (N := 6) hx hb hts in_VL hown hK hP 0 rfl rfl 0 (by decide) (hts _ k_267) (fun _ h9 => h9) rfl d_VL_numberOf_1 ?_
    refine lv_iload_n hx hb d_VL_numberOf_4 rfl (lv_at hl 1 rfl) ?_
    refine lv_bipush (v := 6) hx hb d_VL_numberOf_5 (by decide) ?_
    refine lv_imul hx hb d_VL_numberOf_7 ?_
    refine lv_iload_n hx hb d_VL_numberOf_8 rfl (lv_at hl 2 rfl) ?_
    refine lv_iadd hx hb d_VL_numberOf_9 ?_
    obtain ⟨hg1, hs⟩ := sm_gd hs
    refine va_bald hx hb hK hP 1 0 rfl rfl hg1 d_VL_numberOf_10 ?_
    have he := sm_end hs
    subst he
    exact W.iret (v := (c_vl_numbers (((a1 * 6) + a2) : Int32).toNatClampNeg)) hx hb hr (fun t ht hW => ⟨⟨(c_vl_numbers (((a1 * 6) + a2) : Int32).toNatClampNeg), (), rfl, rfl, by rw [ht]; exact hP, va_K.moved hW.alike hK, hD⟩, hS.F ht⟩) hS.2.2 d_VL_numberOf_11

noncomputable def fn_VL_beginSize_b0 (v_vl_total : Int32) (v_vl_lesser : Int32) : Option ((Nat × Int32) ⊕ (Int32)) := some (.inr v_vl_total)
noncomputable def fn_VL_beginSize (v_vl_total : Int32) : Nat × Int32 → Option ((Nat × Int32) ⊕ (Int32)) := fun st => match st with
  | (pc, w_vl_lesser) => if pc = 0 then fn_VL_beginSize_b0 v_vl_total w_vl_lesser else none
theorem fn_VL_beginSize_q0 (v_vl_total : Int32) (w_vl_lesser : Int32) : fn_VL_beginSize v_vl_total (0, w_vl_lesser) = fn_VL_beginSize_b0 v_vl_total w_vl_lesser := by simp [fn_VL_beginSize]
set_option maxHeartbeats 4000000 in
set_option maxRecDepth 100000 in
theorem c_VL_beginSize (l : Launch) (dC : Nat → ClassId) (dI : Nat → Nat → Nat) (a_vl : Nat) (f_vl_numbers : Nat) (v_vl_isThere : Int32) (v_vl_columns : Int32) (v_vl_bound : Int32) (v_vl_total : Int32) (v_vl_lesser : Int32) (sz : Nat) (out : Int32) (hs : sm_tot (fn_VL_beginSize v_vl_total) (0, v_vl_lesser) = some out) : Met l y_VL_beginSize (Cond.code y_VL_beginSize b_VL_beginSize 1 (Option.none : Option Jvm.ClassFile.FieldType) :: wd) { frames := 0, cells := 0, slots := 0, locals := 0 } (va_Pc [.ref a_vl] (fun U => U.heap.size = sz ∧ va_P (dC, dI) cls [(a_vl, .inr (7, [.ref f_vl_numbers, .int v_vl_isThere, .int v_vl_columns, .int v_vl_bound, .int v_vl_total, .int v_vl_lesser]))] U.heap ∧ va_K (dC, dI) cls [] U ∧ va_D (fun _ => True) [(a_vl, .inr (7, [.ref f_vl_numbers, .int v_vl_isThere, .int v_vl_columns, .int v_vl_bound, .int v_vl_total, .int v_vl_lesser]))] ∧ nw_ok U)) (va_Qv (fun _ : Unit => True) (fun (_ : Unit) t => va_P (dC, dI) cls [(a_vl, .inr (7, [.ref f_vl_numbers, .int v_vl_isThere, .int v_vl_columns, .int v_vl_bound, .int v_vl_total, .int out]))] t.heap ∧ va_K (dC, dI) cls [] t ∧ va_D (va_A [(a_vl, .inr (7, [.ref f_vl_numbers, .int v_vl_isThere, .int v_vl_columns, .int v_vl_bound, .int v_vl_total, .int v_vl_lesser]))] sz) [(a_vl, .inr (7, [.ref f_vl_numbers, .int v_vl_isThere, .int v_vl_columns, .int v_vl_bound, .int v_vl_total, .int out]))]) (va_A [(a_vl, .inr (7, [.ref f_vl_numbers, .int v_vl_isThere, .int v_vl_columns, .int v_vl_bound, .int v_vl_total, .int v_vl_lesser]))] sz)) 0 0 (va_A [(a_vl, .inr (7, [.ref f_vl_numbers, .int v_vl_isThere, .int v_vl_columns, .int v_vl_bound, .int v_vl_total, .int v_vl_lesser]))] sz) := by
  refine Met.ofW (cc := b_VL_beginSize) (maxL := 1) (ret := (Option.none : Option Jvm.ClassFile.FieldType)) (by decide) rfl ?_
  intro p e s m args below meth c s₁ B hml hv
  obtain ⟨rfl, hsz, hP, hK, hD0, hN⟩ := hv
  have hx := B.exec
  have hb := B.bytes
  have hr := B.returns
  have hlocks := B.notSynchronized
  have hts : ∀ w ∈ wd, w.before ([.ref a_vl] : List Value).toArray s = true := fun w hw => atoms_spec (ws := (Cond.code y_VL_beginSize b_VL_beginSize 1 (Option.none : Option Jvm.ClassFile.FieldType) :: wd)) B.pre w (List.mem_cons_of_mem _ hw)
  have hown : s.vm.findClass "LeastSolutions$VectorList" = some m.cls := findClass_of_methodNamed B.named
  subst hsz
  have hD := hD0.self (sz := s.heap.size)
  generalize hAe : va_A [(a_vl, .inr (7, [.ref f_vl_numbers, .int v_vl_isThere, .int v_vl_columns, .int v_vl_bound, .int v_vl_total, .int v_vl_lesser]))] s.heap.size = A at hD ⊢
  have hA : ∀ q : Nat, s.heap.size ≤ q → A q := fun q h => by rw [← hAe]; exact Or.inr h
  have hS : va_S A s.heap s.heap [] := va_S.rf
  have hl := lv_entry ([.ref a_vl]) (n := 1) (Nat.le_of_ble_eq_true rfl)
  rw [lg_entry_eq]
  generalize (lg_sl ([.ref a_vl]) ++ List.replicate (1 - (lg_sl ([.ref a_vl])).length) Slot.unset).toArray = ls at hl ⊢
  have hl : lv_has ls 1 [(0, .ref a_vl)] := hl
  obtain ⟨k8, hs⟩ := sm_of hs
  cases k8 with
  | zero => cases hs
  | succ k9 =>
    rw [sm_it_succ, fn_VL_beginSize_q0] at hs
    unfold fn_VL_beginSize_b0 at hs
    refine lv_aload_n hx hb d_VL_beginSize_0 rfl (lv_at hl 0 rfl) ?_
    refine lv_aload_n hx hb d_VL_beginSize_1 rfl (lv_at hl 0 rfl) ?_
    refine va_get (D := (dC, dI)) (ci := 7) (v := .int v_vl_total) (C := R_VL) (T := T_VL) (N := 6) hx hb hts in_VL hown hK hP 0 rfl rfl 4 (by decide) (hts _ k_273) (fun _ h9 => h9) rfl d_VL_beginSize_2 ?_
    refine va_put (D := (dC, dI)) (ci := 7) (v := .int v_vl_total) (ty := .int) (C := R_VL) (T := T_VL) (N := 6) hx hb hts in_VL t_VL t_VL_ok n_VL hown hK hP hD hS 0 rfl rfl 5 (by decide) (hts _ k_275) (fun _ h9 => h9) rfl (by decide +kernel) rfl rfl (Nat.le_of_ble_eq_true rfl) d_VL_beginSize_5 (fun H1 locs hP hD hS => ?_)
    have hP : va_P (dC, dI) cls [(a_vl, .inr (7, [.ref f_vl_numbers, .int v_vl_isThere, .int v_vl_columns, .int v_vl_bound, .int v_vl_total, .int v_vl_total]))] H1 := hP
    have hD : va_D A [(a_vl, .inr (7, [.ref f_vl_numbers, .int v_vl_isThere, .int v_vl_columns, .int v_vl_bound, .int v_vl_total, .int v_vl_total]))] := hD
    have he := sm_end hs
    subst he
    exact W.vret hx hb hr (fun t ht hW => ⟨⟨(), rfl, trivial, by rw [ht]; exact hP, va_K.moved hW.alike hK, hD⟩, hS.F ht⟩) hS.2.2 d_VL_beginSize_8

noncomputable def fn_VL_isWithin_b0 (a1 : Int32) (v_vl_columns : Int32) (c_vl_numbers : Nat → Int32) (c_o2 : Nat → Int32) (_z0 : Int32) (_z1 : Int32) : Option ((Nat × Int32 × Int32) ⊕ (Int32)) := some (.inl (8, (a1 * 6), 0))
noncomputable def fn_VL_isWithin_b8 (a1 : Int32) (v_vl_columns : Int32) (c_vl_numbers : Nat → Int32) (c_o2 : Nat → Int32) (x3i : Int32) (x4i : Int32) : Option ((Nat × Int32 × Int32) ⊕ (Int32)) := if (v_vl_columns : Int32) ≤ x4i then (some (.inr 1)) else (if ¬ (((x3i + x4i) : Int32) < 0 ∨ 12000 ≤ ((x3i + x4i) : Int32).toNatClampNeg) then if ¬ ((x4i : Int32) < 0 ∨ 6 ≤ (x4i : Int32).toNatClampNeg) then if ((c_o2 (x4i : Int32).toNatClampNeg) : Int32) < 0 then (if (0 : Int32) < (c_vl_numbers ((x3i + x4i) : Int32).toNatClampNeg) then (some (.inl (66, 0, 0))) else (if ((c_o2 (x4i : Int32).toNatClampNeg) : Int32) ≤ (c_vl_numbers ((x3i + x4i) : Int32).toNatClampNeg) then (some (.inl (68, x3i, x4i))) else (some (.inl (66, 0, 0))))) else (if ((c_vl_numbers ((x3i + x4i) : Int32).toNatClampNeg) : Int32) < 0 then (some (.inl (66, 0, 0))) else (if ((c_vl_numbers ((x3i + x4i) : Int32).toNatClampNeg) : Int32) ≤ (c_o2 (x4i : Int32).toNatClampNeg) then (some (.inl (68, x3i, x4i))) else (some (.inl (66, 0, 0))))) else none else none)
noncomputable def fn_VL_isWithin_b66 (a1 : Int32) (v_vl_columns : Int32) (c_vl_numbers : Nat → Int32) (c_o2 : Nat → Int32) (x3i : Int32) (x4i : Int32) : Option ((Nat × Int32 × Int32) ⊕ (Int32)) := some (.inr 0)
noncomputable def fn_VL_isWithin_b68 (a1 : Int32) (v_vl_columns : Int32) (c_vl_numbers : Nat → Int32) (c_o2 : Nat → Int32) (x3i : Int32) (x4i : Int32) : Option ((Nat × Int32 × Int32) ⊕ (Int32)) := some (.inl (8, x3i, (x4i + 1)))
noncomputable def fn_VL_isWithin (a1 : Int32) (v_vl_columns : Int32) (c_vl_numbers : Nat → Int32) (c_o2 : Nat → Int32) : Nat × Int32 × Int32 → Option ((Nat × Int32 × Int32) ⊕ (Int32)) := fun st => match st with
  | (pc, x3i, x4i) => if pc = 0 then fn_VL_isWithin_b0 a1 v_vl_columns c_vl_numbers c_o2 x3i x4i else if pc = 8 then fn_VL_isWithin_b8 a1 v_vl_columns c_vl_numbers c_o2 x3i x4i else if pc = 66 then fn_VL_isWithin_b66 a1 v_vl_columns c_vl_numbers c_o2 x3i x4i else if pc = 68 then fn_VL_isWithin_b68 a1 v_vl_columns c_vl_numbers c_o2 x3i x4i else none
theorem fn_VL_isWithin_q0 (a1 : Int32) (v_vl_columns : Int32) (c_vl_numbers : Nat → Int32) (c_o2 : Nat → Int32) (x3i : Int32) (x4i : Int32) : fn_VL_isWithin a1 v_vl_columns c_vl_numbers c_o2 (0, x3i, x4i) = fn_VL_isWithin_b0 a1 v_vl_columns c_vl_numbers c_o2 x3i x4i := by simp [fn_VL_isWithin]
theorem fn_VL_isWithin_q8 (a1 : Int32) (v_vl_columns : Int32) (c_vl_numbers : Nat → Int32) (c_o2 : Nat → Int32) (x3i : Int32) (x4i : Int32) : fn_VL_isWithin a1 v_vl_columns c_vl_numbers c_o2 (8, x3i, x4i) = fn_VL_isWithin_b8 a1 v_vl_columns c_vl_numbers c_o2 x3i x4i := by simp [fn_VL_isWithin]
theorem fn_VL_isWithin_q66 (a1 : Int32) (v_vl_columns : Int32) (c_vl_numbers : Nat → Int32) (c_o2 : Nat → Int32) (x3i : Int32) (x4i : Int32) : fn_VL_isWithin a1 v_vl_columns c_vl_numbers c_o2 (66, x3i, x4i) = fn_VL_isWithin_b66 a1 v_vl_columns c_vl_numbers c_o2 x3i x4i := by simp [fn_VL_isWithin]
theorem fn_VL_isWithin_q68 (a1 : Int32) (v_vl_columns : Int32) (c_vl_numbers : Nat → Int32) (c_o2 : Nat → Int32) (x3i : Int32) (x4i : Int32) : fn_VL_isWithin a1 v_vl_columns c_vl_numbers c_o2 (68, x3i, x4i) = fn_VL_isWithin_b68 a1 v_vl_columns c_vl_numbers c_o2 x3i x4i := by simp [fn_VL_isWithin]
set_option maxHeartbeats 4000000 in
set_option maxRecDepth 100000 in
theorem c_VL_isWithin (l : Launch) (dC : Nat → ClassId) (dI : Nat → Nat → Nat) (a_vl : Nat) (f_vl_numbers : Nat) (v_vl_isThere : Int32) (v_vl_columns : Int32) (v_vl_bound : Int32) (v_vl_total : Int32) (v_vl_lesser : Int32) (k_vl_numbers : ClassId) (c_vl_numbers : Nat → Int32) (f_o2 : Nat) (k_o2 : ClassId) (c_o2 : Nat → Int32) (a1 : Int32) (sz : Nat) (out : Int32) (hs : sm_tot (fn_VL_isWithin a1 v_vl_columns c_vl_numbers c_o2) (0, 0, 0) = some out) : Met l y_VL_isWithin (Cond.code y_VL_isWithin b_VL_isWithin 7 (Option.some Jvm.ClassFile.FieldType.boolean) :: wd) { frames := 0, cells := 0, slots := 0, locals := 0 } (va_Pc [.ref a_vl, .int a1, .ref f_o2] (fun U => U.heap.size = sz ∧ va_P (dC, dI) cls [(a_vl, .inr (7, [.ref f_vl_numbers, .int v_vl_isThere, .int v_vl_columns, .int v_vl_bound, .int v_vl_total, .int v_vl_lesser])), (f_vl_numbers, .inl (k_vl_numbers, 12000, .inl c_vl_numbers)), (f_o2, .inl (k_o2, 6, .inl c_o2))] U.heap ∧ va_K (dC, dI) cls [(k_vl_numbers, .byte), (k_o2, .int)] U ∧ va_D (fun _ => True) [(a_vl, .inr (7, [.ref f_vl_numbers, .int v_vl_isThere, .int v_vl_columns, .int v_vl_bound, .int v_vl_total, .int v_vl_lesser])), (f_vl_numbers, .inl (k_vl_numbers, 12000, .inl c_vl_numbers)), (f_o2, .inl (k_o2, 6, .inl c_o2))] ∧ nw_ok U)) (va_Qi (fun r (_ : Unit) => r = out) (fun (_ : Unit) t => va_P (dC, dI) cls [(a_vl, .inr (7, [.ref f_vl_numbers, .int v_vl_isThere, .int v_vl_columns, .int v_vl_bound, .int v_vl_total, .int v_vl_lesser])), (f_vl_numbers, .inl (k_vl_numbers, 12000, .inl c_vl_numbers)), (f_o2, .inl (k_o2, 6, .inl c_o2))] t.heap ∧ va_K (dC, dI) cls [(k_vl_numbers, .byte), (k_o2, .int)] t ∧ va_D (va_A [(a_vl, .inr (7, [.ref f_vl_numbers, .int v_vl_isThere, .int v_vl_columns, .int v_vl_bound, .int v_vl_total, .int v_vl_lesser])), (f_vl_numbers, .inl (k_vl_numbers, 12000, .inl c_vl_numbers)), (f_o2, .inl (k_o2, 6, .inl c_o2))] sz) [(a_vl, .inr (7, [.ref f_vl_numbers, .int v_vl_isThere, .int v_vl_columns, .int v_vl_bound, .int v_vl_total, .int v_vl_lesser])), (f_vl_numbers, .inl (k_vl_numbers, 12000, .inl c_vl_numbers)), (f_o2, .inl (k_o2, 6, .inl c_o2))]) (va_A [(a_vl, .inr (7, [.ref f_vl_numbers, .int v_vl_isThere, .int v_vl_columns, .int v_vl_bound, .int v_vl_total, .int v_vl_lesser])), (f_vl_numbers, .inl (k_vl_numbers, 12000, .inl c_vl_numbers)), (f_o2, .inl (k_o2, 6, .inl c_o2))] sz)) 0 0 (va_A [(a_vl, .inr (7, [.ref f_vl_numbers, .int v_vl_isThere, .int v_vl_columns, .int v_vl_bound, .int v_vl_total, .int v_vl_lesser])), (f_vl_numbers, .inl (k_vl_numbers, 12000, .inl c_vl_numbers)), (f_o2, .inl (k_o2, 6, .inl c_o2))] sz) := by
  refine Met.ofW (cc := b_VL_isWithin) (maxL := 7) (ret := (Option.some Jvm.ClassFile.FieldType.boolean)) (by decide) rfl ?_
  intro p e s m args below meth c s₁ B hml hv
  obtain ⟨rfl, hsz, hP, hK, hD0, hN⟩ := hv
  have hx := B.exec
  have hb := B.bytes
  have hr := B.returns
  have hlocks := B.notSynchronized
  have hts : ∀ w ∈ wd, w.before ([.ref a_vl, .int a1, .ref f_o2] : List Value).toArray s = true := fun w hw => atoms_spec (ws := (Cond.code y_VL_isWithin b_VL_isWithin 7 (Option.some Jvm.ClassFile.FieldType.boolean) :: wd)) B.pre w (List.mem_cons_of_mem _ hw)
  have hown : s.vm.findClass "LeastSolutions$VectorList" = some m.cls := findClass_of_methodNamed B.named
  subst hsz
  have hD := hD0.self (sz := s.heap.size)
  generalize hAe : va_A [(a_vl, .inr (7, [.ref f_vl_numbers, .int v_vl_isThere, .int v_vl_columns, .int v_vl_bound, .int v_vl_total, .int v_vl_lesser])), (f_vl_numbers, .inl (k_vl_numbers, 12000, .inl c_vl_numbers)), (f_o2, .inl (k_o2, 6, .inl c_o2))] s.heap.size = A at hD ⊢
  have hA : ∀ q : Nat, s.heap.size ≤ q → A q := fun q h => by rw [← hAe]; exact Or.inr h
  have hS : va_S A s.heap s.heap [] := va_S.rf
  have hl := lv_entry ([.ref a_vl, .int a1, .ref f_o2]) (n := 7) (Nat.le_of_ble_eq_true rfl)
  rw [lg_entry_eq]
  generalize (lg_sl ([.ref a_vl, .int a1, .ref f_o2]) ++ List.replicate (7 - (lg_sl ([.ref a_vl, .int a1, .ref f_o2])).length) Slot.unset).toArray = ls at hl ⊢
  have hl : lv_has ls 7 [(0, .ref a_vl), (1, .int a1), (2, .ref f_o2)] := hl
  obtain ⟨k8, hs⟩ := sm_of hs
  refine sm_key (fun R Q k9 => (∀ (H : Heap) (locs : List Loc) (ls : Array Slot) (x3i : Int32) (x4i : Int32), sm_it (fn_VL_isWithin a1 v_vl_columns c_vl_numbers c_o2) k9 (8, x3i, x4i) = some out → va_P (dC, dI) cls [(a_vl, .inr (7, [.ref f_vl_numbers, .int v_vl_isThere, .int v_vl_columns, .int v_vl_bound, .int v_vl_total, .int v_vl_lesser])), (f_vl_numbers, .inl (k_vl_numbers, 12000, .inl c_vl_numbers)), (f_o2, .inl (k_o2, 6, .inl c_o2))] H → va_D A [(a_vl, .inr (7, [.ref f_vl_numbers, .int v_vl_isThere, .int v_vl_columns, .int v_vl_bound, .int v_vl_total, .int v_vl_lesser])), (f_vl_numbers, .inl (k_vl_numbers, 12000, .inl c_vl_numbers)), (f_o2, .inl (k_o2, 6, .inl c_o2))] → va_S A s.heap H locs → lv_has ls 7 [(0, .ref a_vl), (2, .ref f_o2), (3, .int x3i), (4, .int x4i)] → W p l e R s m ([.ref a_vl, .int a1, .ref f_o2] : List Value).toArray below meth c H locs 0 0 Q (F0 m 8 ls [])) ∧ (∀ (H : Heap) (locs : List Loc) (ls : Array Slot) (x3i : Int32) (x4i : Int32), sm_it (fn_VL_isWithin a1 v_vl_columns c_vl_numbers c_o2) k9 (66, x3i, x4i) = some out → va_P (dC, dI) cls [(a_vl, .inr (7, [.ref f_vl_numbers, .int v_vl_isThere, .int v_vl_columns, .int v_vl_bound, .int v_vl_total, .int v_vl_lesser])), (f_vl_numbers, .inl (k_vl_numbers, 12000, .inl c_vl_numbers)), (f_o2, .inl (k_o2, 6, .inl c_o2))] H → va_D A [(a_vl, .inr (7, [.ref f_vl_numbers, .int v_vl_isThere, .int v_vl_columns, .int v_vl_bound, .int v_vl_total, .int v_vl_lesser])), (f_vl_numbers, .inl (k_vl_numbers, 12000, .inl c_vl_numbers)), (f_o2, .inl (k_o2, 6, .inl c_o2))] → va_S A s.heap H locs → lv_has ls 7 [] → W p l e R s m ([.ref a_vl, .int a1, .ref f_o2] : List Value).toArray below meth c H locs 0 0 Q (F0 m 66 ls [])) ∧ (∀ (H : Heap) (locs : List Loc) (ls : Array Slot) (x3i : Int32) (x4i : Int32), sm_it (fn_VL_isWithin a1 v_vl_columns c_vl_numbers c_o2) k9 (68, x3i, x4i) = some out → va_P (dC, dI) cls [(a_vl, .inr (7, [.ref f_vl_numbers, .int v_vl_isThere, .int v_vl_columns, .int v_vl_bound, .int v_vl_total, .int v_vl_lesser])), (f_vl_numbers, .inl (k_vl_numbers, 12000, .inl c_vl_numbers)), (f_o2, .inl (k_o2, 6, .inl c_o2))] H → va_D A [(a_vl, .inr (7, [.ref f_vl_numbers, .int v_vl_isThere, .int v_vl_columns, .int v_vl_bound, .int v_vl_total, .int v_vl_lesser])), (f_vl_numbers, .inl (k_vl_numbers, 12000, .inl c_vl_numbers)), (f_o2, .inl (k_o2, 6, .inl c_o2))] → va_S A s.heap H locs → lv_has ls 7 [(0, .ref a_vl), (2, .ref f_o2), (3, .int x3i), (4, .int x4i)] → W p l e R s m ([.ref a_vl, .int a1, .ref f_o2] : List Value).toArray below meth c H locs 0 0 Q (F0 m 68 ls []))) ?_ ?_ ?_
  · exact ⟨(fun _ _ _ _ _ hs => by cases hs), (fun _ _ _ _ _ hs => by cases hs), (fun _ _ _ _ _ hs => by cases hs)⟩
  · intro k9 ih
    refine ⟨?_, ?_, ?_⟩
    · intro H locs ls x3i x4i hs hP hD hS hl
      rw [sm_it_succ, fn_VL_isWithin_q8] at hs
      unfold fn_VL_isWithin_b8 at hs
      refine lv_iload hx hb d_VL_isWithin_8 (lv_at hl 3 rfl) ?_
      refine lv_aload_n hx hb d_VL_isWithin_10 rfl (lv_at hl 0 rfl) ?_
      refine va_get (D := (dC, dI)) (ci := 7) (v := .int v_vl_columns) (C := R_VL) (T := T_VL) (N := 6) hx hb hts in_VL hown hK hP 0 rfl rfl 2 (by decide) (hts _ k_270) (fun _ h9 => h9) rfl d_VL_isWithin_11 ?_
      refine lv_icmp_ge (tgt := 74) hx hb d_VL_isWithin_14 (by decide) (fun hc1 => ?_) (fun hc1 => ?_)
      · have hs := sm_pos hc1 hs
        refine lv_iconst (v := 1) hx hb d_VL_isWithin_74 (by decide) ?_
        have he := sm_end hs
        subst he
        exact W.zret (v := 1) (ty := .boolean) hx hb hr (by decide +kernel) (fun t ht hW => ⟨⟨1, (), rfl, rfl, by rw [ht]; exact hP, va_K.moved hW.alike hK, hD⟩, hS.F ht⟩) hS.2.2 d_VL_isWithin_75
      · have hs := sm_neg hc1 hs
        refine lv_aload_n hx hb d_VL_isWithin_17 rfl (lv_at hl 0 rfl) ?_
        refine va_get (D := (dC, dI)) (ci := 7) (v := .ref f_vl_numbers) (C := R_VL) (T := T_VL) (N := 6) hx hb hts in_VL hown hK hP 0 rfl rfl 0 (by decide) (hts _ k_267) (fun _ h9 => h9) rfl d_VL_isWithin_18 ?_
        refine lv_iload_n hx hb d_VL_isWithin_21 rfl (lv_at hl 2 rfl) ?_
        refine lv_iload hx hb d_VL_isWithin_22 (lv_at hl 3 rfl) ?_
        refine lv_iadd hx hb d_VL_isWithin_24 ?_
        obtain ⟨hg1, hs⟩ := sm_gd hs
        refine va_bald hx hb hK hP 1 0 rfl rfl hg1 d_VL_isWithin_25 ?_
        refine lv_istore hx hb d_VL_isWithin_26 hl (by decide) rfl (fun ls hl => ?_)
        have hl : lv_has ls 7 [(5, .int (c_vl_numbers ((x3i + x4i) : Int32).toNatClampNeg)), (0, .ref a_vl), (2, .ref f_o2), (3, .int x3i), (4, .int x4i)] := hl
        refine lv_aload_n hx hb d_VL_isWithin_28 rfl (lv_at hl 2 rfl) ?_
        refine lv_iload hx hb d_VL_isWithin_29 (lv_at hl 4 rfl) ?_
        obtain ⟨hg2, hs⟩ := sm_gd hs
        refine va_iald hx hb hK hP 2 1 rfl rfl hg2 d_VL_isWithin_31 ?_
        refine lv_istore hx hb d_VL_isWithin_32 hl (by decide) rfl (fun ls hl => ?_)
        have hl : lv_has ls 7 [(6, .int (c_o2 (x4i : Int32).toNatClampNeg)), (5, .int (c_vl_numbers ((x3i + x4i) : Int32).toNatClampNeg)), (0, .ref a_vl), (2, .ref f_o2), (3, .int x3i), (4, .int x4i)] := hl
        refine lv_iload hx hb d_VL_isWithin_34 (lv_at hl 0 rfl) ?_
        refine lv_if_lt (tgt := 54) hx hb d_VL_isWithin_36 (by decide) (fun hc2 => ?_) (fun hc2 => ?_)
        · have hs := sm_pos hc2 hs
          refine lv_iload hx hb d_VL_isWithin_54 (lv_at hl 1 rfl) ?_
          refine lv_if_gt (tgt := 66) hx hb d_VL_isWithin_56 (by decide) (fun hc3 => ?_) (fun hc3 => ?_)
          · have hs := sm_pos hc3 hs
            exact ih.2.1 _ _ _ _ _ hs hP hD hS (lv_sub hl [] rfl)
          · have hs := sm_neg hc3 hs
            refine lv_iload hx hb d_VL_isWithin_59 (lv_at hl 1 rfl) ?_
            refine lv_iload hx hb d_VL_isWithin_61 (lv_at hl 0 rfl) ?_
            refine lv_icmp_ge (tgt := 68) hx hb d_VL_isWithin_63 (by decide) (fun hc4 => ?_) (fun hc4 => ?_)
            · have hs := sm_pos hc4 hs
              exact ih.2.2 _ _ _ _ _ hs hP hD hS (lv_sub hl [2, 3, 4, 5] rfl)
            · have hs := sm_neg hc4 hs
              exact ih.2.1 _ _ _ _ _ hs hP hD hS (lv_sub hl [] rfl)
        · have hs := sm_neg hc2 hs
          refine lv_iload hx hb d_VL_isWithin_39 (lv_at hl 1 rfl) ?_
          refine lv_if_lt (tgt := 66) hx hb d_VL_isWithin_41 (by decide) (fun hc5 => ?_) (fun hc5 => ?_)
          · have hs := sm_pos hc5 hs
            exact ih.2.1 _ _ _ _ _ hs hP hD hS (lv_sub hl [] rfl)
          · have hs := sm_neg hc5 hs
            refine lv_iload hx hb d_VL_isWithin_44 (lv_at hl 1 rfl) ?_
            refine lv_iload hx hb d_VL_isWithin_46 (lv_at hl 0 rfl) ?_
            refine lv_icmp_le (tgt := 68) hx hb d_VL_isWithin_48 (by decide) (fun hc6 => ?_) (fun hc6 => ?_)
            · have hs := sm_pos hc6 hs
              exact ih.2.2 _ _ _ _ _ hs hP hD hS (lv_sub hl [2, 3, 4, 5] rfl)
            · have hs := sm_neg hc6 hs
              refine lv_goto (tgt := 66) hx hb d_VL_isWithin_51 (by decide) ?_
              exact ih.2.1 _ _ _ _ _ hs hP hD hS (lv_sub hl [] rfl)
    · intro H locs ls x3i x4i hs hP hD hS hl
      rw [sm_it_succ, fn_VL_isWithin_q66] at hs
      unfold fn_VL_isWithin_b66 at hs
      refine lv_iconst (v := 0) hx hb d_VL_isWithin_66 (by decide) ?_
      have he := sm_end hs
      subst he
      exact W.zret (v := 0) (ty := .boolean) hx hb hr (by decide +kernel) (fun t ht hW => ⟨⟨0, (), rfl, rfl, by rw [ht]; exact hP, va_K.moved hW.alike hK, hD⟩, hS.F ht⟩) hS.2.2 d_VL_isWithin_67
    · intro H locs ls x3i x4i hs hP hD hS hl
      rw [sm_it_succ, fn_VL_isWithin_q68] at hs
      unfold fn_VL_isWithin_b68 at hs
      refine lv_iinc (k := 3) (v := (x4i + 1)) hx hb d_VL_isWithin_68 hl rfl (congrArg (fun z : Int32 => x4i + z) (by decide : Int32.ofInt 1 = 1)) (by decide) rfl (fun ls hl => ?_)
      have hl : lv_has ls 7 [(4, .int (x4i + 1)), (0, .ref a_vl), (2, .ref f_o2), (3, .int x3i)] := hl
      refine lv_goto (tgt := 8) hx hb d_VL_isWithin_71 (by decide) ?_
      exact ih.1 _ _ _ _ _ hs hP hD hS (lv_sub hl [1, 2, 3, 0] rfl)
  · intro key
    cases k8 with
    | zero => cases hs
    | succ k9 =>
      rw [sm_it_succ, fn_VL_isWithin_q0] at hs
      unfold fn_VL_isWithin_b0 at hs
      refine lv_iload_n hx hb d_VL_isWithin_0 rfl (lv_at hl 1 rfl) ?_
      refine lv_bipush (v := 6) hx hb d_VL_isWithin_1 (by decide) ?_
      refine lv_imul hx hb d_VL_isWithin_3 ?_
      refine lv_istore_n hx hb d_VL_isWithin_4 rfl hl (by decide) rfl (fun ls hl => ?_)
      have hl : lv_has ls 7 [(3, .int (a1 * 6)), (0, .ref a_vl), (1, .int a1), (2, .ref f_o2)] := hl
      refine lv_iconst (v := 0) hx hb d_VL_isWithin_5 (by decide) ?_
      refine lv_istore hx hb d_VL_isWithin_6 hl (by decide) rfl (fun ls hl => ?_)
      have hl : lv_has ls 7 [(4, .int 0), (3, .int (a1 * 6)), (0, .ref a_vl), (1, .int a1), (2, .ref f_o2)] := hl
      exact (key k9).1 _ _ _ _ _ hs hP hD hS (lv_sub hl [2, 4, 1, 0] rfl)

noncomputable def fn_VL_hasOneWithin_b0 (v_vl_columns : Int32) (v_vl_lesser : Int32) (c_vl_numbers : Nat → Int32) (c_o1 : Nat → Int32) (_z0 : Int32) : Option ((Nat × Int32) ⊕ (Int32)) := some (.inl (2, 0))
noncomputable def fn_VL_hasOneWithin_b2 (v_vl_columns : Int32) (v_vl_lesser : Int32) (c_vl_numbers : Nat → Int32) (c_o1 : Nat → Int32) (x2i : Int32) : Option ((Nat × Int32) ⊕ (Int32)) := if (v_vl_lesser : Int32) ≤ x2i then (some (.inr 0)) else ((sm_tot (fn_VL_isWithin x2i v_vl_columns c_vl_numbers c_o1) (0, 0, 0)).bind (fun r1 => if (r1 : Int32) = 0 then (some (.inl (2, (x2i + 1)))) else (some (.inr 1))))
noncomputable def fn_VL_hasOneWithin (v_vl_columns : Int32) (v_vl_lesser : Int32) (c_vl_numbers : Nat → Int32) (c_o1 : Nat → Int32) : Nat × Int32 → Option ((Nat × Int32) ⊕ (Int32)) := fun st => match st with
  | (pc, x2i) => if pc = 0 then fn_VL_hasOneWithin_b0 v_vl_columns v_vl_lesser c_vl_numbers c_o1 x2i else if pc = 2 then fn_VL_hasOneWithin_b2 v_vl_columns v_vl_lesser c_vl_numbers c_o1 x2i else none
theorem fn_VL_hasOneWithin_q0 (v_vl_columns : Int32) (v_vl_lesser : Int32) (c_vl_numbers : Nat → Int32) (c_o1 : Nat → Int32) (x2i : Int32) : fn_VL_hasOneWithin v_vl_columns v_vl_lesser c_vl_numbers c_o1 (0, x2i) = fn_VL_hasOneWithin_b0 v_vl_columns v_vl_lesser c_vl_numbers c_o1 x2i := by simp [fn_VL_hasOneWithin]
theorem fn_VL_hasOneWithin_q2 (v_vl_columns : Int32) (v_vl_lesser : Int32) (c_vl_numbers : Nat → Int32) (c_o1 : Nat → Int32) (x2i : Int32) : fn_VL_hasOneWithin v_vl_columns v_vl_lesser c_vl_numbers c_o1 (2, x2i) = fn_VL_hasOneWithin_b2 v_vl_columns v_vl_lesser c_vl_numbers c_o1 x2i := by simp [fn_VL_hasOneWithin]
set_option maxHeartbeats 4000000 in
set_option maxRecDepth 100000 in
theorem c_VL_hasOneWithin (l : Launch) (dC : Nat → ClassId) (dI : Nat → Nat → Nat) (a_vl : Nat) (f_vl_numbers : Nat) (v_vl_isThere : Int32) (v_vl_columns : Int32) (v_vl_bound : Int32) (v_vl_total : Int32) (v_vl_lesser : Int32) (k_vl_numbers : ClassId) (c_vl_numbers : Nat → Int32) (f_o1 : Nat) (k_o1 : ClassId) (c_o1 : Nat → Int32) (sz : Nat) (out : Int32) (hs : sm_tot (fn_VL_hasOneWithin v_vl_columns v_vl_lesser c_vl_numbers c_o1) (0, 0) = some out) : Met l y_VL_hasOneWithin (Cond.code y_VL_hasOneWithin b_VL_hasOneWithin 3 (Option.some Jvm.ClassFile.FieldType.boolean) :: wd) { frames := 1, cells := 0, slots := 0, locals := 26 } (va_Pc [.ref a_vl, .ref f_o1] (fun U => U.heap.size = sz ∧ va_P (dC, dI) cls [(a_vl, .inr (7, [.ref f_vl_numbers, .int v_vl_isThere, .int v_vl_columns, .int v_vl_bound, .int v_vl_total, .int v_vl_lesser])), (f_vl_numbers, .inl (k_vl_numbers, 12000, .inl c_vl_numbers)), (f_o1, .inl (k_o1, 6, .inl c_o1))] U.heap ∧ va_K (dC, dI) cls [(k_vl_numbers, .byte), (k_o1, .int)] U ∧ va_D (fun _ => True) [(a_vl, .inr (7, [.ref f_vl_numbers, .int v_vl_isThere, .int v_vl_columns, .int v_vl_bound, .int v_vl_total, .int v_vl_lesser])), (f_vl_numbers, .inl (k_vl_numbers, 12000, .inl c_vl_numbers)), (f_o1, .inl (k_o1, 6, .inl c_o1))] ∧ nw_ok U)) (va_Qi (fun r (_ : Unit) => r = out) (fun (_ : Unit) t => va_P (dC, dI) cls [(a_vl, .inr (7, [.ref f_vl_numbers, .int v_vl_isThere, .int v_vl_columns, .int v_vl_bound, .int v_vl_total, .int v_vl_lesser])), (f_vl_numbers, .inl (k_vl_numbers, 12000, .inl c_vl_numbers)), (f_o1, .inl (k_o1, 6, .inl c_o1))] t.heap ∧ va_K (dC, dI) cls [(k_vl_numbers, .byte), (k_o1, .int)] t ∧ va_D (va_A [(a_vl, .inr (7, [.ref f_vl_numbers, .int v_vl_isThere, .int v_vl_columns, .int v_vl_bound, .int v_vl_total, .int v_vl_lesser])), (f_vl_numbers, .inl (k_vl_numbers, 12000, .inl c_vl_numbers)), (f_o1, .inl (k_o1, 6, .inl c_o1))] sz) [(a_vl, .inr (7, [.ref f_vl_numbers, .int v_vl_isThere, .int v_vl_columns, .int v_vl_bound, .int v_vl_total, .int v_vl_lesser])), (f_vl_numbers, .inl (k_vl_numbers, 12000, .inl c_vl_numbers)), (f_o1, .inl (k_o1, 6, .inl c_o1))]) (va_A [(a_vl, .inr (7, [.ref f_vl_numbers, .int v_vl_isThere, .int v_vl_columns, .int v_vl_bound, .int v_vl_total, .int v_vl_lesser])), (f_vl_numbers, .inl (k_vl_numbers, 12000, .inl c_vl_numbers)), (f_o1, .inl (k_o1, 6, .inl c_o1))] sz)) 0 0 (va_A [(a_vl, .inr (7, [.ref f_vl_numbers, .int v_vl_isThere, .int v_vl_columns, .int v_vl_bound, .int v_vl_total, .int v_vl_lesser])), (f_vl_numbers, .inl (k_vl_numbers, 12000, .inl c_vl_numbers)), (f_o1, .inl (k_o1, 6, .inl c_o1))] sz) := by
  refine Met.ofW (cc := b_VL_hasOneWithin) (maxL := 3) (ret := (Option.some Jvm.ClassFile.FieldType.boolean)) (by decide) rfl ?_
  intro p e s m args below meth c s₁ B hml hv
  obtain ⟨rfl, hsz, hP, hK, hD0, hN⟩ := hv
  have hx := B.exec
  have hb := B.bytes
  have hr := B.returns
  have hlocks := B.notSynchronized
  have hts : ∀ w ∈ wd, w.before ([.ref a_vl, .ref f_o1] : List Value).toArray s = true := fun w hw => atoms_spec (ws := (Cond.code y_VL_hasOneWithin b_VL_hasOneWithin 3 (Option.some Jvm.ClassFile.FieldType.boolean) :: wd)) B.pre w (List.mem_cons_of_mem _ hw)
  have hown : s.vm.findClass "LeastSolutions$VectorList" = some m.cls := findClass_of_methodNamed B.named
  subst hsz
  have hD := hD0.self (sz := s.heap.size)
  generalize hAe : va_A [(a_vl, .inr (7, [.ref f_vl_numbers, .int v_vl_isThere, .int v_vl_columns, .int v_vl_bound, .int v_vl_total, .int v_vl_lesser])), (f_vl_numbers, .inl (k_vl_numbers, 12000, .inl c_vl_numbers)), (f_o1, .inl (k_o1, 6, .inl c_o1))] s.heap.size = A at hD ⊢
  have hA : ∀ q : Nat, s.heap.size ≤ q → A q := fun q h => by rw [← hAe]; exact Or.inr h
  have hS : va_S A s.heap s.heap [] := va_S.rf
  have hl := lv_entry ([.ref a_vl, .ref f_o1]) (n := 3) (Nat.le_of_ble_eq_true rfl)
  rw [lg_entry_eq]
  generalize (lg_sl ([.ref a_vl, .ref f_o1]) ++ List.replicate (3 - (lg_sl ([.ref a_vl, .ref f_o1])).length) Slot.unset).toArray = ls at hl ⊢
  have hl : lv_has ls 3 [(0, .ref a_vl), (1, .ref f_o1)] := hl
  obtain ⟨k8, hs⟩ := sm_of hs
  refine sm_key (fun R Q k9 => (∀ (H : Heap) (locs : List Loc) (ls : Array Slot) (x2i : Int32), sm_it (fn_VL_hasOneWithin v_vl_columns v_vl_lesser c_vl_numbers c_o1) k9 (2, x2i) = some out → va_P (dC, dI) cls [(a_vl, .inr (7, [.ref f_vl_numbers, .int v_vl_isThere, .int v_vl_columns, .int v_vl_bound, .int v_vl_total, .int v_vl_lesser])), (f_vl_numbers, .inl (k_vl_numbers, 12000, .inl c_vl_numbers)), (f_o1, .inl (k_o1, 6, .inl c_o1))] H → va_D A [(a_vl, .inr (7, [.ref f_vl_numbers, .int v_vl_isThere, .int v_vl_columns, .int v_vl_bound, .int v_vl_total, .int v_vl_lesser])), (f_vl_numbers, .inl (k_vl_numbers, 12000, .inl c_vl_numbers)), (f_o1, .inl (k_o1, 6, .inl c_o1))] → va_S A s.heap H locs → lv_has ls 3 [(0, .ref a_vl), (1, .ref f_o1), (2, .int x2i)] → W p l e R s m ([.ref a_vl, .ref f_o1] : List Value).toArray below meth c H locs 0 0 Q (F0 m 2 ls []))) ?_ ?_ ?_
  · exact fun _ _ _ _ hs => by cases hs
  · intro k9 ih
    skip
    intro H locs ls x2i hs hP hD hS hl
    rw [sm_it_succ, fn_VL_hasOneWithin_q2] at hs
    unfold fn_VL_hasOneWithin_b2 at hs
    refine lv_iload_n hx hb d_VL_hasOneWithin_2 rfl (lv_at hl 2 rfl) ?_
    refine lv_aload_n hx hb d_VL_hasOneWithin_3 rfl (lv_at hl 0 rfl) ?_
    refine va_get (D := (dC, dI)) (ci := 7) (v := .int v_vl_lesser) (C := R_VL) (T := T_VL) (N := 6) hx hb hts in_VL hown hK hP 0 rfl rfl 5 (by decide) (hts _ k_275) (fun _ h9 => h9) rfl d_VL_hasOneWithin_4 ?_
    refine lv_icmp_ge (tgt := 27) hx hb d_VL_hasOneWithin_7 (by decide) (fun hc1 => ?_) (fun hc1 => ?_)
    · have hs := sm_pos hc1 hs
      refine lv_iconst (v := 0) hx hb d_VL_hasOneWithin_27 (by decide) ?_
      have he := sm_end hs
      subst he
      exact W.zret (v := 0) (ty := .boolean) hx hb hr (by decide +kernel) (fun t ht hW => ⟨⟨0, (), rfl, rfl, by rw [ht]; exact hP, va_K.moved hW.alike hK, hD⟩, hS.F ht⟩) hS.2.2 d_VL_hasOneWithin_28
    · have hs := sm_neg hc1 hs
      refine lv_aload_n hx hb d_VL_hasOneWithin_10 rfl (lv_at hl 0 rfl) ?_
      refine lv_iload_n hx hb d_VL_hasOneWithin_11 rfl (lv_at hl 2 rfl) ?_
      refine lv_aload_n hx hb d_VL_hasOneWithin_12 rfl (lv_at hl 1 rfl) ?_
      obtain ⟨r1, hq1, hs⟩ := sm_bd hs
      have hPc := hP.sub (ws' := [(a_vl, .inr (7, [.ref f_vl_numbers, .int v_vl_isThere, .int v_vl_columns, .int v_vl_bound, .int v_vl_total, .int v_vl_lesser])), (f_vl_numbers, .inl (k_vl_numbers, 12000, .inl c_vl_numbers)), (f_o1, .inl (k_o1, 6, .inl c_o1))]) [0, 1, 2] rfl
      have hDc := hD.sub (ws' := [(a_vl, .inr (7, [.ref f_vl_numbers, .int v_vl_isThere, .int v_vl_columns, .int v_vl_bound, .int v_vl_total, .int v_vl_lesser])), (f_vl_numbers, .inl (k_vl_numbers, 12000, .inl c_vl_numbers)), (f_o1, .inl (k_o1, 6, .inl c_o1))]) [0, 1, 2] (by decide) rfl
      have hKc := hK.sub (tys' := [(k_vl_numbers, .byte), (k_o1, .int)]) [0, 1] rfl
      have hFc := va_free (wc := [(a_vl, .inr (7, [.ref f_vl_numbers, .int v_vl_isThere, .int v_vl_columns, .int v_vl_bound, .int v_vl_total, .int v_vl_lesser])), (f_vl_numbers, .inl (k_vl_numbers, 12000, .inl c_vl_numbers)), (f_o1, .inl (k_o1, 6, .inl c_o1))]) hD hS hA [0, 1, 2] rfl
      refine va_calli (va_runV (As := [.int x2i, .ref f_o1]) (rest := []) ⟨hx, hb, hml, hown, hts⟩ (c_VL_isWithin l dC dI (a_vl) (f_vl_numbers) (v_vl_isThere) (v_vl_columns) (v_vl_bound) (v_vl_total) (v_vl_lesser) (k_vl_numbers) (c_vl_numbers) (f_o1) (k_o1) (c_o1) (x2i) H.size r1 hq1) (wd_V (C := "LeastSolutions$VectorList") 2 hts k_565 k_10 k_562 k_563 k_564 rfl rfl (by decide +kernel) ⟨Nat.le_of_ble_eq_true rfl, Nat.le_of_ble_eq_true rfl⟩) ⟨fun a U g mk q => by obtain ⟨q0, q1, qP, qK, qD, qN⟩ := q; exact ⟨q0, q1, qP, va_K.moved (u := U) (U := U.calling g mk a) (Vm.Alike.refl U.vm) qK, qD, nw_ok.same (s := U) (U := U.calling g mk a) rfl qN⟩, va_recv (ci := 7) (q0 := 0) hK hP rfl rfl, fun U hU hW => ⟨rfl, by rw [hU], by rw [hU]; exact hPc, va_K.moved hW.alike hKc, hDc.weaken (fun _ _ _ _ => trivial), nw_ok.warm hW hN⟩⟩ rfl rfl hl.1 rfl (lv_room (Nat.le_of_ble_eq_true rfl)) d_VL_hasOneWithin_13 ⟨Nat.le_of_ble_eq_true rfl, Nat.le_of_ble_eq_true rfl⟩) hS (fun q _ h => hFc q h) hFc (fun q1 u t H1 locs ht hvm hr1 hB hz1 hk1 hS => ?_)
      have hr1 := (show q1 = r1 from hr1).symm
      subst hr1
      obtain ⟨hP1, hK1, hD1⟩ := hB
      rw [ht] at hP1
      have hK1 := va_K.moved hvm.symm hK1
      obtain ⟨hP, hD⟩ := va_join (wr := []) (w1 := [(a_vl, .inr (7, [.ref f_vl_numbers, .int v_vl_isThere, .int v_vl_columns, .int v_vl_bound, .int v_vl_total, .int v_vl_lesser])), (f_vl_numbers, .inl (k_vl_numbers, 12000, .inl c_vl_numbers)), (f_o1, .inl (k_o1, 6, .inl c_o1))]) hP hD [0, 1, 2] [] rfl rfl (by decide) (by decide) hk1 hFc hP1 hD1
      have hK := (hK.sub (tys' := []) [] rfl).app hK1
      have hK : va_K (dC, dI) cls [(k_vl_numbers, .byte), (k_o1, .int)] s := hK
      have hP : va_P (dC, dI) cls [(a_vl, .inr (7, [.ref f_vl_numbers, .int v_vl_isThere, .int v_vl_columns, .int v_vl_bound, .int v_vl_total, .int v_vl_lesser])), (f_vl_numbers, .inl (k_vl_numbers, 12000, .inl c_vl_numbers)), (f_o1, .inl (k_o1, 6, .inl c_o1))] H1 := hP
      have hD : va_D A [(a_vl, .inr (7, [.ref f_vl_numbers, .int v_vl_isThere, .int v_vl_columns, .int v_vl_bound, .int v_vl_total, .int v_vl_lesser])), (f_vl_numbers, .inl (k_vl_numbers, 12000, .inl c_vl_numbers)), (f_o1, .inl (k_o1, 6, .inl c_o1))] := hD
      refine lv_if_eq (tgt := 21) hx hb d_VL_hasOneWithin_16 (by decide) (fun hc2 => ?_) (fun hc2 => ?_)
      · have hs := sm_pos hc2 hs
        refine lv_iinc (k := 2) (v := (x2i + 1)) hx hb d_VL_hasOneWithin_21 hl rfl (congrArg (fun z : Int32 => x2i + z) (by decide : Int32.ofInt 1 = 1)) (by decide) rfl (fun ls hl => ?_)
        have hl : lv_has ls 3 [(2, .int (x2i + 1)), (0, .ref a_vl), (1, .ref f_o1)] := hl
        refine lv_goto (tgt := 2) hx hb d_VL_hasOneWithin_24 (by decide) ?_
        exact ih _ _ _ _ hs hP hD hS (lv_sub hl [1, 2, 0] rfl)
      · have hs := sm_neg hc2 hs
        refine lv_iconst (v := 1) hx hb d_VL_hasOneWithin_19 (by decide) ?_
        have he := sm_end hs
        subst he
        exact W.zret (v := 1) (ty := .boolean) hx hb hr (by decide +kernel) (fun t ht hW => ⟨⟨1, (), rfl, rfl, by rw [ht]; exact hP, va_K.moved hW.alike hK, hD⟩, hS.F ht⟩) hS.2.2 d_VL_hasOneWithin_20
  · intro key
    cases k8 with
    | zero => cases hs
    | succ k9 =>
      rw [sm_it_succ, fn_VL_hasOneWithin_q0] at hs
      unfold fn_VL_hasOneWithin_b0 at hs
      refine lv_iconst (v := 0) hx hb d_VL_hasOneWithin_0 (by decide) ?_
      refine lv_istore_n hx hb d_VL_hasOneWithin_1 rfl hl (by decide) rfl (fun ls hl => ?_)
      have hl : lv_has ls 3 [(2, .int 0), (0, .ref a_vl), (1, .ref f_o1)] := hl
      exact (key k9) _ _ _ _ hs hP hD hS (lv_sub hl [1, 2, 0] rfl)

noncomputable def fn_VL_firstWithin_b0 (v_vl_columns : Int32) (v_vl_total : Int32) (c_vl_numbers : Nat → Int32) (c_o1 : Nat → Int32) (_z0 : Int32) : Option ((Nat × Int32) ⊕ (Int32)) := some (.inl (2, 0))
noncomputable def fn_VL_firstWithin_b2 (v_vl_columns : Int32) (v_vl_total : Int32) (c_vl_numbers : Nat → Int32) (c_o1 : Nat → Int32) (x2i : Int32) : Option ((Nat × Int32) ⊕ (Int32)) := if (v_vl_total : Int32) ≤ x2i then (some (.inr (-1))) else ((sm_tot (fn_VL_isWithin x2i v_vl_columns c_vl_numbers c_o1) (0, 0, 0)).bind (fun r1 => if (r1 : Int32) = 0 then (some (.inl (2, (x2i + 1)))) else (some (.inr x2i))))
noncomputable def fn_VL_firstWithin (v_vl_columns : Int32) (v_vl_total : Int32) (c_vl_numbers : Nat → Int32) (c_o1 : Nat → Int32) : Nat × Int32 → Option ((Nat × Int32) ⊕ (Int32)) := fun st => match st with
  | (pc, x2i) => if pc = 0 then fn_VL_firstWithin_b0 v_vl_columns v_vl_total c_vl_numbers c_o1 x2i else if pc = 2 then fn_VL_firstWithin_b2 v_vl_columns v_vl_total c_vl_numbers c_o1 x2i else none
theorem fn_VL_firstWithin_q0 (v_vl_columns : Int32) (v_vl_total : Int32) (c_vl_numbers : Nat → Int32) (c_o1 : Nat → Int32) (x2i : Int32) : fn_VL_firstWithin v_vl_columns v_vl_total c_vl_numbers c_o1 (0, x2i) = fn_VL_firstWithin_b0 v_vl_columns v_vl_total c_vl_numbers c_o1 x2i := by simp [fn_VL_firstWithin]
theorem fn_VL_firstWithin_q2 (v_vl_columns : Int32) (v_vl_total : Int32) (c_vl_numbers : Nat → Int32) (c_o1 : Nat → Int32) (x2i : Int32) : fn_VL_firstWithin v_vl_columns v_vl_total c_vl_numbers c_o1 (2, x2i) = fn_VL_firstWithin_b2 v_vl_columns v_vl_total c_vl_numbers c_o1 x2i := by simp [fn_VL_firstWithin]
set_option maxHeartbeats 4000000 in
set_option maxRecDepth 100000 in
theorem c_VL_firstWithin (l : Launch) (dC : Nat → ClassId) (dI : Nat → Nat → Nat) (a_vl : Nat) (f_vl_numbers : Nat) (v_vl_isThere : Int32) (v_vl_columns : Int32) (v_vl_bound : Int32) (v_vl_total : Int32) (v_vl_lesser : Int32) (k_vl_numbers : ClassId) (c_vl_numbers : Nat → Int32) (f_o1 : Nat) (k_o1 : ClassId) (c_o1 : Nat → Int32) (sz : Nat) (out : Int32) (hs : sm_tot (fn_VL_firstWithin v_vl_columns v_vl_total c_vl_numbers c_o1) (0, 0) = some out) : Met l y_VL_firstWithin (Cond.code y_VL_firstWithin b_VL_firstWithin 3 (Option.some Jvm.ClassFile.FieldType.int) :: wd) { frames := 1, cells := 0, slots := 0, locals := 26 } (va_Pc [.ref a_vl, .ref f_o1] (fun U => U.heap.size = sz ∧ va_P (dC, dI) cls [(a_vl, .inr (7, [.ref f_vl_numbers, .int v_vl_isThere, .int v_vl_columns, .int v_vl_bound, .int v_vl_total, .int v_vl_lesser])), (f_vl_numbers, .inl (k_vl_numbers, 12000, .inl c_vl_numbers)), (f_o1, .inl (k_o1, 6, .inl c_o1))] U.heap ∧ va_K (dC, dI) cls [(k_vl_numbers, .byte), (k_o1, .int)] U ∧ va_D (fun _ => True) [(a_vl, .inr (7, [.ref f_vl_numbers, .int v_vl_isThere, .int v_vl_columns, .int v_vl_bound, .int v_vl_total, .int v_vl_lesser])), (f_vl_numbers, .inl (k_vl_numbers, 12000, .inl c_vl_numbers)), (f_o1, .inl (k_o1, 6, .inl c_o1))] ∧ nw_ok U)) (va_Qi (fun r (_ : Unit) => r = out) (fun (_ : Unit) t => va_P (dC, dI) cls [(a_vl, .inr (7, [.ref f_vl_numbers, .int v_vl_isThere, .int v_vl_columns, .int v_vl_bound, .int v_vl_total, .int v_vl_lesser])), (f_vl_numbers, .inl (k_vl_numbers, 12000, .inl c_vl_numbers)), (f_o1, .inl (k_o1, 6, .inl c_o1))] t.heap ∧ va_K (dC, dI) cls [(k_vl_numbers, .byte), (k_o1, .int)] t ∧ va_D (va_A [(a_vl, .inr (7, [.ref f_vl_numbers, .int v_vl_isThere, .int v_vl_columns, .int v_vl_bound, .int v_vl_total, .int v_vl_lesser])), (f_vl_numbers, .inl (k_vl_numbers, 12000, .inl c_vl_numbers)), (f_o1, .inl (k_o1, 6, .inl c_o1))] sz) [(a_vl, .inr (7, [.ref f_vl_numbers, .int v_vl_isThere, .int v_vl_columns, .int v_vl_bound, .int v_vl_total, .int v_vl_lesser])), (f_vl_numbers, .inl (k_vl_numbers, 12000, .inl c_vl_numbers)), (f_o1, .inl (k_o1, 6, .inl c_o1))]) (va_A [(a_vl, .inr (7, [.ref f_vl_numbers, .int v_vl_isThere, .int v_vl_columns, .int v_vl_bound, .int v_vl_total, .int v_vl_lesser])), (f_vl_numbers, .inl (k_vl_numbers, 12000, .inl c_vl_numbers)), (f_o1, .inl (k_o1, 6, .inl c_o1))] sz)) 0 0 (va_A [(a_vl, .inr (7, [.ref f_vl_numbers, .int v_vl_isThere, .int v_vl_columns, .int v_vl_bound, .int v_vl_total, .int v_vl_lesser])), (f_vl_numbers, .inl (k_vl_numbers, 12000, .inl c_vl_numbers)), (f_o1, .inl (k_o1, 6, .inl c_o1))] sz) := by
  refine Met.ofW (cc := b_VL_firstWithin) (maxL := 3) (ret := (Option.some Jvm.ClassFile.FieldType.int)) (by decide) rfl ?_
  intro p e s m args below meth c s₁ B hml hv
  obtain ⟨rfl, hsz, hP, hK, hD0, hN⟩ := hv
  have hx := B.exec
  have hb := B.bytes
  have hr := B.returns
  have hlocks := B.notSynchronized
  have hts : ∀ w ∈ wd, w.before ([.ref a_vl, .ref f_o1] : List Value).toArray s = true := fun w hw => atoms_spec (ws := (Cond.code y_VL_firstWithin b_VL_firstWithin 3 (Option.some Jvm.ClassFile.FieldType.int) :: wd)) B.pre w (List.mem_cons_of_mem _ hw)
  have hown : s.vm.findClass "LeastSolutions$VectorList" = some m.cls := findClass_of_methodNamed B.named
  subst hsz
  have hD := hD0.self (sz := s.heap.size)
  generalize hAe : va_A [(a_vl, .inr (7, [.ref f_vl_numbers, .int v_vl_isThere, .int v_vl_columns, .int v_vl_bound, .int v_vl_total, .int v_vl_lesser])), (f_vl_numbers, .inl (k_vl_numbers, 12000, .inl c_vl_numbers)), (f_o1, .inl (k_o1, 6, .inl c_o1))] s.heap.size = A at hD ⊢
  have hA : ∀ q : Nat, s.heap.size ≤ q → A q := fun q h => by rw [← hAe]; exact Or.inr h
  have hS : va_S A s.heap s.heap [] := va_S.rf
  have hl := lv_entry ([.ref a_vl, .ref f_o1]) (n := 3) (Nat.le_of_ble_eq_true rfl)
  rw [lg_entry_eq]
  generalize (lg_sl ([.ref a_vl, .ref f_o1]) ++ List.replicate (3 - (lg_sl ([.ref a_vl, .ref f_o1])).length) Slot.unset).toArray = ls at hl ⊢
  have hl : lv_has ls 3 [(0, .ref a_vl), (1, .ref f_o1)] := hl
  obtain ⟨k8, hs⟩ := sm_of hs
  refine sm_key (fun R Q k9 => (∀ (H : Heap) (locs : List Loc) (ls : Array Slot) (x2i : Int32), sm_it (fn_VL_firstWithin v_vl_columns v_vl_total c_vl_numbers c_o1) k9 (2, x2i) = some out → va_P (dC, dI) cls [(a_vl, .inr (7, [.ref f_vl_numbers, .int v_vl_isThere, .int v_vl_columns, .int v_vl_bound, .int v_vl_total, .int v_vl_lesser])), (f_vl_numbers, .inl (k_vl_numbers, 12000, .inl c_vl_numbers)), (f_o1, .inl (k_o1, 6, .inl c_o1))] H → va_D A [(a_vl, .inr (7, [.ref f_vl_numbers, .int v_vl_isThere, .int v_vl_columns, .int v_vl_bound, .int v_vl_total, .int v_vl_lesser])), (f_vl_numbers, .inl (k_vl_numbers, 12000, .inl c_vl_numbers)), (f_o1, .inl (k_o1, 6, .inl c_o1))] → va_S A s.heap H locs → lv_has ls 3 [(0, .ref a_vl), (1, .ref f_o1), (2, .int x2i)] → W p l e R s m ([.ref a_vl, .ref f_o1] : List Value).toArray below meth c H locs 0 0 Q (F0 m 2 ls []))) ?_ ?_ ?_
  · exact fun _ _ _ _ hs => by cases hs
  · intro k9 ih
    skip
    intro H locs ls x2i hs hP hD hS hl
    rw [sm_it_succ, fn_VL_firstWithin_q2] at hs
    unfold fn_VL_firstWithin_b2 at hs
    refine lv_iload_n hx hb d_VL_firstWithin_2 rfl (lv_at hl 2 rfl) ?_
    refine lv_aload_n hx hb d_VL_firstWithin_3 rfl (lv_at hl 0 rfl) ?_
    refine va_get (D := (dC, dI)) (ci := 7) (v := .int v_vl_total) (C := R_VL) (T := T_VL) (N := 6) hx hb hts in_VL hown hK hP 0 rfl rfl 4 (by decide) (hts _ k_273) (fun _ h9 => h9) rfl d_VL_firstWithin_4 ?_
    refine lv_icmp_ge (tgt := 27) hx hb d_VL_firstWithin_7 (by decide) (fun hc1 => ?_) (fun hc1 => ?_)
    · have hs := sm_pos hc1 hs
      refine lv_iconst (v := (-1)) hx hb d_VL_firstWithin_27 (by decide) ?_
      have he := sm_end hs
      subst he
      exact W.iret (v := (-1)) hx hb hr (fun t ht hW => ⟨⟨(-1), (), rfl, rfl, by rw [ht]; exact hP, va_K.moved hW.alike hK, hD⟩, hS.F ht⟩) hS.2.2 d_VL_firstWithin_28
    · have hs := sm_neg hc1 hs
      refine lv_aload_n hx hb d_VL_firstWithin_10 rfl (lv_at hl 0 rfl) ?_
      refine lv_iload_n hx hb d_VL_firstWithin_11 rfl (lv_at hl 2 rfl) ?_
      refine lv_aload_n hx hb d_VL_firstWithin_12 rfl (lv_at hl 1 rfl) ?_
      obtain ⟨r1, hq1, hs⟩ := sm_bd hs
      have hPc := hP.sub (ws' := [(a_vl, .inr (7, [.ref f_vl_numbers, .int v_vl_isThere, .int v_vl_columns, .int v_vl_bound, .int v_vl_total, .int v_vl_lesser])), (f_vl_numbers, .inl (k_vl_numbers, 12000, .inl c_vl_numbers)), (f_o1, .inl (k_o1, 6, .inl c_o1))]) [0, 1, 2] rfl
      have hDc := hD.sub (ws' := [(a_vl, .inr (7, [.ref f_vl_numbers, .int v_vl_isThere, .int v_vl_columns, .int v_vl_bound, .int v_vl_total, .int v_vl_lesser])), (f_vl_numbers, .inl (k_vl_numbers, 12000, .inl c_vl_numbers)), (f_o1, .inl (k_o1, 6, .inl c_o1))]) [0, 1, 2] (by decide) rfl
      have hKc := hK.sub (tys' := [(k_vl_numbers, .byte), (k_o1, .int)]) [0, 1] rfl
      have hFc := va_free (wc := [(a_vl, .inr (7, [.ref f_vl_numbers, .int v_vl_isThere, .int v_vl_columns, .int v_vl_bound, .int v_vl_total, .int v_vl_lesser])), (f_vl_numbers, .inl (k_vl_numbers, 12000, .inl c_vl_numbers)), (f_o1, .inl (k_o1, 6, .inl c_o1))]) hD hS hA [0, 1, 2] rfl
      refine va_calli (va_runV (As := [.int x2i, .ref f_o1]) (rest := []) ⟨hx, hb, hml, hown, hts⟩ (c_VL_isWithin l dC dI (a_vl) (f_vl_numbers) (v_vl_isThere) (v_vl_columns) (v_vl_bound) (v_vl_total) (v_vl_lesser) (k_vl_numbers) (c_vl_numbers) (f_o1) (k_o1) (c_o1) (x2i) H.size r1 hq1) (wd_V (C := "LeastSolutions$VectorList") 2 hts k_565 k_10 k_562 k_563 k_564 rfl rfl (by decide +kernel) ⟨Nat.le_of_ble_eq_true rfl, Nat.le_of_ble_eq_true rfl⟩) ⟨fun a U g mk q => by obtain ⟨q0, q1, qP, qK, qD, qN⟩ := q; exact ⟨q0, q1, qP, va_K.moved (u := U) (U := U.calling g mk a) (Vm.Alike.refl U.vm) qK, qD, nw_ok.same (s := U) (U := U.calling g mk a) rfl qN⟩, va_recv (ci := 7) (q0 := 0) hK hP rfl rfl, fun U hU hW => ⟨rfl, by rw [hU], by rw [hU]; exact hPc, va_K.moved hW.alike hKc, hDc.weaken (fun _ _ _ _ => trivial), nw_ok.warm hW hN⟩⟩ rfl rfl hl.1 rfl (lv_room (Nat.le_of_ble_eq_true rfl)) d_VL_firstWithin_13 ⟨Nat.le_of_ble_eq_true rfl, Nat.le_of_ble_eq_true rfl⟩) hS (fun q _ h => hFc q h) hFc (fun q1 u t H1 locs ht hvm hr1 hB hz1 hk1 hS => ?_)
      have hr1 := (show q1 = r1 from hr1).symm
      subst hr1
      obtain ⟨hP1, hK1, hD1⟩ := hB
      rw [ht] at hP1
      have hK1 := va_K.moved hvm.symm hK1
      obtain ⟨hP, hD⟩ := va_join (wr := []) (w1 := [(a_vl, .inr (7, [.ref f_vl_numbers, .int v_vl_isThere, .int v_vl_columns, .int v_vl_bound, .int v_vl_total, .int v_vl_lesser])), (f_vl_numbers, .inl (k_vl_numbers, 12000, .inl c_vl_numbers)), (f_o1, .inl (k_o1, 6, .inl c_o1))]) hP hD [0, 1, 2] [] rfl rfl (by decide) (by decide) hk1 hFc hP1 hD1
      have hK := (hK.sub (tys' := []) [] rfl).app hK1
      have hK : va_K (dC, dI) cls [(k_vl_numbers, .byte), (k_o1, .int)] s := hK
      have hP : va_P (dC, dI) cls [(a_vl, .inr (7, [.ref f_vl_numbers, .int v_vl_isThere, .int v_vl_columns, .int v_vl_bound, .int v_vl_total, .int v_vl_lesser])), (f_vl_numbers, .inl (k_vl_numbers, 12000, .inl c_vl_numbers)), (f_o1, .inl (k_o1, 6, .inl c_o1))] H1 := hP
      have hD : va_D A [(a_vl, .inr (7, [.ref f_vl_numbers, .int v_vl_isThere, .int v_vl_columns, .int v_vl_bound, .int v_vl_total, .int v_vl_lesser])), (f_vl_numbers, .inl (k_vl_numbers, 12000, .inl c_vl_numbers)), (f_o1, .inl (k_o1, 6, .inl c_o1))] := hD
      refine lv_if_eq (tgt := 21) hx hb d_VL_firstWithin_16 (by decide) (fun hc2 => ?_) (fun hc2 => ?_)
      · have hs := sm_pos hc2 hs
        refine lv_iinc (k := 2) (v := (x2i + 1)) hx hb d_VL_firstWithin_21 hl rfl (congrArg (fun z : Int32 => x2i + z) (by decide : Int32.ofInt 1 = 1)) (by decide) rfl (fun ls hl => ?_)
        have hl : lv_has ls 3 [(2, .int (x2i + 1)), (0, .ref a_vl), (1, .ref f_o1)] := hl
        refine lv_goto (tgt := 2) hx hb d_VL_firstWithin_24 (by decide) ?_
        exact ih _ _ _ _ hs hP hD hS (lv_sub hl [1, 2, 0] rfl)
      · have hs := sm_neg hc2 hs
        refine lv_iload_n hx hb d_VL_firstWithin_19 rfl (lv_at hl 2 rfl) ?_
        have he := sm_end hs
        subst he
        exact W.iret (v := x2i) hx hb hr (fun t ht hW => ⟨⟨x2i, (), rfl, rfl, by rw [ht]; exact hP, va_K.moved hW.alike hK, hD⟩, hS.F ht⟩) hS.2.2 d_VL_firstWithin_20
  · intro key
    cases k8 with
    | zero => cases hs
    | succ k9 =>
      rw [sm_it_succ, fn_VL_firstWithin_q0] at hs
      unfold fn_VL_firstWithin_b0 at hs
      refine lv_iconst (v := 0) hx hb d_VL_firstWithin_0 (by decide) ?_
      refine lv_istore_n hx hb d_VL_firstWithin_1 rfl hl (by decide) rfl (fun ls hl => ?_)
      have hl : lv_has ls 3 [(2, .int 0), (0, .ref a_vl), (1, .ref f_o1)] := hl
      exact (key k9) _ _ _ _ hs hP hD hS (lv_sub hl [1, 2, 0] rfl)

noncomputable def fn_VL_takeFrom_b0 (a2 : Int32) (v_vl_columns : Int32) (c_vl_numbers : Nat → Int32) (_z0 : Int32) (c_o1 : Nat → Int32) : Option ((Nat × Int32 × (Nat → Int32)) ⊕ ((Nat → Int32))) := some (.inl (2, 0, c_o1))
noncomputable def fn_VL_takeFrom_b2 (a2 : Int32) (v_vl_columns : Int32) (c_vl_numbers : Nat → Int32) (x3i : Int32) (u_o1 : Nat → Int32) : Option ((Nat × Int32 × (Nat → Int32)) ⊕ ((Nat → Int32))) := if (v_vl_columns : Int32) ≤ x3i then (some (.inr u_o1)) else (if ¬ ((x3i : Int32) < 0 ∨ 6 ≤ (x3i : Int32).toNatClampNeg) then (sm_tot (fn_VL_numberOf a2 x3i c_vl_numbers) 0).bind (fun r1 => some (.inl (2, (x3i + 1), (upd u_o1 (x3i : Int32).toNatClampNeg ((u_o1 (x3i : Int32).toNatClampNeg) - r1))))) else none)
noncomputable def fn_VL_takeFrom (a2 : Int32) (v_vl_columns : Int32) (c_vl_numbers : Nat → Int32) : Nat × Int32 × (Nat → Int32) → Option ((Nat × Int32 × (Nat → Int32)) ⊕ ((Nat → Int32))) := fun st => match st with
  | (pc, x3i, u_o1) => if pc = 0 then fn_VL_takeFrom_b0 a2 v_vl_columns c_vl_numbers x3i u_o1 else if pc = 2 then fn_VL_takeFrom_b2 a2 v_vl_columns c_vl_numbers x3i u_o1 else none
theorem fn_VL_takeFrom_q0 (a2 : Int32) (v_vl_columns : Int32) (c_vl_numbers : Nat → Int32) (x3i : Int32) (u_o1 : Nat → Int32) : fn_VL_takeFrom a2 v_vl_columns c_vl_numbers (0, x3i, u_o1) = fn_VL_takeFrom_b0 a2 v_vl_columns c_vl_numbers x3i u_o1 := by simp [fn_VL_takeFrom]
theorem fn_VL_takeFrom_q2 (a2 : Int32) (v_vl_columns : Int32) (c_vl_numbers : Nat → Int32) (x3i : Int32) (u_o1 : Nat → Int32) : fn_VL_takeFrom a2 v_vl_columns c_vl_numbers (2, x3i, u_o1) = fn_VL_takeFrom_b2 a2 v_vl_columns c_vl_numbers x3i u_o1 := by simp [fn_VL_takeFrom]
set_option maxHeartbeats 4000000 in
set_option maxRecDepth 100000 in
theorem c_VL_takeFrom (l : Launch) (dC : Nat → ClassId) (dI : Nat → Nat → Nat) (a_vl : Nat) (f_vl_numbers : Nat) (v_vl_isThere : Int32) (v_vl_columns : Int32) (v_vl_bound : Int32) (v_vl_total : Int32) (v_vl_lesser : Int32) (k_vl_numbers : ClassId) (c_vl_numbers : Nat → Int32) (f_o1 : Nat) (k_o1 : ClassId) (c_o1 : Nat → Int32) (a2 : Int32) (sz : Nat) (out : (Nat → Int32)) (hs : sm_tot (fn_VL_takeFrom a2 v_vl_columns c_vl_numbers) (0, 0, c_o1) = some out) : Met l y_VL_takeFrom (Cond.code y_VL_takeFrom b_VL_takeFrom 4 (Option.none : Option Jvm.ClassFile.FieldType) :: wd) { frames := 1, cells := 0, slots := 0, locals := 22 } (va_Pc [.ref a_vl, .ref f_o1, .int a2] (fun U => U.heap.size = sz ∧ va_P (dC, dI) cls [(a_vl, .inr (7, [.ref f_vl_numbers, .int v_vl_isThere, .int v_vl_columns, .int v_vl_bound, .int v_vl_total, .int v_vl_lesser])), (f_vl_numbers, .inl (k_vl_numbers, 12000, .inl c_vl_numbers)), (f_o1, .inl (k_o1, 6, .inl c_o1))] U.heap ∧ va_K (dC, dI) cls [(k_vl_numbers, .byte), (k_o1, .int)] U ∧ va_D (fun _ => True) [(a_vl, .inr (7, [.ref f_vl_numbers, .int v_vl_isThere, .int v_vl_columns, .int v_vl_bound, .int v_vl_total, .int v_vl_lesser])), (f_vl_numbers, .inl (k_vl_numbers, 12000, .inl c_vl_numbers)), (f_o1, .inl (k_o1, 6, .inl c_o1))] ∧ nw_ok U)) (va_Qv (fun _ : Unit => True) (fun (_ : Unit) t => va_P (dC, dI) cls [(a_vl, .inr (7, [.ref f_vl_numbers, .int v_vl_isThere, .int v_vl_columns, .int v_vl_bound, .int v_vl_total, .int v_vl_lesser])), (f_vl_numbers, .inl (k_vl_numbers, 12000, .inl c_vl_numbers)), (f_o1, .inl (k_o1, 6, .inl out))] t.heap ∧ va_K (dC, dI) cls [(k_vl_numbers, .byte), (k_o1, .int)] t ∧ va_D (va_A [(a_vl, .inr (7, [.ref f_vl_numbers, .int v_vl_isThere, .int v_vl_columns, .int v_vl_bound, .int v_vl_total, .int v_vl_lesser])), (f_vl_numbers, .inl (k_vl_numbers, 12000, .inl c_vl_numbers)), (f_o1, .inl (k_o1, 6, .inl c_o1))] sz) [(a_vl, .inr (7, [.ref f_vl_numbers, .int v_vl_isThere, .int v_vl_columns, .int v_vl_bound, .int v_vl_total, .int v_vl_lesser])), (f_vl_numbers, .inl (k_vl_numbers, 12000, .inl c_vl_numbers)), (f_o1, .inl (k_o1, 6, .inl out))]) (va_A [(a_vl, .inr (7, [.ref f_vl_numbers, .int v_vl_isThere, .int v_vl_columns, .int v_vl_bound, .int v_vl_total, .int v_vl_lesser])), (f_vl_numbers, .inl (k_vl_numbers, 12000, .inl c_vl_numbers)), (f_o1, .inl (k_o1, 6, .inl c_o1))] sz)) 0 0 (va_A [(a_vl, .inr (7, [.ref f_vl_numbers, .int v_vl_isThere, .int v_vl_columns, .int v_vl_bound, .int v_vl_total, .int v_vl_lesser])), (f_vl_numbers, .inl (k_vl_numbers, 12000, .inl c_vl_numbers)), (f_o1, .inl (k_o1, 6, .inl c_o1))] sz) := by
  refine Met.ofW (cc := b_VL_takeFrom) (maxL := 4) (ret := (Option.none : Option Jvm.ClassFile.FieldType)) (by decide) rfl ?_
  intro p e s m args below meth c s₁ B hml hv
  obtain ⟨rfl, hsz, hP, hK, hD0, hN⟩ := hv
  have hx := B.exec
  have hb := B.bytes
  have hr := B.returns
  have hlocks := B.notSynchronized
  have hts : ∀ w ∈ wd, w.before ([.ref a_vl, .ref f_o1, .int a2] : List Value).toArray s = true := fun w hw => atoms_spec (ws := (Cond.code y_VL_takeFrom b_VL_takeFrom 4 (Option.none : Option Jvm.ClassFile.FieldType) :: wd)) B.pre w (List.mem_cons_of_mem _ hw)
  have hown : s.vm.findClass "LeastSolutions$VectorList" = some m.cls := findClass_of_methodNamed B.named
  subst hsz
  have hD := hD0.self (sz := s.heap.size)
  generalize hAe : va_A [(a_vl, .inr (7, [.ref f_vl_numbers, .int v_vl_isThere, .int v_vl_columns, .int v_vl_bound, .int v_vl_total, .int v_vl_lesser])), (f_vl_numbers, .inl (k_vl_numbers, 12000, .inl c_vl_numbers)), (f_o1, .inl (k_o1, 6, .inl c_o1))] s.heap.size = A at hD ⊢
  have hA : ∀ q : Nat, s.heap.size ≤ q → A q := fun q h => by rw [← hAe]; exact Or.inr h
  have hS : va_S A s.heap s.heap [] := va_S.rf
  have hl := lv_entry ([.ref a_vl, .ref f_o1, .int a2]) (n := 4) (Nat.le_of_ble_eq_true rfl)
  rw [lg_entry_eq]
  generalize (lg_sl ([.ref a_vl, .ref f_o1, .int a2]) ++ List.replicate (4 - (lg_sl ([.ref a_vl, .ref f_o1, .int a2])).length) Slot.unset).toArray = ls at hl ⊢
  have hl : lv_has ls 4 [(0, .ref a_vl), (1, .ref f_o1), (2, .int a2)] := hl
  obtain ⟨k8, hs⟩ := sm_of hs
  refine sm_key (fun R Q k9 => (∀ (H : Heap) (locs : List Loc) (ls : Array Slot) (x3i : Int32) (u_o1 : Nat → Int32), sm_it (fn_VL_takeFrom a2 v_vl_columns c_vl_numbers) k9 (2, x3i, u_o1) = some out → va_P (dC, dI) cls [(a_vl, .inr (7, [.ref f_vl_numbers, .int v_vl_isThere, .int v_vl_columns, .int v_vl_bound, .int v_vl_total, .int v_vl_lesser])), (f_vl_numbers, .inl (k_vl_numbers, 12000, .inl c_vl_numbers)), (f_o1, .inl (k_o1, 6, .inl u_o1))] H → va_D A [(a_vl, .inr (7, [.ref f_vl_numbers, .int v_vl_isThere, .int v_vl_columns, .int v_vl_bound, .int v_vl_total, .int v_vl_lesser])), (f_vl_numbers, .inl (k_vl_numbers, 12000, .inl c_vl_numbers)), (f_o1, .inl (k_o1, 6, .inl u_o1))] → va_S A s.heap H locs → lv_has ls 4 [(0, .ref a_vl), (1, .ref f_o1), (2, .int a2), (3, .int x3i)] → W p l e R s m ([.ref a_vl, .ref f_o1, .int a2] : List Value).toArray below meth c H locs 0 0 Q (F0 m 2 ls []))) ?_ ?_ ?_
  · exact fun _ _ _ _ _ hs => by cases hs
  · intro k9 ih
    skip
    intro H locs ls x3i u_o1 hs hP hD hS hl
    rw [sm_it_succ, fn_VL_takeFrom_q2] at hs
    unfold fn_VL_takeFrom_b2 at hs
    refine lv_iload_n hx hb d_VL_takeFrom_2 rfl (lv_at hl 3 rfl) ?_
    refine lv_aload_n hx hb d_VL_takeFrom_3 rfl (lv_at hl 0 rfl) ?_
    refine va_get (D := (dC, dI)) (ci := 7) (v := .int v_vl_columns) (C := R_VL) (T := T_VL) (N := 6) hx hb hts in_VL hown hK hP 0 rfl rfl 2 (by decide) (hts _ k_270) (fun _ h9 => h9) rfl d_VL_takeFrom_4 ?_
    refine lv_icmp_ge (tgt := 28) hx hb d_VL_takeFrom_7 (by decide) (fun hc1 => ?_) (fun hc1 => ?_)
    · have hs := sm_pos hc1 hs
      have he := sm_end hs
      subst he
      exact W.vret hx hb hr (fun t ht hW => ⟨⟨(), rfl, trivial, by rw [ht]; exact hP, va_K.moved hW.alike hK, hD⟩, hS.F ht⟩) hS.2.2 d_VL_takeFrom_28
    · have hs := sm_neg hc1 hs
      refine lv_aload_n hx hb d_VL_takeFrom_10 rfl (lv_at hl 1 rfl) ?_
      refine lv_iload_n hx hb d_VL_takeFrom_11 rfl (lv_at hl 3 rfl) ?_
      refine lv_dup2_11 hx hb d_VL_takeFrom_12 rfl rfl ?_
      obtain ⟨hg1, hs⟩ := sm_gd hs
      refine va_iald hx hb hK hP 2 1 rfl rfl hg1 d_VL_takeFrom_13 ?_
      refine lv_aload_n hx hb d_VL_takeFrom_14 rfl (lv_at hl 0 rfl) ?_
      refine lv_iload_n hx hb d_VL_takeFrom_15 rfl (lv_at hl 2 rfl) ?_
      refine lv_iload_n hx hb d_VL_takeFrom_16 rfl (lv_at hl 3 rfl) ?_
      obtain ⟨r1, hq1, hs⟩ := sm_bd hs
      have hPc := hP.sub (ws' := [(a_vl, .inr (7, [.ref f_vl_numbers, .int v_vl_isThere, .int v_vl_columns, .int v_vl_bound, .int v_vl_total, .int v_vl_lesser])), (f_vl_numbers, .inl (k_vl_numbers, 12000, .inl c_vl_numbers))]) [0, 1] rfl
      have hDc := hD.sub (ws' := [(a_vl, .inr (7, [.ref f_vl_numbers, .int v_vl_isThere, .int v_vl_columns, .int v_vl_bound, .int v_vl_total, .int v_vl_lesser])), (f_vl_numbers, .inl (k_vl_numbers, 12000, .inl c_vl_numbers))]) [0, 1] (by decide) rfl
      have hKc := hK.sub (tys' := [(k_vl_numbers, .byte)]) [0] rfl
      have hFc := va_free (wc := [(a_vl, .inr (7, [.ref f_vl_numbers, .int v_vl_isThere, .int v_vl_columns, .int v_vl_bound, .int v_vl_total, .int v_vl_lesser])), (f_vl_numbers, .inl (k_vl_numbers, 12000, .inl c_vl_numbers))]) hD hS hA [0, 1] rfl
      refine va_calli (va_runV (As := [.int a2, .int x3i]) (rest := [.int (u_o1 (x3i : Int32).toNatClampNeg), .int x3i, .ref f_o1]) ⟨hx, hb, hml, hown, hts⟩ (c_VL_numberOf l dC dI (a_vl) (f_vl_numbers) (v_vl_isThere) (v_vl_columns) (v_vl_bound) (v_vl_total) (v_vl_lesser) (k_vl_numbers) (c_vl_numbers) (a2) (x3i) H.size r1 hq1) (wd_V (C := "LeastSolutions$VectorList") 2 hts k_576 k_10 k_573 k_574 k_575 rfl rfl (by decide +kernel) ⟨Nat.le_of_ble_eq_true rfl, Nat.le_of_ble_eq_true rfl⟩) ⟨fun a U g mk q => by obtain ⟨q0, q1, qP, qK, qD, qN⟩ := q; exact ⟨q0, q1, qP, va_K.moved (u := U) (U := U.calling g mk a) (Vm.Alike.refl U.vm) qK, qD, nw_ok.same (s := U) (U := U.calling g mk a) rfl qN⟩, va_recv (ci := 7) (q0 := 0) hK hP rfl rfl, fun U hU hW => ⟨rfl, by rw [hU], by rw [hU]; exact hPc, va_K.moved hW.alike hKc, hDc.weaken (fun _ _ _ _ => trivial), nw_ok.warm hW hN⟩⟩ rfl rfl hl.1 rfl (lv_room (Nat.le_of_ble_eq_true rfl)) d_VL_takeFrom_17 ⟨Nat.le_of_ble_eq_true rfl, Nat.le_of_ble_eq_true rfl⟩) hS (fun q _ h => hFc q h) hFc (fun q1 u t H1 locs ht hvm hr1 hB hz1 hk1 hS => ?_)
      have hr1 := (show q1 = r1 from hr1).symm
      subst hr1
      obtain ⟨hP1, hK1, hD1⟩ := hB
      rw [ht] at hP1
      have hK1 := va_K.moved hvm.symm hK1
      obtain ⟨hP, hD⟩ := va_join (wr := [(f_o1, .inl (k_o1, 6, .inl u_o1))]) (w1 := [(a_vl, .inr (7, [.ref f_vl_numbers, .int v_vl_isThere, .int v_vl_columns, .int v_vl_bound, .int v_vl_total, .int v_vl_lesser])), (f_vl_numbers, .inl (k_vl_numbers, 12000, .inl c_vl_numbers))]) hP hD [0, 1] [2] rfl rfl (by decide) (by decide) hk1 hFc hP1 hD1
      have hK := (hK.sub (tys' := [(k_o1, .int)]) [1] rfl).app hK1
      have hK : va_K (dC, dI) cls [(k_o1, .int), (k_vl_numbers, .byte)] s := hK
      have hP : va_P (dC, dI) cls [(f_o1, .inl (k_o1, 6, .inl u_o1)), (a_vl, .inr (7, [.ref f_vl_numbers, .int v_vl_isThere, .int v_vl_columns, .int v_vl_bound, .int v_vl_total, .int v_vl_lesser])), (f_vl_numbers, .inl (k_vl_numbers, 12000, .inl c_vl_numbers))] H1 := hP
      have hD : va_D A [(f_o1, .inl (k_o1, 6, .inl u_o1)), (a_vl, .inr (7, [.ref f_vl_numbers, .int v_vl_isThere, .int v_vl_columns, .int v_vl_bound, .int v_vl_total, .int v_vl_lesser])), (f_vl_numbers, .inl (k_vl_numbers, 12000, .inl c_vl_numbers))] := hD
      refine lv_isub hx hb d_VL_takeFrom_20 ?_
      refine va_iast hx hb hK hP hD hS 0 0 rfl rfl hg1 d_VL_takeFrom_21 (fun H2 locs hP hD hS => ?_)
      have hP : va_P (dC, dI) cls [(f_o1, .inl (k_o1, 6, .inl (upd u_o1 (x3i : Int32).toNatClampNeg ((u_o1 (x3i : Int32).toNatClampNeg) - r1)))), (a_vl, .inr (7, [.ref f_vl_numbers, .int v_vl_isThere, .int v_vl_columns, .int v_vl_bound, .int v_vl_total, .int v_vl_lesser])), (f_vl_numbers, .inl (k_vl_numbers, 12000, .inl c_vl_numbers))] H2 := hP
      have hD : va_D A [(f_o1, .inl (k_o1, 6, .inl (upd u_o1 (x3i : Int32).toNatClampNeg ((u_o1 (x3i : Int32).toNatClampNeg) - r1)))), (a_vl, .inr (7, [.ref f_vl_numbers, .int v_vl_isThere, .int v_vl_columns, .int v_vl_bound, .int v_vl_total, .int v_vl_lesser])), (f_vl_numbers, .inl (k_vl_numbers, 12000, .inl c_vl_numbers))] := hD
      refine lv_iinc (k := 3) (v := (x3i + 1)) hx hb d_VL_takeFrom_22 hl rfl (congrArg (fun z : Int32 => x3i + z) (by decide : Int32.ofInt 1 = 1)) (by decide) rfl (fun ls hl => ?_)
      have hl : lv_has ls 4 [(3, .int (x3i + 1)), (0, .ref a_vl), (1, .ref f_o1), (2, .int a2)] := hl
      refine lv_goto (tgt := 2) hx hb d_VL_takeFrom_25 (by decide) ?_
      have hP := hP.sub (ws' := [(a_vl, .inr (7, [.ref f_vl_numbers, .int v_vl_isThere, .int v_vl_columns, .int v_vl_bound, .int v_vl_total, .int v_vl_lesser])), (f_vl_numbers, .inl (k_vl_numbers, 12000, .inl c_vl_numbers)), (f_o1, .inl (k_o1, 6, .inl (upd u_o1 (x3i : Int32).toNatClampNeg ((u_o1 (x3i : Int32).toNatClampNeg) - r1))))]) [1, 2, 0] rfl
      have hD := hD.sub (ws' := [(a_vl, .inr (7, [.ref f_vl_numbers, .int v_vl_isThere, .int v_vl_columns, .int v_vl_bound, .int v_vl_total, .int v_vl_lesser])), (f_vl_numbers, .inl (k_vl_numbers, 12000, .inl c_vl_numbers)), (f_o1, .inl (k_o1, 6, .inl (upd u_o1 (x3i : Int32).toNatClampNeg ((u_o1 (x3i : Int32).toNatClampNeg) - r1))))]) [1, 2, 0] (by decide) rfl
      have hK := hK.sub (tys' := [(k_vl_numbers, .byte), (k_o1, .int)]) [1, 0] rfl
      exact ih _ _ _ _ _ hs hP hD hS (lv_sub hl [1, 2, 3, 0] rfl)
  · intro key
    cases k8 with
    | zero => cases hs
    | succ k9 =>
      rw [sm_it_succ, fn_VL_takeFrom_q0] at hs
      unfold fn_VL_takeFrom_b0 at hs
      refine lv_iconst (v := 0) hx hb d_VL_takeFrom_0 (by decide) ?_
      refine lv_istore_n hx hb d_VL_takeFrom_1 rfl hl (by decide) rfl (fun ls hl => ?_)
      have hl : lv_has ls 4 [(3, .int 0), (0, .ref a_vl), (1, .ref f_o1), (2, .int a2)] := hl
      exact (key k9) _ _ _ _ _ hs hP hD hS (lv_sub hl [1, 2, 3, 0] rfl)

noncomputable def fn_VL_take_b0 (v_vl_columns : Int32) (v_vl_lesser : Int32) (c_o1 : Nat → Int32) (_z0 : Int32) (v_vl_isThere : Int32) (v_vl_total : Int32) (c_vl_numbers : Nat → Int32) : Option ((Nat × Int32 × Int32 × Int32 × (Nat → Int32)) ⊕ (Int32 × Int32 × Int32 × (Nat → Int32))) := (sm_tot (fn_VL_hasOneWithin v_vl_columns v_vl_lesser c_vl_numbers c_o1) (0, 0)).bind (fun r1 => if (r1 : Int32) = 0 then (if (v_vl_total : Int32) < 2000 then (some (.inl (28, 0, v_vl_isThere, v_vl_total, c_vl_numbers))) else ((sm_tot (fn_VL_drop) (0, v_vl_isThere)).bind (fun r2 => some (.inr (0, r2, v_vl_total, c_vl_numbers))))) else (some (.inr (1, v_vl_isThere, v_vl_total, c_vl_numbers))))
noncomputable def fn_VL_take_b28 (v_vl_columns : Int32) (v_vl_lesser : Int32) (c_o1 : Nat → Int32) (x2i : Int32) (w_vl_isThere : Int32) (w_vl_total : Int32) (u_vl_numbers : Nat → Int32) : Option ((Nat × Int32 × Int32 × Int32 × (Nat → Int32)) ⊕ (Int32 × Int32 × Int32 × (Nat → Int32))) := if (v_vl_columns : Int32) ≤ x2i then (some (.inr (1, w_vl_isThere, (w_vl_total + 1), u_vl_numbers))) else (if ¬ ((x2i : Int32) < 0 ∨ 6 ≤ (x2i : Int32).toNatClampNeg) then if ¬ ((((w_vl_total * 6) + x2i) : Int32) < 0 ∨ 12000 ≤ (((w_vl_total * 6) + x2i) : Int32).toNatClampNeg) then some (.inl (28, (x2i + 1), w_vl_isThere, w_vl_total, (upd u_vl_numbers (((w_vl_total * 6) + x2i) : Int32).toNatClampNeg (vp_nar .byte ((c_o1 (x2i : Int32).toNatClampNeg) : Int32).toInt8.toInt32)))) else none else none)
noncomputable def fn_VL_take (v_vl_columns : Int32) (v_vl_lesser : Int32) (c_o1 : Nat → Int32) : Nat × Int32 × Int32 × Int32 × (Nat → Int32) → Option ((Nat × Int32 × Int32 × Int32 × (Nat → Int32)) ⊕ (Int32 × Int32 × Int32 × (Nat → Int32))) := fun st => match st with
  | (pc, x2i, w_vl_isThere, w_vl_total, u_vl_numbers) => if pc = 0 then fn_VL_take_b0 v_vl_columns v_vl_lesser c_o1 x2i w_vl_isThere w_vl_total u_vl_numbers else if pc = 28 then fn_VL_take_b28 v_vl_columns v_vl_lesser c_o1 x2i w_vl_isThere w_vl_total u_vl_numbers else none
theorem fn_VL_take_q0 (v_vl_columns : Int32) (v_vl_lesser : Int32) (c_o1 : Nat → Int32) (x2i : Int32) (w_vl_isThere : Int32) (w_vl_total : Int32) (u_vl_numbers : Nat → Int32) : fn_VL_take v_vl_columns v_vl_lesser c_o1 (0, x2i, w_vl_isThere, w_vl_total, u_vl_numbers) = fn_VL_take_b0 v_vl_columns v_vl_lesser c_o1 x2i w_vl_isThere w_vl_total u_vl_numbers := by simp [fn_VL_take]
theorem fn_VL_take_q28 (v_vl_columns : Int32) (v_vl_lesser : Int32) (c_o1 : Nat → Int32) (x2i : Int32) (w_vl_isThere : Int32) (w_vl_total : Int32) (u_vl_numbers : Nat → Int32) : fn_VL_take v_vl_columns v_vl_lesser c_o1 (28, x2i, w_vl_isThere, w_vl_total, u_vl_numbers) = fn_VL_take_b28 v_vl_columns v_vl_lesser c_o1 x2i w_vl_isThere w_vl_total u_vl_numbers := by simp [fn_VL_take]
set_option maxHeartbeats 4000000 in
set_option maxRecDepth 100000 in
theorem c_VL_take (l : Launch) (dC : Nat → ClassId) (dI : Nat → Nat → Nat) (a_vl : Nat) (f_vl_numbers : Nat) (v_vl_isThere : Int32) (v_vl_columns : Int32) (v_vl_bound : Int32) (v_vl_total : Int32) (v_vl_lesser : Int32) (k_vl_numbers : ClassId) (c_vl_numbers : Nat → Int32) (f_o1 : Nat) (k_o1 : ClassId) (c_o1 : Nat → Int32) (sz : Nat) (out : Int32 × Int32 × Int32 × (Nat → Int32)) (hs : sm_tot (fn_VL_take v_vl_columns v_vl_lesser c_o1) (0, 0, v_vl_isThere, v_vl_total, c_vl_numbers) = some out) : Met l y_VL_take (Cond.code y_VL_take b_VL_take 3 (Option.some Jvm.ClassFile.FieldType.boolean) :: wd) { frames := 2, cells := 0, slots := 0, locals := 48 } (va_Pc [.ref a_vl, .ref f_o1] (fun U => U.heap.size = sz ∧ va_P (dC, dI) cls [(a_vl, .inr (7, [.ref f_vl_numbers, .int v_vl_isThere, .int v_vl_columns, .int v_vl_bound, .int v_vl_total, .int v_vl_lesser])), (f_vl_numbers, .inl (k_vl_numbers, 12000, .inl c_vl_numbers)), (f_o1, .inl (k_o1, 6, .inl c_o1))] U.heap ∧ va_K (dC, dI) cls [(k_vl_numbers, .byte), (k_o1, .int)] U ∧ va_D (fun _ => True) [(a_vl, .inr (7, [.ref f_vl_numbers, .int v_vl_isThere, .int v_vl_columns, .int v_vl_bound, .int v_vl_total, .int v_vl_lesser])), (f_vl_numbers, .inl (k_vl_numbers, 12000, .inl c_vl_numbers)), (f_o1, .inl (k_o1, 6, .inl c_o1))] ∧ nw_ok U)) (va_Qi (fun r (_ : Unit) => r = out.1) (fun (_ : Unit) t => va_P (dC, dI) cls [(a_vl, .inr (7, [.ref f_vl_numbers, .int out.2.1, .int v_vl_columns, .int v_vl_bound, .int out.2.2.1, .int v_vl_lesser])), (f_vl_numbers, .inl (k_vl_numbers, 12000, .inl out.2.2.2)), (f_o1, .inl (k_o1, 6, .inl c_o1))] t.heap ∧ va_K (dC, dI) cls [(k_vl_numbers, .byte), (k_o1, .int)] t ∧ va_D (va_A [(a_vl, .inr (7, [.ref f_vl_numbers, .int v_vl_isThere, .int v_vl_columns, .int v_vl_bound, .int v_vl_total, .int v_vl_lesser])), (f_vl_numbers, .inl (k_vl_numbers, 12000, .inl c_vl_numbers)), (f_o1, .inl (k_o1, 6, .inl c_o1))] sz) [(a_vl, .inr (7, [.ref f_vl_numbers, .int out.2.1, .int v_vl_columns, .int v_vl_bound, .int out.2.2.1, .int v_vl_lesser])), (f_vl_numbers, .inl (k_vl_numbers, 12000, .inl out.2.2.2)), (f_o1, .inl (k_o1, 6, .inl c_o1))]) (va_A [(a_vl, .inr (7, [.ref f_vl_numbers, .int v_vl_isThere, .int v_vl_columns, .int v_vl_bound, .int v_vl_total, .int v_vl_lesser])), (f_vl_numbers, .inl (k_vl_numbers, 12000, .inl c_vl_numbers)), (f_o1, .inl (k_o1, 6, .inl c_o1))] sz)) 0 0 (va_A [(a_vl, .inr (7, [.ref f_vl_numbers, .int v_vl_isThere, .int v_vl_columns, .int v_vl_bound, .int v_vl_total, .int v_vl_lesser])), (f_vl_numbers, .inl (k_vl_numbers, 12000, .inl c_vl_numbers)), (f_o1, .inl (k_o1, 6, .inl c_o1))] sz) := by
  refine Met.ofW (cc := b_VL_take) (maxL := 3) (ret := (Option.some Jvm.ClassFile.FieldType.boolean)) (by decide) rfl ?_
  intro p e s m args below meth c s₁ B hml hv
  obtain ⟨rfl, hsz, hP, hK, hD0, hN⟩ := hv
  have hx := B.exec
  have hb := B.bytes
  have hr := B.returns
  have hlocks := B.notSynchronized
  have hts : ∀ w ∈ wd, w.before ([.ref a_vl, .ref f_o1] : List Value).toArray s = true := fun w hw => atoms_spec (ws := (Cond.code y_VL_take b_VL_take 3 (Option.some Jvm.ClassFile.FieldType.boolean) :: wd)) B.pre w (List.mem_cons_of_mem _ hw)
  have hown : s.vm.findClass "LeastSolutions$VectorList" = some m.cls := findClass_of_methodNamed B.named
  subst hsz
  have hD := hD0.self (sz := s.heap.size)
  generalize hAe : va_A [(a_vl, .inr (7, [.ref f_vl_numbers, .int v_vl_isThere, .int v_vl_columns, .int v_vl_bound, .int v_vl_total, .int v_vl_lesser])), (f_vl_numbers, .inl (k_vl_numbers, 12000, .inl c_vl_numbers)), (f_o1, .inl (k_o1, 6, .inl c_o1))] s.heap.size = A at hD ⊢
  have hA : ∀ q : Nat, s.heap.size ≤ q → A q := fun q h => by rw [← hAe]; exact Or.inr h
  have hS : va_S A s.heap s.heap [] := va_S.rf
  have hl := lv_entry ([.ref a_vl, .ref f_o1]) (n := 3) (Nat.le_of_ble_eq_true rfl)
  rw [lg_entry_eq]
  generalize (lg_sl ([.ref a_vl, .ref f_o1]) ++ List.replicate (3 - (lg_sl ([.ref a_vl, .ref f_o1])).length) Slot.unset).toArray = ls at hl ⊢
  have hl : lv_has ls 3 [(0, .ref a_vl), (1, .ref f_o1)] := hl
  obtain ⟨k8, hs⟩ := sm_of hs
  refine sm_key (fun R Q k9 => (∀ (H : Heap) (locs : List Loc) (ls : Array Slot) (x2i : Int32) (w_vl_isThere : Int32) (w_vl_total : Int32) (u_vl_numbers : Nat → Int32), sm_it (fn_VL_take v_vl_columns v_vl_lesser c_o1) k9 (28, x2i, w_vl_isThere, w_vl_total, u_vl_numbers) = some out → va_P (dC, dI) cls [(a_vl, .inr (7, [.ref f_vl_numbers, .int w_vl_isThere, .int v_vl_columns, .int v_vl_bound, .int w_vl_total, .int v_vl_lesser])), (f_vl_numbers, .inl (k_vl_numbers, 12000, .inl u_vl_numbers)), (f_o1, .inl (k_o1, 6, .inl c_o1))] H → va_D A [(a_vl, .inr (7, [.ref f_vl_numbers, .int w_vl_isThere, .int v_vl_columns, .int v_vl_bound, .int w_vl_total, .int v_vl_lesser])), (f_vl_numbers, .inl (k_vl_numbers, 12000, .inl u_vl_numbers)), (f_o1, .inl (k_o1, 6, .inl c_o1))] → va_S A s.heap H locs → lv_has ls 3 [(0, .ref a_vl), (1, .ref f_o1), (2, .int x2i)] → W p l e R s m ([.ref a_vl, .ref f_o1] : List Value).toArray below meth c H locs 0 0 Q (F0 m 28 ls []))) ?_ ?_ ?_
  · exact fun _ _ _ _ _ _ _ hs => by cases hs
  · intro k9 ih
    skip
    intro H locs ls x2i w_vl_isThere w_vl_total u_vl_numbers hs hP hD hS hl
    rw [sm_it_succ, fn_VL_take_q28] at hs
    unfold fn_VL_take_b28 at hs
    refine lv_iload_n hx hb d_VL_take_28 rfl (lv_at hl 2 rfl) ?_
    refine lv_aload_n hx hb d_VL_take_29 rfl (lv_at hl 0 rfl) ?_
    refine va_get (D := (dC, dI)) (ci := 7) (v := .int v_vl_columns) (C := R_VL) (T := T_VL) (N := 6) hx hb hts in_VL hown hK hP 0 rfl rfl 2 (by decide) (hts _ k_270) (fun _ h9 => h9) rfl d_VL_take_30 ?_
    refine lv_icmp_ge (tgt := 60) hx hb d_VL_take_33 (by decide) (fun hc1 => ?_) (fun hc1 => ?_)
    · have hs := sm_pos hc1 hs
      refine lv_aload_n hx hb d_VL_take_60 rfl (lv_at hl 0 rfl) ?_
      refine lv_dup hx hb d_VL_take_61 rfl ?_
      refine va_get (D := (dC, dI)) (ci := 7) (v := .int w_vl_total) (C := R_VL) (T := T_VL) (N := 6) hx hb hts in_VL hown hK hP 0 rfl rfl 4 (by decide) (hts _ k_273) (fun _ h9 => h9) rfl d_VL_take_62 ?_
      refine lv_iconst (v := 1) hx hb d_VL_take_65 (by decide) ?_
      refine lv_iadd hx hb d_VL_take_66 ?_
      refine va_put (D := (dC, dI)) (ci := 7) (v := .int (w_vl_total + 1)) (ty := .int) (C := R_VL) (T := T_VL) (N := 6) hx hb hts in_VL t_VL t_VL_ok n_VL hown hK hP hD hS 0 rfl rfl 4 (by decide) (hts _ k_273) (fun _ h9 => h9) rfl (by decide +kernel) rfl rfl (Nat.le_of_ble_eq_true rfl) d_VL_take_67 (fun H1 locs hP hD hS => ?_)
      have hP : va_P (dC, dI) cls [(a_vl, .inr (7, [.ref f_vl_numbers, .int w_vl_isThere, .int v_vl_columns, .int v_vl_bound, .int (w_vl_total + 1), .int v_vl_lesser])), (f_vl_numbers, .inl (k_vl_numbers, 12000, .inl u_vl_numbers)), (f_o1, .inl (k_o1, 6, .inl c_o1))] H1 := hP
      have hD : va_D A [(a_vl, .inr (7, [.ref f_vl_numbers, .int w_vl_isThere, .int v_vl_columns, .int v_vl_bound, .int (w_vl_total + 1), .int v_vl_lesser])), (f_vl_numbers, .inl (k_vl_numbers, 12000, .inl u_vl_numbers)), (f_o1, .inl (k_o1, 6, .inl c_o1))] := hD
      refine lv_iconst (v := 1) hx hb d_VL_take_70 (by decide) ?_
      have he := sm_end hs
      subst he
      exact W.zret (v := 1) (ty := .boolean) hx hb hr (by decide +kernel) (fun t ht hW => ⟨⟨1, (), rfl, rfl, by rw [ht]; exact hP, va_K.moved hW.alike hK, hD⟩, hS.F ht⟩) hS.2.2 d_VL_take_71
    · have hs := sm_neg hc1 hs
      refine lv_aload_n hx hb d_VL_take_36 rfl (lv_at hl 0 rfl) ?_
      refine va_get (D := (dC, dI)) (ci := 7) (v := .ref f_vl_numbers) (C := R_VL) (T := T_VL) (N := 6) hx hb hts in_VL hown hK hP 0 rfl rfl 0 (by decide) (hts _ k_267) (fun _ h9 => h9) rfl d_VL_take_37 ?_
      refine lv_aload_n hx hb d_VL_take_40 rfl (lv_at hl 0 rfl) ?_
      refine va_get (D := (dC, dI)) (ci := 7) (v := .int w_vl_total) (C := R_VL) (T := T_VL) (N := 6) hx hb hts in_VL hown hK hP 0 rfl rfl 4 (by decide) (hts _ k_273) (fun _ h9 => h9) rfl d_VL_take_41 ?_
      refine lv_bipush (v := 6) hx hb d_VL_take_44 (by decide) ?_
      refine lv_imul hx hb d_VL_take_46 ?_
      refine lv_iload_n hx hb d_VL_take_47 rfl (lv_at hl 2 rfl) ?_
      refine lv_iadd hx hb d_VL_take_48 ?_
      refine lv_aload_n hx hb d_VL_take_49 rfl (lv_at hl 1 rfl) ?_
      refine lv_iload_n hx hb d_VL_take_50 rfl (lv_at hl 2 rfl) ?_
      obtain ⟨hg1, hs⟩ := sm_gd hs
      refine va_iald hx hb hK hP 2 1 rfl rfl hg1 d_VL_take_51 ?_
      refine lv_i2b (v := ((c_o1 (x2i : Int32).toNatClampNeg) : Int32).toInt8.toInt32) hx hb d_VL_take_52 rfl ?_
      obtain ⟨hg2, hs⟩ := sm_gd hs
      refine va_bast hx hb hK hP hD hS 1 0 rfl rfl hg2 d_VL_take_53 (fun H2 locs hP hD hS => ?_)
      have hP : va_P (dC, dI) cls [(a_vl, .inr (7, [.ref f_vl_numbers, .int w_vl_isThere, .int v_vl_columns, .int v_vl_bound, .int w_vl_total, .int v_vl_lesser])), (f_vl_numbers, .inl (k_vl_numbers, 12000, .inl (upd u_vl_numbers (((w_vl_total * 6) + x2i) : Int32).toNatClampNeg (vp_nar .byte ((c_o1 (x2i : Int32).toNatClampNeg) : Int32).toInt8.toInt32)))), (f_o1, .inl (k_o1, 6, .inl c_o1))] H2 := hP
      have hD : va_D A [(a_vl, .inr (7, [.ref f_vl_numbers, .int w_vl_isThere, .int v_vl_columns, .int v_vl_bound, .int w_vl_total, .int v_vl_lesser])), (f_vl_numbers, .inl (k_vl_numbers, 12000, .inl (upd u_vl_numbers (((w_vl_total * 6) + x2i) : Int32).toNatClampNeg (vp_nar .byte ((c_o1 (x2i : Int32).toNatClampNeg) : Int32).toInt8.toInt32)))), (f_o1, .inl (k_o1, 6, .inl c_o1))] := hD
      refine lv_iinc (k := 2) (v := (x2i + 1)) hx hb d_VL_take_54 hl rfl (congrArg (fun z : Int32 => x2i + z) (by decide : Int32.ofInt 1 = 1)) (by decide) rfl (fun ls hl => ?_)
      have hl : lv_has ls 3 [(2, .int (x2i + 1)), (0, .ref a_vl), (1, .ref f_o1)] := hl
      refine lv_goto (tgt := 28) hx hb d_VL_take_57 (by decide) ?_
      exact ih _ _ _ _ _ _ _ hs hP hD hS (lv_sub hl [1, 2, 0] rfl)
  · intro key
    cases k8 with
    | zero => cases hs
    | succ k9 =>
      rw [sm_it_succ, fn_VL_take_q0] at hs
      unfold fn_VL_take_b0 at hs
      refine lv_aload_n hx hb d_VL_take_0 rfl (lv_at hl 0 rfl) ?_
      refine lv_aload_n hx hb d_VL_take_1 rfl (lv_at hl 1 rfl) ?_
      obtain ⟨r1, hq1, hs⟩ := sm_bd hs
      have hPc := hP.sub (ws' := [(a_vl, .inr (7, [.ref f_vl_numbers, .int v_vl_isThere, .int v_vl_columns, .int v_vl_bound, .int v_vl_total, .int v_vl_lesser])), (f_vl_numbers, .inl (k_vl_numbers, 12000, .inl c_vl_numbers)), (f_o1, .inl (k_o1, 6, .inl c_o1))]) [0, 1, 2] rfl
      have hDc := hD.sub (ws' := [(a_vl, .inr (7, [.ref f_vl_numbers, .int v_vl_isThere, .int v_vl_columns, .int v_vl_bound, .int v_vl_total, .int v_vl_lesser])), (f_vl_numbers, .inl (k_vl_numbers, 12000, .inl c_vl_numbers)), (f_o1, .inl (k_o1, 6, .inl c_o1))]) [0, 1, 2] (by decide) rfl
      have hKc := hK.sub (tys' := [(k_vl_numbers, .byte), (k_o1, .int)]) [0, 1] rfl
      have hFc := va_free (wc := [(a_vl, .inr (7, [.ref f_vl_numbers, .int v_vl_isThere, .int v_vl_columns, .int v_vl_bound, .int v_vl_total, .int v_vl_lesser])), (f_vl_numbers, .inl (k_vl_numbers, 12000, .inl c_vl_numbers)), (f_o1, .inl (k_o1, 6, .inl c_o1))]) hD hS hA [0, 1, 2] rfl
      refine va_calli (va_runV (As := [.ref f_o1]) (rest := []) ⟨hx, hb, hml, hown, hts⟩ (c_VL_hasOneWithin l dC dI (a_vl) (f_vl_numbers) (v_vl_isThere) (v_vl_columns) (v_vl_bound) (v_vl_total) (v_vl_lesser) (k_vl_numbers) (c_vl_numbers) (f_o1) (k_o1) (c_o1) s.heap.size r1 hq1) (wd_V (C := "LeastSolutions$VectorList") 1 hts k_814 k_10 k_811 k_813 ks_VL_hasOneWithin rfl rfl (by decide +kernel) ⟨Nat.le_of_ble_eq_true rfl, Nat.le_of_ble_eq_true rfl⟩) ⟨fun a U g mk q => by obtain ⟨q0, q1, qP, qK, qD, qN⟩ := q; exact ⟨q0, q1, qP, va_K.moved (u := U) (U := U.calling g mk a) (Vm.Alike.refl U.vm) qK, qD, nw_ok.same (s := U) (U := U.calling g mk a) rfl qN⟩, va_recv (ci := 7) (q0 := 0) hK hP rfl rfl, fun U hU hW => ⟨rfl, by rw [hU], by rw [hU]; exact hPc, va_K.moved hW.alike hKc, hDc.weaken (fun _ _ _ _ => trivial), nw_ok.warm hW hN⟩⟩ rfl rfl hl.1 rfl (lv_room (Nat.le_of_ble_eq_true rfl)) d_VL_take_2 ⟨Nat.le_of_ble_eq_true rfl, Nat.le_of_ble_eq_true rfl⟩) hS (fun q _ h => hFc q h) hFc (fun q1 u t H3 locs ht hvm hr1 hB hz1 hk1 hS => ?_)
      have hr1 := (show q1 = r1 from hr1).symm
      subst hr1
      obtain ⟨hP1, hK1, hD1⟩ := hB
      rw [ht] at hP1
      have hK1 := va_K.moved hvm.symm hK1
      obtain ⟨hP, hD⟩ := va_join (wr := []) (w1 := [(a_vl, .inr (7, [.ref f_vl_numbers, .int v_vl_isThere, .int v_vl_columns, .int v_vl_bound, .int v_vl_total, .int v_vl_lesser])), (f_vl_numbers, .inl (k_vl_numbers, 12000, .inl c_vl_numbers)), (f_o1, .inl (k_o1, 6, .inl c_o1))]) hP hD [0, 1, 2] [] rfl rfl (by decide) (by decide) hk1 hFc hP1 hD1
      have hK := (hK.sub (tys' := []) [] rfl).app hK1
      have hK : va_K (dC, dI) cls [(k_vl_numbers, .byte), (k_o1, .int)] s := hK
      have hP : va_P (dC, dI) cls [(a_vl, .inr (7, [.ref f_vl_numbers, .int v_vl_isThere, .int v_vl_columns, .int v_vl_bound, .int v_vl_total, .int v_vl_lesser])), (f_vl_numbers, .inl (k_vl_numbers, 12000, .inl c_vl_numbers)), (f_o1, .inl (k_o1, 6, .inl c_o1))] H3 := hP
      have hD : va_D A [(a_vl, .inr (7, [.ref f_vl_numbers, .int v_vl_isThere, .int v_vl_columns, .int v_vl_bound, .int v_vl_total, .int v_vl_lesser])), (f_vl_numbers, .inl (k_vl_numbers, 12000, .inl c_vl_numbers)), (f_o1, .inl (k_o1, 6, .inl c_o1))] := hD
      refine lv_if_eq (tgt := 10) hx hb d_VL_take_5 (by decide) (fun hc2 => ?_) (fun hc2 => ?_)
      · have hs := sm_pos hc2 hs
        refine lv_aload_n hx hb d_VL_take_10 rfl (lv_at hl 0 rfl) ?_
        refine va_get (D := (dC, dI)) (ci := 7) (v := .int v_vl_total) (C := R_VL) (T := T_VL) (N := 6) hx hb hts in_VL hown hK hP 0 rfl rfl 4 (by decide) (hts _ k_273) (fun _ h9 => h9) rfl d_VL_take_11 ?_
        refine lv_sipush (v := 2000) hx hb d_VL_take_14 (by decide) ?_
        refine lv_icmp_lt (tgt := 26) hx hb d_VL_take_17 (by decide) (fun hc3 => ?_) (fun hc3 => ?_)
        · have hs := sm_pos hc3 hs
          refine lv_iconst (v := 0) hx hb d_VL_take_26 (by decide) ?_
          refine lv_istore_n hx hb d_VL_take_27 rfl hl (by decide) rfl (fun ls hl => ?_)
          have hl : lv_has ls 3 [(2, .int 0), (0, .ref a_vl), (1, .ref f_o1)] := hl
          exact (key k9) _ _ _ _ _ _ _ hs hP hD hS (lv_sub hl [1, 2, 0] rfl)
        · have hs := sm_neg hc3 hs
          refine lv_aload_n hx hb d_VL_take_20 rfl (lv_at hl 0 rfl) ?_
          obtain ⟨r2, hq2, hs⟩ := sm_bd hs
          have hPc := hP.sub (ws' := [(a_vl, .inr (7, [.ref f_vl_numbers, .int v_vl_isThere, .int v_vl_columns, .int v_vl_bound, .int v_vl_total, .int v_vl_lesser]))]) [0] rfl
          have hDc := hD.sub (ws' := [(a_vl, .inr (7, [.ref f_vl_numbers, .int v_vl_isThere, .int v_vl_columns, .int v_vl_bound, .int v_vl_total, .int v_vl_lesser]))]) [0] (by decide) rfl
          have hKc := hK.sub (tys' := []) [] rfl
          have hFc := va_free (wc := [(a_vl, .inr (7, [.ref f_vl_numbers, .int v_vl_isThere, .int v_vl_columns, .int v_vl_bound, .int v_vl_total, .int v_vl_lesser]))]) hD hS hA [0] rfl
          refine va_callv (va_runV (As := []) (rest := []) ⟨hx, hb, hml, hown, hts⟩ (c_VL_drop l dC dI (a_vl) (f_vl_numbers) (v_vl_isThere) (v_vl_columns) (v_vl_bound) (v_vl_total) (v_vl_lesser) H3.size r2 hq2) (wd_V (C := "LeastSolutions$VectorList") 0 hts k_524 k_10 k_815 k_522 k_523 rfl rfl (by decide +kernel) ⟨Nat.le_of_ble_eq_true rfl, Nat.le_of_ble_eq_true rfl⟩) ⟨fun a U g mk q => by obtain ⟨q0, q1, qP, qK, qD, qN⟩ := q; exact ⟨q0, q1, qP, va_K.moved (u := U) (U := U.calling g mk a) (Vm.Alike.refl U.vm) qK, qD, nw_ok.same (s := U) (U := U.calling g mk a) rfl qN⟩, va_recv (ci := 7) (q0 := 0) hK hP rfl rfl, fun U hU hW => ⟨rfl, by rw [hU], by rw [hU]; exact hPc, va_K.moved hW.alike hKc, hDc.weaken (fun _ _ _ _ => trivial), nw_ok.warm hW hN⟩⟩ rfl rfl hl.1 rfl (lv_room (Nat.le_of_ble_eq_true rfl)) d_VL_take_21 ⟨Nat.le_of_ble_eq_true rfl, Nat.le_of_ble_eq_true rfl⟩) hS (fun q _ h => hFc q h) hFc (fun u t H4 locs ht hvm hr2 hB hz1 hk1 hS => ?_)
          obtain ⟨hP1, hK1, hD1⟩ := hB
          rw [ht] at hP1
          have hK1 := va_K.moved hvm.symm hK1
          obtain ⟨hP, hD⟩ := va_join (wr := [(f_vl_numbers, .inl (k_vl_numbers, 12000, .inl c_vl_numbers)), (f_o1, .inl (k_o1, 6, .inl c_o1))]) (w1 := [(a_vl, .inr (7, [.ref f_vl_numbers, .int r2, .int v_vl_columns, .int v_vl_bound, .int v_vl_total, .int v_vl_lesser]))]) hP hD [0] [1, 2] rfl rfl (by decide) (by decide) hk1 hFc hP1 hD1
          have hK := (hK.sub (tys' := [(k_vl_numbers, .byte), (k_o1, .int)]) [0, 1] rfl).app hK1
          have hK : va_K (dC, dI) cls [(k_vl_numbers, .byte), (k_o1, .int)] s := hK
          have hP : va_P (dC, dI) cls [(f_vl_numbers, .inl (k_vl_numbers, 12000, .inl c_vl_numbers)), (f_o1, .inl (k_o1, 6, .inl c_o1)), (a_vl, .inr (7, [.ref f_vl_numbers, .int r2, .int v_vl_columns, .int v_vl_bound, .int v_vl_total, .int v_vl_lesser]))] H4 := hP
          have hD : va_D A [(f_vl_numbers, .inl (k_vl_numbers, 12000, .inl c_vl_numbers)), (f_o1, .inl (k_o1, 6, .inl c_o1)), (a_vl, .inr (7, [.ref f_vl_numbers, .int r2, .int v_vl_columns, .int v_vl_bound, .int v_vl_total, .int v_vl_lesser]))] := hD
          refine lv_iconst (v := 0) hx hb d_VL_take_24 (by decide) ?_
          have hP := hP.sub (ws' := [(a_vl, .inr (7, [.ref f_vl_numbers, .int r2, .int v_vl_columns, .int v_vl_bound, .int v_vl_total, .int v_vl_lesser])), (f_vl_numbers, .inl (k_vl_numbers, 12000, .inl c_vl_numbers)), (f_o1, .inl (k_o1, 6, .inl c_o1))]) [2, 0, 1] rfl
          have hD := hD.sub (ws' := [(a_vl, .inr (7, [.ref f_vl_numbers, .int r2, .int v_vl_columns, .int v_vl_bound, .int v_vl_total, .int v_vl_lesser])), (f_vl_numbers, .inl (k_vl_numbers, 12000, .inl c_vl_numbers)), (f_o1, .inl (k_o1, 6, .inl c_o1))]) [2, 0, 1] (by decide) rfl
          have he := sm_end hs
          subst he
          exact W.zret (v := 0) (ty := .boolean) hx hb hr (by decide +kernel) (fun t ht hW => ⟨⟨0, (), rfl, rfl, by rw [ht]; exact hP, va_K.moved hW.alike hK, hD⟩, hS.F ht⟩) hS.2.2 d_VL_take_25
      · have hs := sm_neg hc2 hs
        refine lv_iconst (v := 1) hx hb d_VL_take_8 (by decide) ?_
        have he := sm_end hs
        subst he
        exact W.zret (v := 1) (ty := .boolean) hx hb hr (by decide +kernel) (fun t ht hW => ⟨⟨1, (), rfl, rfl, by rw [ht]; exact hP, va_K.moved hW.alike hK, hD⟩, hS.F ht⟩) hS.2.2 d_VL_take_9
