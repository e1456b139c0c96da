noncomputable def fn_MO_thrown_b0 (v_thrown : Int32)  : Option ((Nat) ⊕ (Int32)) := some (.inr v_thrown)
noncomputable def fn_MO_thrown (v_thrown : Int32) : Nat → Option ((Nat) ⊕ (Int32)) := fun st => match st with
  | pc => if pc = 0 then fn_MO_thrown_b0 v_thrown else none
theorem fn_MO_thrown_q0 (v_thrown : Int32)  : fn_MO_thrown v_thrown (0) = fn_MO_thrown_b0 v_thrown := by simp [fn_MO_thrown]
set_option maxHeartbeats 4000000 in
set_option maxRecDepth 100000 in
theorem c_MO_thrown (l : Launch) (dC : Nat → ClassId) (dI : Nat → Nat → Nat) (m0 : Nat) (f_text : Nat) (f_kinds : Nat) (f_places : Nat) (f_values : Nat) (f_draftLetters : Nat) (f_draftNumbers : Nat) (f_draftSigns : Nat) (f_letters : Nat) (f_numbers : Nat) (f_isList : Nat) (f_bounds : Nat) (f_sizes : Nat) (f_lists : Nat) (f_told : Nat) (f_costs : Nat) (f_times : Nat) (f_bestOne : Nat) (f_basis : Nat) (f_one : Nat) (f_along : Nat) (f_now : Nat) (v_thrown : Int32) (v_length : Int32) (v_wrong : Int32) (v_words : Int32) (v_draftVariables : Int32) (v_draftSlacks : Int32) (v_draftRows : Int32) (v_known : Int32) (v_rows : Int32) (v_variables : Int32) (v_columns : Int32) (v_isSplit : Int32) (v_isBest : Int32) (v_vectors : Int32) (v_isOne : Int32) (sz : Nat) (out : Int32) (hs : sm_tot (fn_MO_thrown v_thrown) 0 = some out) : Met l y_MO_thrown (Cond.code y_MO_thrown b_MO_thrown 1 (Option.some Jvm.ClassFile.FieldType.int) :: wd) { frames := 0, cells := 0, slots := 0, locals := 0 } (va_Pc [.ref m0] (fun U => U.heap.size = sz ∧ va_P (dC, dI) cls [(m0, .inr (9, [.int v_thrown, .ref f_text, .int v_length, .int v_wrong, .ref f_kinds, .ref f_places, .ref f_values, .int v_words, .ref f_draftLetters, .int v_draftVariables, .int v_draftSlacks, .int v_draftRows, .ref f_draftNumbers, .ref f_draftSigns, .int v_known, .int v_rows, .int v_variables, .int v_columns, .ref f_letters, .ref f_numbers, .ref f_isList, .ref f_bounds, .ref f_sizes, .ref f_lists, .ref f_told, .ref f_costs, .int v_isSplit, .ref f_times, .int v_isBest, .ref f_bestOne, .ref f_basis, .int v_vectors, .ref f_one, .int v_isOne, .ref f_along, .ref f_now]))] U.heap ∧ va_K (dC, dI) cls [] U ∧ va_D (fun _ => True) [(m0, .inr (9, [.int v_thrown, .ref f_text, .int v_length, .int v_wrong, .ref f_kinds, .ref f_places, .ref f_values, .int v_words, .ref f_draftLetters, .int v_draftVariables, .int v_draftSlacks, .int v_draftRows, .ref f_draftNumbers, .ref f_draftSigns, .int v_known, .int v_rows, .int v_variables, .int v_columns, .ref f_letters, .ref f_numbers, .ref f_isList, .ref f_bounds, .ref f_sizes, .ref f_lists, .ref f_told, .ref f_costs, .int v_isSplit, .ref f_times, .int v_isBest, .ref f_bestOne, .ref f_basis, .int v_vectors, .ref f_one, .int v_isOne, .ref f_along, .ref f_now]))] ∧ nw_ok U)) (va_Qi (fun r (_ : Unit) => r = out) (fun (_ : Unit) t => va_P (dC, dI) cls [(m0, .inr (9, [.int v_thrown, .ref f_text, .int v_length, .int v_wrong, .ref f_kinds, .ref f_places, .ref f_values, .int v_words, .ref f_draftLetters, .int v_draftVariables, .int v_draftSlacks, .int v_draftRows, .ref f_draftNumbers, .ref f_draftSigns, .int v_known, .int v_rows, .int v_variables, .int v_columns, .ref f_letters, .ref f_numbers, .ref f_isList, .ref f_bounds, .ref f_sizes, .ref f_lists, .ref f_told, .ref f_costs, .int v_isSplit, .ref f_times, .int v_isBest, .ref f_bestOne, .ref f_basis, .int v_vectors, .ref f_one, .int v_isOne, .ref f_along, .ref f_now]))] t.heap ∧ va_K (dC, dI) cls [] t ∧ va_D (va_A [(m0, .inr (9, [.int v_thrown, .ref f_text, .int v_length, .int v_wrong, .ref f_kinds, .ref f_places, .ref f_values, .int v_words, .ref f_draftLetters, .int v_draftVariables, .int v_draftSlacks, .int v_draftRows, .ref f_draftNumbers, .ref f_draftSigns, .int v_known, .int v_rows, .int v_variables, .int v_columns, .ref f_letters, .ref f_numbers, .ref f_isList, .ref f_bounds, .ref f_sizes, .ref f_lists, .ref f_told, .ref f_costs, .int v_isSplit, .ref f_times, .int v_isBest, .ref f_bestOne, .ref f_basis, .int v_vectors, .ref f_one, .int v_isOne, .ref f_along, .ref f_now]))] sz) [(m0, .inr (9, [.int v_thrown, .ref f_text, .int v_length, .int v_wrong, .ref f_kinds, .ref f_places, .ref f_values, .int v_words, .ref f_draftLetters, .int v_draftVariables, .int v_draftSlacks, .int v_draftRows, .ref f_draftNumbers, .ref f_draftSigns, .int v_known, .int v_rows, .int v_variables, .int v_columns, .ref f_letters, .ref f_numbers, .ref f_isList, .ref f_bounds, .ref f_sizes, .ref f_lists, .ref f_told, .ref f_costs, .int v_isSplit, .ref f_times, .int v_isBest, .ref f_bestOne, .ref f_basis, .int v_vectors, .ref f_one, .int v_isOne, .ref f_along, .ref f_now]))]) (va_A [(m0, .inr (9, [.int v_thrown, .ref f_text, .int v_length, .int v_wrong, .ref f_kinds, .ref f_places, .ref f_values, .int v_words, .ref f_draftLetters, .int v_draftVariables, .int v_draftSlacks, .int v_draftRows, .ref f_draftNumbers, .ref f_draftSigns, .int v_known, .int v_rows, .int v_variables, .int v_columns, .ref f_letters, .ref f_numbers, .ref f_isList, .ref f_bounds, .ref f_sizes, .ref f_lists, .ref f_told, .ref f_costs, .int v_isSplit, .ref f_times, .int v_isBest, .ref f_bestOne, .ref f_basis, .int v_vectors, .ref f_one, .int v_isOne, .ref f_along, .ref f_now]))] sz)) 0 0 (va_A [(m0, .inr (9, [.int v_thrown, .ref f_text, .int v_length, .int v_wrong, .ref f_kinds, .ref f_places, .ref f_values, .int v_words, .ref f_draftLetters, .int v_draftVariables, .int v_draftSlacks, .int v_draftRows, .ref f_draftNumbers, .ref f_draftSigns, .int v_known, .int v_rows, .int v_variables, .int v_columns, .ref f_letters, .ref f_numbers, .ref f_isList, .ref f_bounds, .ref f_sizes, .ref f_lists, .ref f_told, .ref f_costs, .int v_isSplit, .ref f_times, .int v_isBest, .ref f_bestOne, .ref f_basis, .int v_vectors, .ref f_one, .int v_isOne, .ref f_along, .ref f_now]))] sz) := by
  refine Met.ofW (cc := b_MO_thrown) (maxL := 1) (ret := (Option.some Jvm.ClassFile.FieldType.int)) (by decide) rfl ?_
  intro p e s m args below meth c s₁ B hml hv
  obtain ⟨rfl, hsz, hP, hK, hD0, hN⟩ := hv
  have hx := B.exec
  have hb := B.bytes
  have hr := B.returns
  have hlocks := B.notSynchronized
  have hts : ∀ w ∈ wd, w.before ([.ref m0] : List Value).toArray s = true := fun w hw => atoms_spec (ws := (Cond.code y_MO_thrown b_MO_thrown 1 (Option.some Jvm.ClassFile.FieldType.int) :: wd)) B.pre w (List.mem_cons_of_mem _ hw)
  have hown : s.vm.findClass "LeastSolutionsModel" = some m.cls := findClass_of_methodNamed B.named
  subst hsz
  have hD := hD0.self (sz := s.heap.size)
  generalize hAe : va_A [(m0, .inr (9, [.int v_thrown, .ref f_text, .int v_length, .int v_wrong, .ref f_kinds, .ref f_places, .ref f_values, .int v_words, .ref f_draftLetters, .int v_draftVariables, .int v_draftSlacks, .int v_draftRows, .ref f_draftNumbers, .ref f_draftSigns, .int v_known, .int v_rows, .int v_variables, .int v_columns, .ref f_letters, .ref f_numbers, .ref f_isList, .ref f_bounds, .ref f_sizes, .ref f_lists, .ref f_told, .ref f_costs, .int v_isSplit, .ref f_times, .int v_isBest, .ref f_bestOne, .ref f_basis, .int v_vectors, .ref f_one, .int v_isOne, .ref f_along, .ref f_now]))] s.heap.size = A at hD ⊢
  have hA : ∀ q : Nat, s.heap.size ≤ q → A q := fun q h => by rw [← hAe]; exact Or.inr h
  have hS : va_S A s.heap s.heap [] := va_S.rf
  have hl := lv_entry ([.ref m0]) (n := 1) (Nat.le_of_ble_eq_true rfl)
  rw [lg_entry_eq]
  generalize (lg_sl ([.ref m0]) ++ List.replicate (1 - (lg_sl ([.ref m0])).length) Slot.unset).toArray = ls at hl ⊢
  have hl : lv_has ls 1 [(0, .ref m0)] := hl
  obtain ⟨k8, hs⟩ := sm_of hs
  cases k8 with
  | zero => cases hs
  | succ k9 =>
    rw [sm_it_succ, fn_MO_thrown_q0] at hs
    unfold fn_MO_thrown_b0 at hs
    refine lv_aload_n hx hb d_MO_thrown_0 rfl (lv_at hl 0 rfl) ?_
    refine va_get (D := (dC, dI)) (ci := 9) (v := .int v_thrown) (C := R_MO) (T := T_MO) (N := 36) hx hb hts in_MO hown hK hP 0 rfl rfl 0 (by decide) (hts _ k_886) (fun _ h9 => h9) rfl d_MO_thrown_1 ?_
    have he := sm_end hs
    subst he
    exact W.iret (v := v_thrown) hx hb hr (fun t ht hW => ⟨⟨v_thrown, (), rfl, rfl, by rw [ht]; exact hP, va_K.moved hW.alike hK, hD⟩, hS.F ht⟩) hS.2.2 d_MO_thrown_4

noncomputable def fn_MO_size_b0 (a1 : Int64) (_z0 : Int64) : Option ((Nat × Int64) ⊕ (Int64)) := if (0 : Int32) ≤ (lg_cmp a1 0) then (some (.inl (12, a1))) else (some (.inl (12, (-a1))))
noncomputable def fn_MO_size_b12 (a1 : Int64) (s0j : Int64) : Option ((Nat × Int64) ⊕ (Int64)) := some (.inr s0j)
noncomputable def fn_MO_size (a1 : Int64) : Nat × Int64 → Option ((Nat × Int64) ⊕ (Int64)) := fun st => match st with
  | (pc, s0j) => if pc = 0 then fn_MO_size_b0 a1 s0j else if pc = 12 then fn_MO_size_b12 a1 s0j else none
theorem fn_MO_size_q0 (a1 : Int64) (s0j : Int64) : fn_MO_size a1 (0, s0j) = fn_MO_size_b0 a1 s0j := by simp [fn_MO_size]
theorem fn_MO_size_q12 (a1 : Int64) (s0j : Int64) : fn_MO_size a1 (12, s0j) = fn_MO_size_b12 a1 s0j := by simp [fn_MO_size]
set_option maxHeartbeats 4000000 in
set_option maxRecDepth 100000 in
theorem c_MO_size (l : Launch) (dC : Nat → ClassId) (dI : Nat → Nat → Nat) (a1 : Int64) (sz : Nat) (out : Int64) (hs : sm_tot (fn_MO_size a1) (0, 0) = some out) : Met l y_MO_size (Cond.code y_MO_size b_MO_size 2 (Option.some Jvm.ClassFile.FieldType.long) :: wd) { frames := 0, cells := 0, slots := 0, locals := 0 } (va_Pc [.long a1] (fun U => U.heap.size = sz ∧ va_P (dC, dI) cls [] U.heap ∧ va_K (dC, dI) cls [] U ∧ va_D (fun _ => True) [] ∧ nw_ok U)) (va_Ql (fun r (_ : Unit) => r = out) (fun (_ : Unit) t => va_P (dC, dI) cls [] t.heap ∧ va_K (dC, dI) cls [] t ∧ va_D (va_A [] sz) []) (va_A [] sz)) 0 0 (va_A [] sz) := by
  refine Met.ofW (cc := b_MO_size) (maxL := 2) (ret := (Option.some Jvm.ClassFile.FieldType.long)) (by decide) rfl ?_
  intro p e s m args below meth c s₁ B hml hv
  obtain ⟨rfl, hsz, hP, hK, hD0, hN⟩ := hv
  have hx := B.exec
  have hb := B.bytes
  have hr := B.returns
  have hlocks := B.notSynchronized
  have hts : ∀ w ∈ wd, w.before ([.long a1] : List Value).toArray s = true := fun w hw => atoms_spec (ws := (Cond.code y_MO_size b_MO_size 2 (Option.some Jvm.ClassFile.FieldType.long) :: wd)) B.pre w (List.mem_cons_of_mem _ hw)
  have hown : s.vm.findClass "LeastSolutionsModel" = some m.cls := findClass_of_methodNamed B.named
  subst hsz
  have hD := hD0.self (sz := s.heap.size)
  generalize hAe : va_A [] s.heap.size = A at hD ⊢
  have hA : ∀ q : Nat, s.heap.size ≤ q → A q := fun q h => by rw [← hAe]; exact Or.inr h
  have hS : va_S A s.heap s.heap [] := va_S.rf
  have hl := lv_entry ([.long a1]) (n := 2) (Nat.le_of_ble_eq_true rfl)
  rw [lg_entry_eq]
  generalize (lg_sl ([.long a1]) ++ List.replicate (2 - (lg_sl ([.long a1])).length) Slot.unset).toArray = ls at hl ⊢
  have hl : lv_has ls 2 [(0, .long a1)] := hl
  obtain ⟨k8, hs⟩ := sm_of hs
  refine sm_key (fun R Q k9 => (∀ (H : Heap) (locs : List Loc) (ls : Array Slot) (s0j : Int64), sm_it (fn_MO_size a1) k9 (12, s0j) = some out → va_P (dC, dI) cls [] H → va_D A [] → va_S A s.heap H locs → lv_has ls 2 [] → W p l e R s m ([.long a1] : List Value).toArray below meth c H locs 0 0 Q (F0 m 12 ls [.long s0j]))) ?_ ?_ ?_
  · exact fun _ _ _ _ hs => by cases hs
  · intro k9 ih
    skip
    intro H locs ls s0j hs hP hD hS hl
    rw [sm_it_succ, fn_MO_size_q12] at hs
    unfold fn_MO_size_b12 at hs
    have he := sm_end hs
    subst he
    exact W.lret (v := s0j) hx hb hr (fun t ht hW => ⟨⟨s0j, (), rfl, rfl, by rw [ht]; exact hP, va_K.moved hW.alike hK, hD⟩, hS.F ht⟩) hS.2.2 d_MO_size_12
  · intro key
    cases k8 with
    | zero => cases hs
    | succ k9 =>
      rw [sm_it_succ, fn_MO_size_q0] at hs
      unfold fn_MO_size_b0 at hs
      refine lv_lload_n hx hb d_MO_size_0 rfl (lv_at hl 0 rfl) ?_
      refine lv_lconst (v := 0) hx hb d_MO_size_1 (by decide) ?_
      refine W.lcmp hx hb d_MO_size_2 ?_
      refine lv_if_ge (tgt := 11) hx hb d_MO_size_3 (by decide) (fun hc1 => ?_) (fun hc1 => ?_)
      · have hs := sm_pos hc1 hs
        refine lv_lload_n hx hb d_MO_size_11 rfl (lv_at hl 0 rfl) ?_
        exact (key k9) _ _ _ _ hs hP hD hS (lv_sub hl [] rfl)
      · have hs := sm_neg hc1 hs
        refine lv_lload_n hx hb d_MO_size_6 rfl (lv_at hl 0 rfl) ?_
        refine lv_lneg hx hb d_MO_size_7 ?_
        refine lv_goto (tgt := 12) hx hb d_MO_size_8 (by decide) ?_
        exact (key k9) _ _ _ _ hs hP hD hS (lv_sub hl [] rfl)

noncomputable def fn_MO_dot_b0 (a1 : Int32) (n_o1 : Nat) (c_o1 : Nat → Int64) (a3 : Int32) (v_columns : Int32) (c_numbers : Nat → Int32) (_z0 : Int64) (_z1 : Int32) : Option ((Nat × Int64 × Int32) ⊕ (Int64)) := some (.inl (6, 0, 0))
noncomputable def fn_MO_dot_b6 (a1 : Int32) (n_o1 : Nat) (c_o1 : Nat → Int64) (a3 : Int32) (v_columns : Int32) (c_numbers : Nat → Int32) (x4j : Int64) (x6i : Int32) : Option ((Nat × Int64 × Int32) ⊕ (Int64)) := if (v_columns : Int32) ≤ x6i then (some (.inr x4j)) else (if ¬ ((((7 * a1) + x6i) : Int32) < 0 ∨ 28 ≤ (((7 * a1) + x6i) : Int32).toNatClampNeg) then if ¬ (((a3 + x6i) : Int32) < 0 ∨ n_o1 ≤ ((a3 + x6i) : Int32).toNatClampNeg) then some (.inl (6, (x4j + (((c_numbers (((7 * a1) + x6i) : Int32).toNatClampNeg) : Int32).toInt64 * (c_o1 ((a3 + x6i) : Int32).toNatClampNeg))), (x6i + 1))) else none else none)
noncomputable def fn_MO_dot (a1 : Int32) (n_o1 : Nat) (c_o1 : Nat → Int64) (a3 : Int32) (v_columns : Int32) (c_numbers : Nat → Int32) : Nat × Int64 × Int32 → Option ((Nat × Int64 × Int32) ⊕ (Int64)) := fun st => match st with
  | (pc, x4j, x6i) => if pc = 0 then fn_MO_dot_b0 a1 n_o1 c_o1 a3 v_columns c_numbers x4j x6i else if pc = 6 then fn_MO_dot_b6 a1 n_o1 c_o1 a3 v_columns c_numbers x4j x6i else none
theorem fn_MO_dot_q0 (a1 : Int32) (n_o1 : Nat) (c_o1 : Nat → Int64) (a3 : Int32) (v_columns : Int32) (c_numbers : Nat → Int32) (x4j : Int64) (x6i : Int32) : fn_MO_dot a1 n_o1 c_o1 a3 v_columns c_numbers (0, x4j, x6i) = fn_MO_dot_b0 a1 n_o1 c_o1 a3 v_columns c_numbers x4j x6i := by simp [fn_MO_dot]
theorem fn_MO_dot_q6 (a1 : Int32) (n_o1 : Nat) (c_o1 : Nat → Int64) (a3 : Int32) (v_columns : Int32) (c_numbers : Nat → Int32) (x4j : Int64) (x6i : Int32) : fn_MO_dot a1 n_o1 c_o1 a3 v_columns c_numbers (6, x4j, x6i) = fn_MO_dot_b6 a1 n_o1 c_o1 a3 v_columns c_numbers x4j x6i := by simp [fn_MO_dot]
set_option maxHeartbeats 4000000 in
set_option maxRecDepth 100000 in
theorem c_MO_dot (l : Launch) (dC : Nat → ClassId) (dI : Nat → Nat → Nat) (m0 : Nat) (f_text : Nat) (f_kinds : Nat) (f_places : Nat) (f_values : Nat) (f_draftLetters : Nat) (f_draftNumbers : Nat) (f_draftSigns : Nat) (f_letters : Nat) (f_numbers : Nat) (f_isList : Nat) (f_bounds : Nat) (f_sizes : Nat) (f_lists : Nat) (f_told : Nat) (f_costs : Nat) (f_times : Nat) (f_bestOne : Nat) (f_basis : Nat) (f_one : Nat) (f_along : Nat) (f_now : Nat) (v_thrown : Int32) (v_length : Int32) (v_wrong : Int32) (v_words : Int32) (v_draftVariables : Int32) (v_draftSlacks : Int32) (v_draftRows : Int32) (v_known : Int32) (v_rows : Int32) (v_variables : Int32) (v_columns : Int32) (v_isSplit : Int32) (v_isBest : Int32) (v_vectors : Int32) (v_isOne : Int32) (k_numbers : ClassId) (c_numbers : Nat → Int32) (a1 : Int32) (o1 : Nat) (k_o1 : ClassId) (n_o1 : Nat) (c_o1 : Nat → Int64) (a3 : Int32) (sz : Nat) (out : Int64) (hs : sm_tot (fn_MO_dot a1 n_o1 c_o1 a3 v_columns c_numbers) (0, 0, 0) = some out) : Met l y_MO_dot (Cond.code y_MO_dot b_MO_dot 7 (Option.some Jvm.ClassFile.FieldType.long) :: wd) { frames := 0, cells := 0, slots := 0, locals := 0 } (va_Pc [.ref m0, .int a1, .ref o1, .int a3] (fun U => U.heap.size = sz ∧ va_P (dC, dI) cls [(m0, .inr (9, [.int v_thrown, .ref f_text, .int v_length, .int v_wrong, .ref f_kinds, .ref f_places, .ref f_values, .int v_words, .ref f_draftLetters, .int v_draftVariables, .int v_draftSlacks, .int v_draftRows, .ref f_draftNumbers, .ref f_draftSigns, .int v_known, .int v_rows, .int v_variables, .int v_columns, .ref f_letters, .ref f_numbers, .ref f_isList, .ref f_bounds, .ref f_sizes, .ref f_lists, .ref f_told, .ref f_costs, .int v_isSplit, .ref f_times, .int v_isBest, .ref f_bestOne, .ref f_basis, .int v_vectors, .ref f_one, .int v_isOne, .ref f_along, .ref f_now])), (f_numbers, .inl (k_numbers, 28, .inl c_numbers)), (o1, .inl (k_o1, n_o1, .inr (.inl c_o1)))] U.heap ∧ va_K (dC, dI) cls [(k_numbers, .int), (k_o1, .long)] U ∧ va_D (fun _ => True) [(m0, .inr (9, [.int v_thrown, .ref f_text, .int v_length, .int v_wrong, .ref f_kinds, .ref f_places, .ref f_values, .int v_words, .ref f_draftLetters, .int v_draftVariables, .int v_draftSlacks, .int v_draftRows, .ref f_draftNumbers, .ref f_draftSigns, .int v_known, .int v_rows, .int v_variables, .int v_columns, .ref f_letters, .ref f_numbers, .ref f_isList, .ref f_bounds, .ref f_sizes, .ref f_lists, .ref f_told, .ref f_costs, .int v_isSplit, .ref f_times, .int v_isBest, .ref f_bestOne, .ref f_basis, .int v_vectors, .ref f_one, .int v_isOne, .ref f_along, .ref f_now])), (f_numbers, .inl (k_numbers, 28, .inl c_numbers)), (o1, .inl (k_o1, n_o1, .inr (.inl c_o1)))] ∧ nw_ok U)) (va_Ql (fun r (_ : Unit) => r = out) (fun (_ : Unit) t => va_P (dC, dI) cls [(m0, .inr (9, [.int v_thrown, .ref f_text, .int v_length, .int v_wrong, .ref f_kinds, .ref f_places, .ref f_values, .int v_words, .ref f_draftLetters, .int v_draftVariables, .int v_draftSlacks, .int v_draftRows, .ref f_draftNumbers, .ref f_draftSigns, .int v_known, .int v_rows, .int v_variables, .int v_columns, .ref f_letters, .ref f_numbers, .ref f_isList, .ref f_bounds, .ref f_sizes, .ref f_lists, .ref f_told, .ref f_costs, .int v_isSplit, .ref f_times, .int v_isBest, .ref f_bestOne, .ref f_basis, .int v_vectors, .ref f_one, .int v_isOne, .ref f_along, .ref f_now])), (f_numbers, .inl (k_numbers, 28, .inl c_numbers)), (o1, .inl (k_o1, n_o1, .inr (.inl c_o1)))] t.heap ∧ va_K (dC, dI) cls [(k_numbers, .int), (k_o1, .long)] t ∧ va_D (va_A [(m0, .inr (9, [.int v_thrown, .ref f_text, .int v_length, .int v_wrong, .ref f_kinds, .ref f_places, .ref f_values, .int v_words, .ref f_draftLetters, .int v_draftVariables, .int v_draftSlacks, .int v_draftRows, .ref f_draftNumbers, .ref f_draftSigns, .int v_known, .int v_rows, .int v_variables, .int v_columns, .ref f_letters, .ref f_numbers, .ref f_isList, .ref f_bounds, .ref f_sizes, .ref f_lists, .ref f_told, .ref f_costs, .int v_isSplit, .ref f_times, .int v_isBest, .ref f_bestOne, .ref f_basis, .int v_vectors, .ref f_one, .int v_isOne, .ref f_along, .ref f_now])), (f_numbers, .inl (k_numbers, 28, .inl c_numbers)), (o1, .inl (k_o1, n_o1, .inr (.inl c_o1)))] sz) [(m0, .inr (9, [.int v_thrown, .ref f_text, .int v_length, .int v_wrong, .ref f_kinds, .ref f_places, .ref f_values, .int v_words, .ref f_draftLetters, .int v_draftVariables, .int v_draftSlacks, .int v_draftRows, .ref f_draftNumbers, .ref f_draftSigns, .int v_known, .int v_rows, .int v_variables, .int v_columns, .ref f_letters, .ref f_numbers, .ref f_isList, .ref f_bounds, .ref f_sizes, .ref f_lists, .ref f_told, .ref f_costs, .int v_isSplit, .ref f_times, .int v_isBest, .ref f_bestOne, .ref f_basis, .int v_vectors, .ref f_one, .int v_isOne, .ref f_along, .ref f_now])), (f_numbers, .inl (k_numbers, 28, .inl c_numbers)), (o1, .inl (k_o1, n_o1, .inr (.inl c_o1)))]) (va_A [(m0, .inr (9, [.int v_thrown, .ref f_text, .int v_length, .int v_wrong, .ref f_kinds, .ref f_places, .ref f_values, .int v_words, .ref f_draftLetters, .int v_draftVariables, .int v_draftSlacks, .int v_draftRows, .ref f_draftNumbers, .ref f_draftSigns, .int v_known, .int v_rows, .int v_variables, .int v_columns, .ref f_letters, .ref f_numbers, .ref f_isList, .ref f_bounds, .ref f_sizes, .ref f_lists, .ref f_told, .ref f_costs, .int v_isSplit, .ref f_times, .int v_isBest, .ref f_bestOne, .ref f_basis, .int v_vectors, .ref f_one, .int v_isOne, .ref f_along, .ref f_now])), (f_numbers, .inl (k_numbers, 28, .inl c_numbers)), (o1, .inl (k_o1, n_o1, .inr (.inl c_o1)))] sz)) 0 0 (va_A [(m0, .inr (9, [.int v_thrown, .ref f_text, .int v_length, .int v_wrong, .ref f_kinds, .ref f_places, .ref f_values, .int v_words, .ref f_draftLetters, .int v_draftVariables, .int v_draftSlacks, .int v_draftRows, .ref f_draftNumbers, .ref f_draftSigns, .int v_known, .int v_rows, .int v_variables, .int v_columns, .ref f_letters, .ref f_numbers, .ref f_isList, .ref f_bounds, .ref f_sizes, .ref f_lists, .ref f_told, .ref f_costs, .int v_isSplit, .ref f_times, .int v_isBest, .ref f_bestOne, .ref f_basis, .int v_vectors, .ref f_one, .int v_isOne, .ref f_along, .ref f_now])), (f_numbers, .inl (k_numbers, 28, .inl c_numbers)), (o1, .inl (k_o1, n_o1, .inr (.inl c_o1)))] sz) := by
  refine Met.ofW (cc := b_MO_dot) (maxL := 7) (ret := (Option.some Jvm.ClassFile.FieldType.long)) (by decide) rfl ?_
  intro p e s m args below meth c s₁ B hml hv
  obtain ⟨rfl, hsz, hP, hK, hD0, hN⟩ := hv
  have hx := B.exec
  have hb := B.bytes
  have hr := B.returns
  have hlocks := B.notSynchronized
  have hts : ∀ w ∈ wd, w.before ([.ref m0, .int a1, .ref o1, .int a3] : List Value).toArray s = true := fun w hw => atoms_spec (ws := (Cond.code y_MO_dot b_MO_dot 7 (Option.some Jvm.ClassFile.FieldType.long) :: wd)) B.pre w (List.mem_cons_of_mem _ hw)
  have hown : s.vm.findClass "LeastSolutionsModel" = some m.cls := findClass_of_methodNamed B.named
  subst hsz
  have hD := hD0.self (sz := s.heap.size)
  generalize hAe : va_A [(m0, .inr (9, [.int v_thrown, .ref f_text, .int v_length, .int v_wrong, .ref f_kinds, .ref f_places, .ref f_values, .int v_words, .ref f_draftLetters, .int v_draftVariables, .int v_draftSlacks, .int v_draftRows, .ref f_draftNumbers, .ref f_draftSigns, .int v_known, .int v_rows, .int v_variables, .int v_columns, .ref f_letters, .ref f_numbers, .ref f_isList, .ref f_bounds, .ref f_sizes, .ref f_lists, .ref f_told, .ref f_costs, .int v_isSplit, .ref f_times, .int v_isBest, .ref f_bestOne, .ref f_basis, .int v_vectors, .ref f_one, .int v_isOne, .ref f_along, .ref f_now])), (f_numbers, .inl (k_numbers, 28, .inl c_numbers)), (o1, .inl (k_o1, n_o1, .inr (.inl c_o1)))] s.heap.size = A at hD ⊢
  have hA : ∀ q : Nat, s.heap.size ≤ q → A q := fun q h => by rw [← hAe]; exact Or.inr h
  have hS : va_S A s.heap s.heap [] := va_S.rf
  have hl := lv_entry ([.ref m0, .int a1, .ref o1, .int a3]) (n := 7) (Nat.le_of_ble_eq_true rfl)
  rw [lg_entry_eq]
  generalize (lg_sl ([.ref m0, .int a1, .ref o1, .int a3]) ++ List.replicate (7 - (lg_sl ([.ref m0, .int a1, .ref o1, .int a3])).length) Slot.unset).toArray = ls at hl ⊢
  have hl : lv_has ls 7 [(0, .ref m0), (1, .int a1), (2, .ref o1), (3, .int a3)] := hl
  obtain ⟨k8, hs⟩ := sm_of hs
  refine sm_key (fun R Q k9 => (∀ (H : Heap) (locs : List Loc) (ls : Array Slot) (x4j : Int64) (x6i : Int32), sm_it (fn_MO_dot a1 n_o1 c_o1 a3 v_columns c_numbers) k9 (6, x4j, x6i) = some out → va_P (dC, dI) cls [(m0, .inr (9, [.int v_thrown, .ref f_text, .int v_length, .int v_wrong, .ref f_kinds, .ref f_places, .ref f_values, .int v_words, .ref f_draftLetters, .int v_draftVariables, .int v_draftSlacks, .int v_draftRows, .ref f_draftNumbers, .ref f_draftSigns, .int v_known, .int v_rows, .int v_variables, .int v_columns, .ref f_letters, .ref f_numbers, .ref f_isList, .ref f_bounds, .ref f_sizes, .ref f_lists, .ref f_told, .ref f_costs, .int v_isSplit, .ref f_times, .int v_isBest, .ref f_bestOne, .ref f_basis, .int v_vectors, .ref f_one, .int v_isOne, .ref f_along, .ref f_now])), (f_numbers, .inl (k_numbers, 28, .inl c_numbers)), (o1, .inl (k_o1, n_o1, .inr (.inl c_o1)))] H → va_D A [(m0, .inr (9, [.int v_thrown, .ref f_text, .int v_length, .int v_wrong, .ref f_kinds, .ref f_places, .ref f_values, .int v_words, .ref f_draftLetters, .int v_draftVariables, .int v_draftSlacks, .int v_draftRows, .ref f_draftNumbers, .ref f_draftSigns, .int v_known, .int v_rows, .int v_variables, .int v_columns, .ref f_letters, .ref f_numbers, .ref f_isList, .ref f_bounds, .ref f_sizes, .ref f_lists, .ref f_told, .ref f_costs, .int v_isSplit, .ref f_times, .int v_isBest, .ref f_bestOne, .ref f_basis, .int v_vectors, .ref f_one, .int v_isOne, .ref f_along, .ref f_now])), (f_numbers, .inl (k_numbers, 28, .inl c_numbers)), (o1, .inl (k_o1, n_o1, .inr (.inl c_o1)))] → va_S A s.heap H locs → lv_has ls 7 [(0, .ref m0), (1, .int a1), (2, .ref o1), (3, .int a3), (4, .long x4j), (6, .int x6i)] → W p l e R s m ([.ref m0, .int a1, .ref o1, .int a3] : List Value).toArray below meth c H locs 0 0 Q (F0 m 6 ls []))) ?_ ?_ ?_
  · exact fun _ _ _ _ _ hs => by cases hs
  · intro k9 ih
    skip
    intro H locs ls x4j x6i hs hP hD hS hl
    rw [sm_it_succ, fn_MO_dot_q6] at hs
    unfold fn_MO_dot_b6 at hs
    refine lv_iload hx hb d_MO_dot_6 (lv_at hl 5 rfl) ?_
    refine lv_aload_n hx hb d_MO_dot_8 rfl (lv_at hl 0 rfl) ?_
    refine va_get (D := (dC, dI)) (ci := 9) (v := .int v_columns) (C := R_MO) (T := T_MO) (N := 36) hx hb hts in_MO hown hK hP 0 rfl rfl 17 (by decide) (hts _ k_903) (fun _ h9 => h9) rfl d_MO_dot_9 ?_
    refine lv_icmp_ge (tgt := 46) hx hb d_MO_dot_12 (by decide) (fun hc1 => ?_) (fun hc1 => ?_)
    · have hs := sm_pos hc1 hs
      refine lv_lload hx hb d_MO_dot_46 (lv_at hl 4 rfl) ?_
      have he := sm_end hs
      subst he
      exact W.lret (v := x4j) hx hb hr (fun t ht hW => ⟨⟨x4j, (), rfl, rfl, by rw [ht]; exact hP, va_K.moved hW.alike hK, hD⟩, hS.F ht⟩) hS.2.2 d_MO_dot_48
    · have hs := sm_neg hc1 hs
      refine lv_lload hx hb d_MO_dot_15 (lv_at hl 4 rfl) ?_
      refine lv_aload_n hx hb d_MO_dot_17 rfl (lv_at hl 0 rfl) ?_
      refine va_get (D := (dC, dI)) (ci := 9) (v := .ref f_numbers) (C := R_MO) (T := T_MO) (N := 36) hx hb hts in_MO hown hK hP 0 rfl rfl 19 (by decide) (hts _ k_905) (fun _ h9 => h9) rfl d_MO_dot_18 ?_
      refine lv_bipush (v := 7) hx hb d_MO_dot_21 (by decide) ?_
      refine lv_iload_n hx hb d_MO_dot_23 rfl (lv_at hl 1 rfl) ?_
      refine lv_imul hx hb d_MO_dot_24 ?_
      refine lv_iload hx hb d_MO_dot_25 (lv_at hl 5 rfl) ?_
      refine lv_iadd hx hb d_MO_dot_27 ?_
      obtain ⟨hg1, hs⟩ := sm_gd hs
      refine va_iald hx hb hK hP 1 0 rfl rfl hg1 d_MO_dot_28 ?_
      refine lv_i2l (v := ((c_numbers (((7 * a1) + x6i) : Int32).toNatClampNeg) : Int32).toInt64) hx hb d_MO_dot_29 rfl ?_
      refine lv_aload_n hx hb d_MO_dot_30 rfl (lv_at hl 2 rfl) ?_
      refine lv_iload_n hx hb d_MO_dot_31 rfl (lv_at hl 3 rfl) ?_
      refine lv_iload hx hb d_MO_dot_32 (lv_at hl 5 rfl) ?_
      refine lv_iadd hx hb d_MO_dot_34 ?_
      obtain ⟨hg2, hs⟩ := sm_gd hs
      refine va_lald hx hb hK hP 2 1 rfl rfl hg2 d_MO_dot_35 ?_
      refine lv_lmul hx hb d_MO_dot_36 ?_
      refine lv_ladd hx hb d_MO_dot_37 ?_
      refine lv_lstore hx hb d_MO_dot_38 hl (by decide) rfl (fun ls hl => ?_)
      have hl : lv_has ls 7 [(4, .long (x4j + (((c_numbers (((7 * a1) + x6i) : Int32).toNatClampNeg) : Int32).toInt64 * (c_o1 ((a3 + x6i) : Int32).toNatClampNeg)))), (0, .ref m0), (1, .int a1), (2, .ref o1), (3, .int a3), (6, .int x6i)] := hl
      refine lv_iinc (k := 5) (v := (x6i + 1)) hx hb d_MO_dot_40 hl rfl (congrArg (fun z : Int32 => x6i + z) (by decide : Int32.ofInt 1 = 1)) (by decide) rfl (fun ls hl => ?_)
      have hl : lv_has ls 7 [(6, .int (x6i + 1)), (4, .long (x4j + (((c_numbers (((7 * a1) + x6i) : Int32).toNatClampNeg) : Int32).toInt64 * (c_o1 ((a3 + x6i) : Int32).toNatClampNeg)))), (0, .ref m0), (1, .int a1), (2, .ref o1), (3, .int a3)] := hl
      refine lv_goto (tgt := 6) hx hb d_MO_dot_43 (by decide) ?_
      exact ih _ _ _ _ _ hs hP hD hS (lv_sub hl [2, 3, 4, 5, 1, 0] rfl)
  · intro key
    cases k8 with
    | zero => cases hs
    | succ k9 =>
      rw [sm_it_succ, fn_MO_dot_q0] at hs
      unfold fn_MO_dot_b0 at hs
      refine lv_lconst (v := 0) hx hb d_MO_dot_0 (by decide) ?_
      refine lv_lstore hx hb d_MO_dot_1 hl (by decide) rfl (fun ls hl => ?_)
      have hl : lv_has ls 7 [(4, .long 0), (0, .ref m0), (1, .int a1), (2, .ref o1), (3, .int a3)] := hl
      refine lv_iconst (v := 0) hx hb d_MO_dot_3 (by decide) ?_
      refine lv_istore hx hb d_MO_dot_4 hl (by decide) rfl (fun ls hl => ?_)
      have hl : lv_has ls 7 [(6, .int 0), (4, .long 0), (0, .ref m0), (1, .int a1), (2, .ref o1), (3, .int a3)] := hl
      exact (key k9) _ _ _ _ _ hs hP hD hS (lv_sub hl [2, 3, 4, 5, 1, 0] rfl)

noncomputable def fn_MO_lose_b0 (a1 : Int32) (a2 : Int32) (a3 : Int64) (v_columns : Int32) (_z0 : Int32) (c_basis : Nat → Int64) : Option ((Nat × Int32 × (Nat → Int64)) ⊕ ((Nat → Int64))) := some (.inl (3, 0, c_basis))
noncomputable def fn_MO_lose_b3 (a1 : Int32) (a2 : Int32) (a3 : Int64) (v_columns : Int32) (x5i : Int32) (u_basis : Nat → Int64) : Option ((Nat × Int32 × (Nat → Int64)) ⊕ ((Nat → Int64))) := if (v_columns : Int32) ≤ x5i then (some (.inr u_basis)) else (if ¬ ((((6 * a1) + x5i) : Int32) < 0 ∨ 36 ≤ (((6 * a1) + x5i) : Int32).toNatClampNeg) then if ¬ ((((6 * a2) + x5i) : Int32) < 0 ∨ 36 ≤ (((6 * a2) + x5i) : Int32).toNatClampNeg) then if ¬ ((((6 * a1) + x5i) : Int32) < 0 ∨ 36 ≤ (((6 * a1) + x5i) : Int32).toNatClampNeg) then some (.inl (3, (x5i + 1), (vp_updL u_basis (((6 * a1) + x5i) : Int32).toNatClampNeg ((u_basis (((6 * a1) + x5i) : Int32).toNatClampNeg) - (a3 * (u_basis (((6 * a2) + x5i) : Int32).toNatClampNeg)))))) else none else none else none)
noncomputable def fn_MO_lose (a1 : Int32) (a2 : Int32) (a3 : Int64) (v_columns : Int32) : Nat × Int32 × (Nat → Int64) → Option ((Nat × Int32 × (Nat → Int64)) ⊕ ((Nat → Int64))) := fun st => match st with
  | (pc, x5i, u_basis) => if pc = 0 then fn_MO_lose_b0 a1 a2 a3 v_columns x5i u_basis else if pc = 3 then fn_MO_lose_b3 a1 a2 a3 v_columns x5i u_basis else none
theorem fn_MO_lose_q0 (a1 : Int32) (a2 : Int32) (a3 : Int64) (v_columns : Int32) (x5i : Int32) (u_basis : Nat → Int64) : fn_MO_lose a1 a2 a3 v_columns (0, x5i, u_basis) = fn_MO_lose_b0 a1 a2 a3 v_columns x5i u_basis := by simp [fn_MO_lose]
theorem fn_MO_lose_q3 (a1 : Int32) (a2 : Int32) (a3 : Int64) (v_columns : Int32) (x5i : Int32) (u_basis : Nat → Int64) : fn_MO_lose a1 a2 a3 v_columns (3, x5i, u_basis) = fn_MO_lose_b3 a1 a2 a3 v_columns x5i u_basis := by simp [fn_MO_lose]
set_option maxHeartbeats 4000000 in
set_option maxRecDepth 100000 in
theorem c_MO_lose (l : Launch) (dC : Nat → ClassId) (dI : Nat → Nat → Nat) (m0 : Nat) (f_text : Nat) (f_kinds : Nat) (f_places : Nat) (f_values : Nat) (f_draftLetters : Nat) (f_draftNumbers : Nat) (f_draftSigns : Nat) (f_letters : Nat) (f_numbers : Nat) (f_isList : Nat) (f_bounds : Nat) (f_sizes : Nat) (f_lists : Nat) (f_told : Nat) (f_costs : Nat) (f_times : Nat) (f_bestOne : Nat) (f_basis : Nat) (f_one : Nat) (f_along : Nat) (f_now : Nat) (v_thrown : Int32) (v_length : Int32) (v_wrong : Int32) (v_words : Int32) (v_draftVariables : Int32) (v_draftSlacks : Int32) (v_draftRows : Int32) (v_known : Int32) (v_rows : Int32) (v_variables : Int32) (v_columns : Int32) (v_isSplit : Int32) (v_isBest : Int32) (v_vectors : Int32) (v_isOne : Int32) (k_basis : ClassId) (c_basis : Nat → Int64) (a1 : Int32) (a2 : Int32) (a3 : Int64) (sz : Nat) (out : (Nat → Int64)) (hs : sm_tot (fn_MO_lose a1 a2 a3 v_columns) (0, 0, c_basis) = some out) : Met l y_MO_lose (Cond.code y_MO_lose b_MO_lose 6 (Option.none : Option Jvm.ClassFile.FieldType) :: wd) { frames := 0, cells := 0, slots := 0, locals := 0 } (va_Pc [.ref m0, .int a1, .int a2, .long a3] (fun U => U.heap.size = sz ∧ va_P (dC, dI) cls [(m0, .inr (9, [.int v_thrown, .ref f_text, .int v_length, .int v_wrong, .ref f_kinds, .ref f_places, .ref f_values, .int v_words, .ref f_draftLetters, .int v_draftVariables, .int v_draftSlacks, .int v_draftRows, .ref f_draftNumbers, .ref f_draftSigns, .int v_known, .int v_rows, .int v_variables, .int v_columns, .ref f_letters, .ref f_numbers, .ref f_isList, .ref f_bounds, .ref f_sizes, .ref f_lists, .ref f_told, .ref f_costs, .int v_isSplit, .ref f_times, .int v_isBest, .ref f_bestOne, .ref f_basis, .int v_vectors, .ref f_one, .int v_isOne, .ref f_along, .ref f_now])), (f_basis, .inl (k_basis, 36, .inr (.inl c_basis)))] U.heap ∧ va_K (dC, dI) cls [(k_basis, .long)] U ∧ va_D (fun _ => True) [(m0, .inr (9, [.int v_thrown, .ref f_text, .int v_length, .int v_wrong, .ref f_kinds, .ref f_places, .ref f_values, .int v_words, .ref f_draftLetters, .int v_draftVariables, .int v_draftSlacks, .int v_draftRows, .ref f_draftNumbers, .ref f_draftSigns, .int v_known, .int v_rows, .int v_variables, .int v_columns, .ref f_letters, .ref f_numbers, .ref f_isList, .ref f_bounds, .ref f_sizes, .ref f_lists, .ref f_told, .ref f_costs, .int v_isSplit, .ref f_times, .int v_isBest, .ref f_bestOne, .ref f_basis, .int v_vectors, .ref f_one, .int v_isOne, .ref f_along, .ref f_now])), (f_basis, .inl (k_basis, 36, .inr (.inl c_basis)))] ∧ nw_ok U)) (va_Qv (fun _ : Unit => True) (fun (_ : Unit) t => va_P (dC, dI) cls [(m0, .inr (9, [.int v_thrown, .ref f_text, .int v_length, .int v_wrong, .ref f_kinds, .ref f_places, .ref f_values, .int v_words, .ref f_draftLetters, .int v_draftVariables, .int v_draftSlacks, .int v_draftRows, .ref f_draftNumbers, .ref f_draftSigns, .int v_known, .int v_rows, .int v_variables, .int v_columns, .ref f_letters, .ref f_numbers, .ref f_isList, .ref f_bounds, .ref f_sizes, .ref f_lists, .ref f_told, .ref f_costs, .int v_isSplit, .ref f_times, .int v_isBest, .ref f_bestOne, .ref f_basis, .int v_vectors, .ref f_one, .int v_isOne, .ref f_along, .ref f_now])), (f_basis, .inl (k_basis, 36, .inr (.inl out)))] t.heap ∧ va_K (dC, dI) cls [(k_basis, .long)] t ∧ va_D (va_A [(m0, .inr (9, [.int v_thrown, .ref f_text, .int v_length, .int v_wrong, .ref f_kinds, .ref f_places, .ref f_values, .int v_words, .ref f_draftLetters, .int v_draftVariables, .int v_draftSlacks, .int v_draftRows, .ref f_draftNumbers, .ref f_draftSigns, .int v_known, .int v_rows, .int v_variables, .int v_columns, .ref f_letters, .ref f_numbers, .ref f_isList, .ref f_bounds, .ref f_sizes, .ref f_lists, .ref f_told, .ref f_costs, .int v_isSplit, .ref f_times, .int v_isBest, .ref f_bestOne, .ref f_basis, .int v_vectors, .ref f_one, .int v_isOne, .ref f_along, .ref f_now])), (f_basis, .inl (k_basis, 36, .inr (.inl c_basis)))] sz) [(m0, .inr (9, [.int v_thrown, .ref f_text, .int v_length, .int v_wrong, .ref f_kinds, .ref f_places, .ref f_values, .int v_words, .ref f_draftLetters, .int v_draftVariables, .int v_draftSlacks, .int v_draftRows, .ref f_draftNumbers, .ref f_draftSigns, .int v_known, .int v_rows, .int v_variables, .int v_columns, .ref f_letters, .ref f_numbers, .ref f_isList, .ref f_bounds, .ref f_sizes, .ref f_lists, .ref f_told, .ref f_costs, .int v_isSplit, .ref f_times, .int v_isBest, .ref f_bestOne, .ref f_basis, .int v_vectors, .ref f_one, .int v_isOne, .ref f_along, .ref f_now])), (f_basis, .inl (k_basis, 36, .inr (.inl out)))]) (va_A [(m0, .inr (9, [.int v_thrown, .ref f_text, .int v_length, .int v_wrong, .ref f_kinds, .ref f_places, .ref f_values, .int v_words, .ref f_draftLetters, .int v_draftVariables, .int v_draftSlacks, .int v_draftRows, .ref f_draftNumbers, .ref f_draftSigns, .int v_known, .int v_rows, .int v_variables, .int v_columns, .ref f_letters, .ref f_numbers, .ref f_isList, .ref f_bounds, .ref f_sizes, .ref f_lists, .ref f_told, .ref f_costs, .int v_isSplit, .ref f_times, .int v_isBest, .ref f_bestOne, .ref f_basis, .int v_vectors, .ref f_one, .int v_isOne, .ref f_along, .ref f_now])), (f_basis, .inl (k_basis, 36, .inr (.inl c_basis)))] sz)) 0 0 (va_A [(m0, .inr (9, [.int v_thrown, .ref f_text, .int v_length, .int v_wrong, .ref f_kinds, .ref f_places, .ref f_values, .int v_words, .ref f_draftLetters, .int v_draftVariables, .int v_draftSlacks, .int v_draftRows, .ref f_draftNumbers, .ref f_draftSigns, .int v_known, .int v_rows, .int v_variables, .int v_columns, .ref f_letters, .ref f_numbers, .ref f_isList, .ref f_bounds, .ref f_sizes, .ref f_lists, .ref f_told, .ref f_costs, .int v_isSplit, .ref f_times, .int v_isBest, .ref f_bestOne, .ref f_basis, .int v_vectors, .ref f_one, .int v_isOne, .ref f_along, .ref f_now])), (f_basis, .inl (k_basis, 36, .inr (.inl c_basis)))] sz) := by
  refine Met.ofW (cc := b_MO_lose) (maxL := 6) (ret := (Option.none : Option Jvm.ClassFile.FieldType)) (by decide) rfl ?_
  intro p e s m args below meth c s₁ B hml hv
  obtain ⟨rfl, hsz, hP, hK, hD0, hN⟩ := hv
  have hx := B.exec
  have hb := B.bytes
  have hr := B.returns
  have hlocks := B.notSynchronized
  have hts : ∀ w ∈ wd, w.before ([.ref m0, .int a1, .int a2, .long a3] : List Value).toArray s = true := fun w hw => atoms_spec (ws := (Cond.code y_MO_lose b_MO_lose 6 (Option.none : Option Jvm.ClassFile.FieldType) :: wd)) B.pre w (List.mem_cons_of_mem _ hw)
  have hown : s.vm.findClass "LeastSolutionsModel" = some m.cls := findClass_of_methodNamed B.named
  subst hsz
  have hD := hD0.self (sz := s.heap.size)
  generalize hAe : va_A [(m0, .inr (9, [.int v_thrown, .ref f_text, .int v_length, .int v_wrong, .ref f_kinds, .ref f_places, .ref f_values, .int v_words, .ref f_draftLetters, .int v_draftVariables, .int v_draftSlacks, .int v_draftRows, .ref f_draftNumbers, .ref f_draftSigns, .int v_known, .int v_rows, .int v_variables, .int v_columns, .ref f_letters, .ref f_numbers, .ref f_isList, .ref f_bounds, .ref f_sizes, .ref f_lists, .ref f_told, .ref f_costs, .int v_isSplit, .ref f_times, .int v_isBest, .ref f_bestOne, .ref f_basis, .int v_vectors, .ref f_one, .int v_isOne, .ref f_along, .ref f_now])), (f_basis, .inl (k_basis, 36, .inr (.inl c_basis)))] s.heap.size = A at hD ⊢
  have hA : ∀ q : Nat, s.heap.size ≤ q → A q := fun q h => by rw [← hAe]; exact Or.inr h
  have hS : va_S A s.heap s.heap [] := va_S.rf
  have hl := lv_entry ([.ref m0, .int a1, .int a2, .long a3]) (n := 6) (Nat.le_of_ble_eq_true rfl)
  rw [lg_entry_eq]
  generalize (lg_sl ([.ref m0, .int a1, .int a2, .long a3]) ++ List.replicate (6 - (lg_sl ([.ref m0, .int a1, .int a2, .long a3])).length) Slot.unset).toArray = ls at hl ⊢
  have hl : lv_has ls 6 [(0, .ref m0), (1, .int a1), (2, .int a2), (3, .long a3)] := hl
  obtain ⟨k8, hs⟩ := sm_of hs
  refine sm_key (fun R Q k9 => (∀ (H : Heap) (locs : List Loc) (ls : Array Slot) (x5i : Int32) (u_basis : Nat → Int64), sm_it (fn_MO_lose a1 a2 a3 v_columns) k9 (3, x5i, u_basis) = some out → va_P (dC, dI) cls [(m0, .inr (9, [.int v_thrown, .ref f_text, .int v_length, .int v_wrong, .ref f_kinds, .ref f_places, .ref f_values, .int v_words, .ref f_draftLetters, .int v_draftVariables, .int v_draftSlacks, .int v_draftRows, .ref f_draftNumbers, .ref f_draftSigns, .int v_known, .int v_rows, .int v_variables, .int v_columns, .ref f_letters, .ref f_numbers, .ref f_isList, .ref f_bounds, .ref f_sizes, .ref f_lists, .ref f_told, .ref f_costs, .int v_isSplit, .ref f_times, .int v_isBest, .ref f_bestOne, .ref f_basis, .int v_vectors, .ref f_one, .int v_isOne, .ref f_along, .ref f_now])), (f_basis, .inl (k_basis, 36, .inr (.inl u_basis)))] H → va_D A [(m0, .inr (9, [.int v_thrown, .ref f_text, .int v_length, .int v_wrong, .ref f_kinds, .ref f_places, .ref f_values, .int v_words, .ref f_draftLetters, .int v_draftVariables, .int v_draftSlacks, .int v_draftRows, .ref f_draftNumbers, .ref f_draftSigns, .int v_known, .int v_rows, .int v_variables, .int v_columns, .ref f_letters, .ref f_numbers, .ref f_isList, .ref f_bounds, .ref f_sizes, .ref f_lists, .ref f_told, .ref f_costs, .int v_isSplit, .ref f_times, .int v_isBest, .ref f_bestOne, .ref f_basis, .int v_vectors, .ref f_one, .int v_isOne, .ref f_along, .ref f_now])), (f_basis, .inl (k_basis, 36, .inr (.inl u_basis)))] → va_S A s.heap H locs → lv_has ls 6 [(0, .ref m0), (1, .int a1), (2, .int a2), (3, .long a3), (5, .int x5i)] → W p l e R s m ([.ref m0, .int a1, .int a2, .long a3] : List Value).toArray below meth c H locs 0 0 Q (F0 m 3 ls []))) ?_ ?_ ?_
  · exact fun _ _ _ _ _ hs => by cases hs
  · intro k9 ih
    skip
    intro H locs ls x5i u_basis hs hP hD hS hl
    rw [sm_it_succ, fn_MO_lose_q3] at hs
    unfold fn_MO_lose_b3 at hs
    refine lv_iload hx hb d_MO_lose_3 (lv_at hl 4 rfl) ?_
    refine lv_aload_n hx hb d_MO_lose_5 rfl (lv_at hl 0 rfl) ?_
    refine va_get (D := (dC, dI)) (ci := 9) (v := .int v_columns) (C := R_MO) (T := T_MO) (N := 36) hx hb hts in_MO hown hK hP 0 rfl rfl 17 (by decide) (hts _ k_903) (fun _ h9 => h9) rfl d_MO_lose_6 ?_
    refine lv_icmp_ge (tgt := 57) hx hb d_MO_lose_9 (by decide) (fun hc1 => ?_) (fun hc1 => ?_)
    · have hs := sm_pos hc1 hs
      have he := sm_end hs
      subst he
      exact W.vret hx hb hr (fun t ht hW => ⟨⟨(), rfl, trivial, by rw [ht]; exact hP, va_K.moved hW.alike hK, hD⟩, hS.F ht⟩) hS.2.2 d_MO_lose_57
    · have hs := sm_neg hc1 hs
      refine lv_aload_n hx hb d_MO_lose_12 rfl (lv_at hl 0 rfl) ?_
      refine va_get (D := (dC, dI)) (ci := 9) (v := .ref f_basis) (C := R_MO) (T := T_MO) (N := 36) hx hb hts in_MO hown hK hP 0 rfl rfl 30 (by decide) (hts _ k_916) (fun _ h9 => h9) rfl d_MO_lose_13 ?_
      refine lv_bipush (v := 6) hx hb d_MO_lose_16 (by decide) ?_
      refine lv_iload_n hx hb d_MO_lose_18 rfl (lv_at hl 1 rfl) ?_
      refine lv_imul hx hb d_MO_lose_19 ?_
      refine lv_iload hx hb d_MO_lose_20 (lv_at hl 4 rfl) ?_
      refine lv_iadd hx hb d_MO_lose_22 ?_
      refine lv_aload_n hx hb d_MO_lose_23 rfl (lv_at hl 0 rfl) ?_
      refine va_get (D := (dC, dI)) (ci := 9) (v := .ref f_basis) (C := R_MO) (T := T_MO) (N := 36) hx hb hts in_MO hown hK hP 0 rfl rfl 30 (by decide) (hts _ k_916) (fun _ h9 => h9) rfl d_MO_lose_24 ?_
      refine lv_bipush (v := 6) hx hb d_MO_lose_27 (by decide) ?_
      refine lv_iload_n hx hb d_MO_lose_29 rfl (lv_at hl 1 rfl) ?_
      refine lv_imul hx hb d_MO_lose_30 ?_
      refine lv_iload hx hb d_MO_lose_31 (lv_at hl 4 rfl) ?_
      refine lv_iadd hx hb d_MO_lose_33 ?_
      obtain ⟨hg1, hs⟩ := sm_gd hs
      refine va_lald hx hb hK hP 1 0 rfl rfl hg1 d_MO_lose_34 ?_
      refine lv_lload_n hx hb d_MO_lose_35 rfl (lv_at hl 3 rfl) ?_
      refine lv_aload_n hx hb d_MO_lose_36 rfl (lv_at hl 0 rfl) ?_
      refine va_get (D := (dC, dI)) (ci := 9) (v := .ref f_basis) (C := R_MO) (T := T_MO) (N := 36) hx hb hts in_MO hown hK hP 0 rfl rfl 30 (by decide) (hts _ k_916) (fun _ h9 => h9) rfl d_MO_lose_37 ?_
      refine lv_bipush (v := 6) hx hb d_MO_lose_40 (by decide) ?_
      refine lv_iload_n hx hb d_MO_lose_42 rfl (lv_at hl 2 rfl) ?_
      refine lv_imul hx hb d_MO_lose_43 ?_
      refine lv_iload hx hb d_MO_lose_44 (lv_at hl 4 rfl) ?_
      refine lv_iadd hx hb d_MO_lose_46 ?_
      obtain ⟨hg2, hs⟩ := sm_gd hs
      refine va_lald hx hb hK hP 1 0 rfl rfl hg2 d_MO_lose_47 ?_
      refine lv_lmul hx hb d_MO_lose_48 ?_
      refine lv_lsub hx hb d_MO_lose_49 ?_
      obtain ⟨hg3, hs⟩ := sm_gd hs
      refine va_last hx hb hK hP hD hS 1 0 rfl rfl hg3 d_MO_lose_50 (fun H1 locs hP hD hS => ?_)
      have hP : va_P (dC, dI) cls [(m0, .inr (9, [.int v_thrown, .ref f_text, .int v_length, .int v_wrong, .ref f_kinds, .ref f_places, .ref f_values, .int v_words, .ref f_draftLetters, .int v_draftVariables, .int v_draftSlacks, .int v_draftRows, .ref f_draftNumbers, .ref f_draftSigns, .int v_known, .int v_rows, .int v_variables, .int v_columns, .ref f_letters, .ref f_numbers, .ref f_isList, .ref f_bounds, .ref f_sizes, .ref f_lists, .ref f_told, .ref f_costs, .int v_isSplit, .ref f_times, .int v_isBest, .ref f_bestOne, .ref f_basis, .int v_vectors, .ref f_one, .int v_isOne, .ref f_along, .ref f_now])), (f_basis, .inl (k_basis, 36, .inr (.inl (vp_updL u_basis (((6 * a1) + x5i) : Int32).toNatClampNeg ((u_basis (((6 * a1) + x5i) : Int32).toNatClampNeg) - (a3 * (u_basis (((6 * a2) + x5i) : Int32).toNatClampNeg)))))))] H1 := hP
      have hD : va_D A [(m0, .inr (9, [.int v_thrown, .ref f_text, .int v_length, .int v_wrong, .ref f_kinds, .ref f_places, .ref f_values, .int v_words, .ref f_draftLetters, .int v_draftVariables, .int v_draftSlacks, .int v_draftRows, .ref f_draftNumbers, .ref f_draftSigns, .int v_known, .int v_rows, .int v_variables, .int v_columns, .ref f_letters, .ref f_numbers, .ref f_isList, .ref f_bounds, .ref f_sizes, .ref f_lists, .ref f_told, .ref f_costs, .int v_isSplit, .ref f_times, .int v_isBest, .ref f_bestOne, .ref f_basis, .int v_vectors, .ref f_one, .int v_isOne, .ref f_along, .ref f_now])), (f_basis, .inl (k_basis, 36, .inr (.inl (vp_updL u_basis (((6 * a1) + x5i) : Int32).toNatClampNeg ((u_basis (((6 * a1) + x5i) : Int32).toNatClampNeg) - (a3 * (u_basis (((6 * a2) + x5i) : Int32).toNatClampNeg)))))))] := hD
      refine lv_iinc (k := 4) (v := (x5i + 1)) hx hb d_MO_lose_51 hl rfl (congrArg (fun z : Int32 => x5i + z) (by decide : Int32.ofInt 1 = 1)) (by decide) rfl (fun ls hl => ?_)
      have hl : lv_has ls 6 [(5, .int (x5i + 1)), (0, .ref m0), (1, .int a1), (2, .int a2), (3, .long a3)] := hl
      refine lv_goto (tgt := 3) hx hb d_MO_lose_54 (by decide) ?_
      exact ih _ _ _ _ _ hs hP hD hS (lv_sub hl [1, 2, 3, 4, 0] rfl)
  · intro key
    cases k8 with
    | zero => cases hs
    | succ k9 =>
      rw [sm_it_succ, fn_MO_lose_q0] at hs
      unfold fn_MO_lose_b0 at hs
      refine lv_iconst (v := 0) hx hb d_MO_lose_0 (by decide) ?_
      refine lv_istore hx hb d_MO_lose_1 hl (by decide) rfl (fun ls hl => ?_)
      have hl : lv_has ls 6 [(5, .int 0), (0, .ref m0), (1, .int a1), (2, .int a2), (3, .long a3)] := hl
      exact (key k9) _ _ _ _ _ hs hP hD hS (lv_sub hl [1, 2, 3, 4, 0] rfl)

noncomputable def fn_MO_exchange_b0 (a1 : Int32) (a2 : Int32) (v_columns : Int32) (_z0 : Int32) (c_basis : Nat → Int64) : Option ((Nat × Int32 × (Nat → Int64)) ⊕ ((Nat → Int64))) := some (.inl (2, 0, c_basis))
noncomputable def fn_MO_exchange_b2 (a1 : Int32) (a2 : Int32) (v_columns : Int32) (x3i : Int32) (u_basis : Nat → Int64) : Option ((Nat × Int32 × (Nat → Int64)) ⊕ ((Nat → Int64))) := if (v_columns : Int32) ≤ x3i then (some (.inr u_basis)) else (if ¬ ((((6 * a1) + x3i) : Int32) < 0 ∨ 36 ≤ (((6 * a1) + x3i) : Int32).toNatClampNeg) then if ¬ ((((6 * a2) + x3i) : Int32) < 0 ∨ 36 ≤ (((6 * a2) + x3i) : Int32).toNatClampNeg) then if ¬ ((((6 * a1) + x3i) : Int32) < 0 ∨ 36 ≤ (((6 * a1) + x3i) : Int32).toNatClampNeg) then if ¬ ((((6 * a2) + x3i) : Int32) < 0 ∨ 36 ≤ (((6 * a2) + x3i) : Int32).toNatClampNeg) then some (.inl (2, (x3i + 1), (vp_updL (vp_updL u_basis (((6 * a1) + x3i) : Int32).toNatClampNeg (u_basis (((6 * a2) + x3i) : Int32).toNatClampNeg)) (((6 * a2) + x3i) : Int32).toNatClampNeg (u_basis (((6 * a1) + x3i) : Int32).toNatClampNeg)))) else none else none else none else none)
noncomputable def fn_MO_exchange (a1 : Int32) (a2 : Int32) (v_columns : Int32) : Nat × Int32 × (Nat → Int64) → Option ((Nat × Int32 × (Nat → Int64)) ⊕ ((Nat → Int64))) := fun st => match st with
  | (pc, x3i, u_basis) => if pc = 0 then fn_MO_exchange_b0 a1 a2 v_columns x3i u_basis else if pc = 2 then fn_MO_exchange_b2 a1 a2 v_columns x3i u_basis else none
theorem fn_MO_exchange_q0 (a1 : Int32) (a2 : Int32) (v_columns : Int32) (x3i : Int32) (u_basis : Nat → Int64) : fn_MO_exchange a1 a2 v_columns (0, x3i, u_basis) = fn_MO_exchange_b0 a1 a2 v_columns x3i u_basis := by simp [fn_MO_exchange]
theorem fn_MO_exchange_q2 (a1 : Int32) (a2 : Int32) (v_columns : Int32) (x3i : Int32) (u_basis : Nat → Int64) : fn_MO_exchange a1 a2 v_columns (2, x3i, u_basis) = fn_MO_exchange_b2 a1 a2 v_columns x3i u_basis := by simp [fn_MO_exchange]
set_option maxHeartbeats 4000000 in
set_option maxRecDepth 100000 in
theorem c_MO_exchange (l : Launch) (dC : Nat → ClassId) (dI : Nat → Nat → Nat) (m0 : Nat) (f_text : Nat) (f_kinds : Nat) (f_places : Nat) (f_values : Nat) (f_draftLetters : Nat) (f_draftNumbers : Nat) (f_draftSigns : Nat) (f_letters : Nat) (f_numbers : Nat) (f_isList : Nat) (f_bounds : Nat) (f_sizes : Nat) (f_lists : Nat) (f_told : Nat) (f_costs : Nat) (f_times : Nat) (f_bestOne : Nat) (f_basis : Nat) (f_one : Nat) (f_along : Nat) (f_now : Nat) (v_thrown : Int32) (v_length : Int32) (v_wrong : Int32) (v_words : Int32) (v_draftVariables : Int32) (v_draftSlacks : Int32) (v_draftRows : Int32) (v_known : Int32) (v_rows : Int32) (v_variables : Int32) (v_columns : Int32) (v_isSplit : Int32) (v_isBest : Int32) (v_vectors : Int32) (v_isOne : Int32) (k_basis : ClassId) (c_basis : Nat → Int64) (a1 : Int32) (a2 : Int32) (sz : Nat) (out : (Nat → Int64)) (hs : sm_tot (fn_MO_exchange a1 a2 v_columns) (0, 0, c_basis) = some out) : Met l y_MO_exchange (Cond.code y_MO_exchange b_MO_exchange 6 (Option.none : Option Jvm.ClassFile.FieldType) :: wd) { frames := 0, cells := 0, slots := 0, locals := 0 } (va_Pc [.ref m0, .int a1, .int a2] (fun U => U.heap.size = sz ∧ va_P (dC, dI) cls [(m0, .inr (9, [.int v_thrown, .ref f_text, .int v_length, .int v_wrong, .ref f_kinds, .ref f_places, .ref f_values, .int v_words, .ref f_draftLetters, .int v_draftVariables, .int v_draftSlacks, .int v_draftRows, .ref f_draftNumbers, .ref f_draftSigns, .int v_known, .int v_rows, .int v_variables, .int v_columns, .ref f_letters, .ref f_numbers, .ref f_isList, .ref f_bounds, .ref f_sizes, .ref f_lists, .ref f_told, .ref f_costs, .int v_isSplit, .ref f_times, .int v_isBest, .ref f_bestOne, .ref f_basis, .int v_vectors, .ref f_one, .int v_isOne, .ref f_along, .ref f_now])), (f_basis, .inl (k_basis, 36, .inr (.inl c_basis)))] U.heap ∧ va_K (dC, dI) cls [(k_basis, .long)] U ∧ va_D (fun _ => True) [(m0, .inr (9, [.int v_thrown, .ref f_text, .int v_length, .int v_wrong, .ref f_kinds, .ref f_places, .ref f_values, .int v_words, .ref f_draftLetters, .int v_draftVariables, .int v_draftSlacks, .int v_draftRows, .ref f_draftNumbers, .ref f_draftSigns, .int v_known, .int v_rows, .int v_variables, .int v_columns, .ref f_letters, .ref f_numbers, .ref f_isList, .ref f_bounds, .ref f_sizes, .ref f_lists, .ref f_told, .ref f_costs, .int v_isSplit, .ref f_times, .int v_isBest, .ref f_bestOne, .ref f_basis, .int v_vectors, .ref f_one, .int v_isOne, .ref f_along, .ref f_now])), (f_basis, .inl (k_basis, 36, .inr (.inl c_basis)))] ∧ nw_ok U)) (va_Qv (fun _ : Unit => True) (fun (_ : Unit) t => va_P (dC, dI) cls [(m0, .inr (9, [.int v_thrown, .ref f_text, .int v_length, .int v_wrong, .ref f_kinds, .ref f_places, .ref f_values, .int v_words, .ref f_draftLetters, .int v_draftVariables, .int v_draftSlacks, .int v_draftRows, .ref f_draftNumbers, .ref f_draftSigns, .int v_known, .int v_rows, .int v_variables, .int v_columns, .ref f_letters, .ref f_numbers, .ref f_isList, .ref f_bounds, .ref f_sizes, .ref f_lists, .ref f_told, .ref f_costs, .int v_isSplit, .ref f_times, .int v_isBest, .ref f_bestOne, .ref f_basis, .int v_vectors, .ref f_one, .int v_isOne, .ref f_along, .ref f_now])), (f_basis, .inl (k_basis, 36, .inr (.inl out)))] t.heap ∧ va_K (dC, dI) cls [(k_basis, .long)] t ∧ va_D (va_A [(m0, .inr (9, [.int v_thrown, .ref f_text, .int v_length, .int v_wrong, .ref f_kinds, .ref f_places, .ref f_values, .int v_words, .ref f_draftLetters, .int v_draftVariables, .int v_draftSlacks, .int v_draftRows, .ref f_draftNumbers, .ref f_draftSigns, .int v_known, .int v_rows, .int v_variables, .int v_columns, .ref f_letters, .ref f_numbers, .ref f_isList, .ref f_bounds, .ref f_sizes, .ref f_lists, .ref f_told, .ref f_costs, .int v_isSplit, .ref f_times, .int v_isBest, .ref f_bestOne, .ref f_basis, .int v_vectors, .ref f_one, .int v_isOne, .ref f_along, .ref f_now])), (f_basis, .inl (k_basis, 36, .inr (.inl c_basis)))] sz) [(m0, .inr (9, [.int v_thrown, .ref f_text, .int v_length, .int v_wrong, .ref f_kinds, .ref f_places, .ref f_values, .int v_words, .ref f_draftLetters, .int v_draftVariables, .int v_draftSlacks, .int v_draftRows, .ref f_draftNumbers, .ref f_draftSigns, .int v_known, .int v_rows, .int v_variables, .int v_columns, .ref f_letters, .ref f_numbers, .ref f_isList, .ref f_bounds, .ref f_sizes, .ref f_lists, .ref f_told, .ref f_costs, .int v_isSplit, .ref f_times, .int v_isBest, .ref f_bestOne, .ref f_basis, .int v_vectors, .ref f_one, .int v_isOne, .ref f_along, .ref f_now])), (f_basis, .inl (k_basis, 36, .inr (.inl out)))]) (va_A [(m0, .inr (9, [.int v_thrown, .ref f_text, .int v_length, .int v_wrong, .ref f_kinds, .ref f_places, .ref f_values, .int v_words, .ref f_draftLetters, .int v_draftVariables, .int v_draftSlacks, .int v_draftRows, .ref f_draftNumbers, .ref f_draftSigns, .int v_known, .int v_rows, .int v_variables, .int v_columns, .ref f_letters, .ref f_numbers, .ref f_isList, .ref f_bounds, .ref f_sizes, .ref f_lists, .ref f_told, .ref f_costs, .int v_isSplit, .ref f_times, .int v_isBest, .ref f_bestOne, .ref f_basis, .int v_vectors, .ref f_one, .int v_isOne, .ref f_along, .ref f_now])), (f_basis, .inl (k_basis, 36, .inr (.inl c_basis)))] sz)) 0 0 (va_A [(m0, .inr (9, [.int v_thrown, .ref f_text, .int v_length, .int v_wrong, .ref f_kinds, .ref f_places, .ref f_values, .int v_words, .ref f_draftLetters, .int v_draftVariables, .int v_draftSlacks, .int v_draftRows, .ref f_draftNumbers, .ref f_draftSigns, .int v_known, .int v_rows, .int v_variables, .int v_columns, .ref f_letters, .ref f_numbers, .ref f_isList, .ref f_bounds, .ref f_sizes, .ref f_lists, .ref f_told, .ref f_costs, .int v_isSplit, .ref f_times, .int v_isBest, .ref f_bestOne, .ref f_basis, .int v_vectors, .ref f_one, .int v_isOne, .ref f_along, .ref f_now])), (f_basis, .inl (k_basis, 36, .inr (.inl c_basis)))] sz) := by
  refine Met.ofW (cc := b_MO_exchange) (maxL := 6) (ret := (Option.none : Option Jvm.ClassFile.FieldType)) (by decide) rfl ?_
  intro p e s m args below meth c s₁ B hml hv
  obtain ⟨rfl, hsz, hP, hK, hD0, hN⟩ := hv
  have hx := B.exec
  have hb := B.bytes
  have hr := B.returns
  have hlocks := B.notSynchronized
  have hts : ∀ w ∈ wd, w.before ([.ref m0, .int a1, .int a2] : List Value).toArray s = true := fun w hw => atoms_spec (ws := (Cond.code y_MO_exchange b_MO_exchange 6 (Option.none : Option Jvm.ClassFile.FieldType) :: wd)) B.pre w (List.mem_cons_of_mem _ hw)
  have hown : s.vm.findClass "LeastSolutionsModel" = some m.cls := findClass_of_methodNamed B.named
  subst hsz
  have hD := hD0.self (sz := s.heap.size)
  generalize hAe : va_A [(m0, .inr (9, [.int v_thrown, .ref f_text, .int v_length, .int v_wrong, .ref f_kinds, .ref f_places, .ref f_values, .int v_words, .ref f_draftLetters, .int v_draftVariables, .int v_draftSlacks, .int v_draftRows, .ref f_draftNumbers, .ref f_draftSigns, .int v_known, .int v_rows, .int v_variables, .int v_columns, .ref f_letters, .ref f_numbers, .ref f_isList, .ref f_bounds, .ref f_sizes, .ref f_lists, .ref f_told, .ref f_costs, .int v_isSplit, .ref f_times, .int v_isBest, .ref f_bestOne, .ref f_basis, .int v_vectors, .ref f_one, .int v_isOne, .ref f_along, .ref f_now])), (f_basis, .inl (k_basis, 36, .inr (.inl c_basis)))] s.heap.size = A at hD ⊢
  have hA : ∀ q : Nat, s.heap.size ≤ q → A q := fun q h => by rw [← hAe]; exact Or.inr h
  have hS : va_S A s.heap s.heap [] := va_S.rf
  have hl := lv_entry ([.ref m0, .int a1, .int a2]) (n := 6) (Nat.le_of_ble_eq_true rfl)
  rw [lg_entry_eq]
  generalize (lg_sl ([.ref m0, .int a1, .int a2]) ++ List.replicate (6 - (lg_sl ([.ref m0, .int a1, .int a2])).length) Slot.unset).toArray = ls at hl ⊢
  have hl : lv_has ls 6 [(0, .ref m0), (1, .int a1), (2, .int a2)] := hl
  obtain ⟨k8, hs⟩ := sm_of hs
  refine sm_key (fun R Q k9 => (∀ (H : Heap) (locs : List Loc) (ls : Array Slot) (x3i : Int32) (u_basis : Nat → Int64), sm_it (fn_MO_exchange a1 a2 v_columns) k9 (2, x3i, u_basis) = some out → va_P (dC, dI) cls [(m0, .inr (9, [.int v_thrown, .ref f_text, .int v_length, .int v_wrong, .ref f_kinds, .ref f_places, .ref f_values, .int v_words, .ref f_draftLetters, .int v_draftVariables, .int v_draftSlacks, .int v_draftRows, .ref f_draftNumbers, .ref f_draftSigns, .int v_known, .int v_rows, .int v_variables, .int v_columns, .ref f_letters, .ref f_numbers, .ref f_isList, .ref f_bounds, .ref f_sizes, .ref f_lists, .ref f_told, .ref f_costs, .int v_isSplit, .ref f_times, .int v_isBest, .ref f_bestOne, .ref f_basis, .int v_vectors, .ref f_one, .int v_isOne, .ref f_along, .ref f_now])), (f_basis, .inl (k_basis, 36, .inr (.inl u_basis)))] H → va_D A [(m0, .inr (9, [.int v_thrown, .ref f_text, .int v_length, .int v_wrong, .ref f_kinds, .ref f_places, .ref f_values, .int v_words, .ref f_draftLetters, .int v_draftVariables, .int v_draftSlacks, .int v_draftRows, .ref f_draftNumbers, .ref f_draftSigns, .int v_known, .int v_rows, .int v_variables, .int v_columns, .ref f_letters, .ref f_numbers, .ref f_isList, .ref f_bounds, .ref f_sizes, .ref f_lists, .ref f_told, .ref f_costs, .int v_isSplit, .ref f_times, .int v_isBest, .ref f_bestOne, .ref f_basis, .int v_vectors, .ref f_one, .int v_isOne, .ref f_along, .ref f_now])), (f_basis, .inl (k_basis, 36, .inr (.inl u_basis)))] → va_S A s.heap H locs → lv_has ls 6 [(0, .ref m0), (1, .int a1), (2, .int a2), (3, .int x3i)] → W p l e R s m ([.ref m0, .int a1, .int a2] : List Value).toArray below meth c H locs 0 0 Q (F0 m 2 ls []))) ?_ ?_ ?_
  · exact fun _ _ _ _ _ hs => by cases hs
  · intro k9 ih
    skip
    intro H locs ls x3i u_basis hs hP hD hS hl
    rw [sm_it_succ, fn_MO_exchange_q2] at hs
    unfold fn_MO_exchange_b2 at hs
    refine lv_iload_n hx hb d_MO_exchange_2 rfl (lv_at hl 3 rfl) ?_
    refine lv_aload_n hx hb d_MO_exchange_3 rfl (lv_at hl 0 rfl) ?_
    refine va_get (D := (dC, dI)) (ci := 9) (v := .int v_columns) (C := R_MO) (T := T_MO) (N := 36) hx hb hts in_MO hown hK hP 0 rfl rfl 17 (by decide) (hts _ k_903) (fun _ h9 => h9) rfl d_MO_exchange_4 ?_
    refine lv_icmp_ge (tgt := 64) hx hb d_MO_exchange_7 (by decide) (fun hc1 => ?_) (fun hc1 => ?_)
    · have hs := sm_pos hc1 hs
      have he := sm_end hs
      subst he
      exact W.vret hx hb hr (fun t ht hW => ⟨⟨(), rfl, trivial, by rw [ht]; exact hP, va_K.moved hW.alike hK, hD⟩, hS.F ht⟩) hS.2.2 d_MO_exchange_64
    · have hs := sm_neg hc1 hs
      refine lv_aload_n hx hb d_MO_exchange_10 rfl (lv_at hl 0 rfl) ?_
      refine va_get (D := (dC, dI)) (ci := 9) (v := .ref f_basis) (C := R_MO) (T := T_MO) (N := 36) hx hb hts in_MO hown hK hP 0 rfl rfl 30 (by decide) (hts _ k_916) (fun _ h9 => h9) rfl d_MO_exchange_11 ?_
      refine lv_bipush (v := 6) hx hb d_MO_exchange_14 (by decide) ?_
      refine lv_iload_n hx hb d_MO_exchange_16 rfl (lv_at hl 1 rfl) ?_
      refine lv_imul hx hb d_MO_exchange_17 ?_
      refine lv_iload_n hx hb d_MO_exchange_18 rfl (lv_at hl 3 rfl) ?_
      refine lv_iadd hx hb d_MO_exchange_19 ?_
      obtain ⟨hg1, hs⟩ := sm_gd hs
      refine va_lald hx hb hK hP 1 0 rfl rfl hg1 d_MO_exchange_20 ?_
      refine lv_lstore hx hb d_MO_exchange_21 hl (by decide) rfl (fun ls hl => ?_)
      have hl : lv_has ls 6 [(4, .long (u_basis (((6 * a1) + x3i) : Int32).toNatClampNeg)), (0, .ref m0), (1, .int a1), (2, .int a2), (3, .int x3i)] := hl
      refine lv_aload_n hx hb d_MO_exchange_23 rfl (lv_at hl 1 rfl) ?_
      refine va_get (D := (dC, dI)) (ci := 9) (v := .ref f_basis) (C := R_MO) (T := T_MO) (N := 36) hx hb hts in_MO hown hK hP 0 rfl rfl 30 (by decide) (hts _ k_916) (fun _ h9 => h9) rfl d_MO_exchange_24 ?_
      refine lv_bipush (v := 6) hx hb d_MO_exchange_27 (by decide) ?_
      refine lv_iload_n hx hb d_MO_exchange_29 rfl (lv_at hl 2 rfl) ?_
      refine lv_imul hx hb d_MO_exchange_30 ?_
      refine lv_iload_n hx hb d_MO_exchange_31 rfl (lv_at hl 4 rfl) ?_
      refine lv_iadd hx hb d_MO_exchange_32 ?_
      refine lv_aload_n hx hb d_MO_exchange_33 rfl (lv_at hl 1 rfl) ?_
      refine va_get (D := (dC, dI)) (ci := 9) (v := .ref f_basis) (C := R_MO) (T := T_MO) (N := 36) hx hb hts in_MO hown hK hP 0 rfl rfl 30 (by decide) (hts _ k_916) (fun _ h9 => h9) rfl d_MO_exchange_34 ?_
      refine lv_bipush (v := 6) hx hb d_MO_exchange_37 (by decide) ?_
      refine lv_iload_n hx hb d_MO_exchange_39 rfl (lv_at hl 3 rfl) ?_
      refine lv_imul hx hb d_MO_exchange_40 ?_
      refine lv_iload_n hx hb d_MO_exchange_41 rfl (lv_at hl 4 rfl) ?_
      refine lv_iadd hx hb d_MO_exchange_42 ?_
      obtain ⟨hg2, hs⟩ := sm_gd hs
      refine va_lald hx hb hK hP 1 0 rfl rfl hg2 d_MO_exchange_43 ?_
      obtain ⟨hg3, hs⟩ := sm_gd hs
      refine va_last hx hb hK hP hD hS 1 0 rfl rfl hg3 d_MO_exchange_44 (fun H1 locs hP hD hS => ?_)
      have hP : va_P (dC, dI) cls [(m0, .inr (9, [.int v_thrown, .ref f_text, .int v_length, .int v_wrong, .ref f_kinds, .ref f_places, .ref f_values, .int v_words, .ref f_draftLetters, .int v_draftVariables, .int v_draftSlacks, .int v_draftRows, .ref f_draftNumbers, .ref f_draftSigns, .int v_known, .int v_rows, .int v_variables, .int v_columns, .ref f_letters, .ref f_numbers, .ref f_isList, .ref f_bounds, .ref f_sizes, .ref f_lists, .ref f_told, .ref f_costs, .int v_isSplit, .ref f_times, .int v_isBest, .ref f_bestOne, .ref f_basis, .int v_vectors, .ref f_one, .int v_isOne, .ref f_along, .ref f_now])), (f_basis, .inl (k_basis, 36, .inr (.inl (vp_updL u_basis (((6 * a1) + x3i) : Int32).toNatClampNeg (u_basis (((6 * a2) + x3i) : Int32).toNatClampNeg)))))] H1 := hP
      have hD : va_D A [(m0, .inr (9, [.int v_thrown, .ref f_text, .int v_length, .int v_wrong, .ref f_kinds, .ref f_places, .ref f_values, .int v_words, .ref f_draftLetters, .int v_draftVariables, .int v_draftSlacks, .int v_draftRows, .ref f_draftNumbers, .ref f_draftSigns, .int v_known, .int v_rows, .int v_variables, .int v_columns, .ref f_letters, .ref f_numbers, .ref f_isList, .ref f_bounds, .ref f_sizes, .ref f_lists, .ref f_told, .ref f_costs, .int v_isSplit, .ref f_times, .int v_isBest, .ref f_bestOne, .ref f_basis, .int v_vectors, .ref f_one, .int v_isOne, .ref f_along, .ref f_now])), (f_basis, .inl (k_basis, 36, .inr (.inl (vp_updL u_basis (((6 * a1) + x3i) : Int32).toNatClampNeg (u_basis (((6 * a2) + x3i) : Int32).toNatClampNeg)))))] := hD
      refine lv_aload_n hx hb d_MO_exchange_45 rfl (lv_at hl 1 rfl) ?_
      refine va_get (D := (dC, dI)) (ci := 9) (v := .ref f_basis) (C := R_MO) (T := T_MO) (N := 36) hx hb hts in_MO hown hK hP 0 rfl rfl 30 (by decide) (hts _ k_916) (fun _ h9 => h9) rfl d_MO_exchange_46 ?_
      refine lv_bipush (v := 6) hx hb d_MO_exchange_49 (by decide) ?_
      refine lv_iload_n hx hb d_MO_exchange_51 rfl (lv_at hl 3 rfl) ?_
      refine lv_imul hx hb d_MO_exchange_52 ?_
      refine lv_iload_n hx hb d_MO_exchange_53 rfl (lv_at hl 4 rfl) ?_
      refine lv_iadd hx hb d_MO_exchange_54 ?_
      refine lv_lload hx hb d_MO_exchange_55 (lv_at hl 0 rfl) ?_
      obtain ⟨hg4, hs⟩ := sm_gd hs
      refine va_last hx hb hK hP hD hS 1 0 rfl rfl hg4 d_MO_exchange_57 (fun H2 locs hP hD hS => ?_)
      have hP : va_P (dC, dI) cls [(m0, .inr (9, [.int v_thrown, .ref f_text, .int v_length, .int v_wrong, .ref f_kinds, .ref f_places, .ref f_values, .int v_words, .ref f_draftLetters, .int v_draftVariables, .int v_draftSlacks, .int v_draftRows, .ref f_draftNumbers, .ref f_draftSigns, .int v_known, .int v_rows, .int v_variables, .int v_columns, .ref f_letters, .ref f_numbers, .ref f_isList, .ref f_bounds, .ref f_sizes, .ref f_lists, .ref f_told, .ref f_costs, .int v_isSplit, .ref f_times, .int v_isBest, .ref f_bestOne, .ref f_basis, .int v_vectors, .ref f_one, .int v_isOne, .ref f_along, .ref f_now])), (f_basis, .inl (k_basis, 36, .inr (.inl (vp_updL (vp_updL u_basis (((6 * a1) + x3i) : Int32).toNatClampNeg (u_basis (((6 * a2) + x3i) : Int32).toNatClampNeg)) (((6 * a2) + x3i) : Int32).toNatClampNeg (u_basis (((6 * a1) + x3i) : Int32).toNatClampNeg)))))] H2 := hP
      have hD : va_D A [(m0, .inr (9, [.int v_thrown, .ref f_text, .int v_length, .int v_wrong, .ref f_kinds, .ref f_places, .ref f_values, .int v_words, .ref f_draftLetters, .int v_draftVariables, .int v_draftSlacks, .int v_draftRows, .ref f_draftNumbers, .ref f_draftSigns, .int v_known, .int v_rows, .int v_variables, .int v_columns, .ref f_letters, .ref f_numbers, .ref f_isList, .ref f_bounds, .ref f_sizes, .ref f_lists, .ref f_told, .ref f_costs, .int v_isSplit, .ref f_times, .int v_isBest, .ref f_bestOne, .ref f_basis, .int v_vectors, .ref f_one, .int v_isOne, .ref f_along, .ref f_now])), (f_basis, .inl (k_basis, 36, .inr (.inl (vp_updL (vp_updL u_basis (((6 * a1) + x3i) : Int32).toNatClampNeg (u_basis (((6 * a2) + x3i) : Int32).toNatClampNeg)) (((6 * a2) + x3i) : Int32).toNatClampNeg (u_basis (((6 * a1) + x3i) : Int32).toNatClampNeg)))))] := hD
      refine lv_iinc (k := 4) (v := (x3i + 1)) hx hb d_MO_exchange_58 hl rfl (congrArg (fun z : Int32 => x3i + z) (by decide : Int32.ofInt 1 = 1)) (by decide) rfl (fun ls hl => ?_)
      have hl : lv_has ls 6 [(3, .int (x3i + 1)), (4, .long (u_basis (((6 * a1) + x3i) : Int32).toNatClampNeg)), (0, .ref m0), (1, .int a1), (2, .int a2)] := hl
      refine lv_goto (tgt := 2) hx hb d_MO_exchange_61 (by decide) ?_
      exact ih _ _ _ _ _ hs hP hD hS (lv_sub hl [2, 3, 4, 0] rfl)
  · intro key
    cases k8 with
    | zero => cases hs
    | succ k9 =>
      rw [sm_it_succ, fn_MO_exchange_q0] at hs
      unfold fn_MO_exchange_b0 at hs
      refine lv_iconst (v := 0) hx hb d_MO_exchange_0 (by decide) ?_
      refine lv_istore_n hx hb d_MO_exchange_1 rfl hl (by decide) rfl (fun ls hl => ?_)
      have hl : lv_has ls 6 [(3, .int 0), (0, .ref m0), (1, .int a1), (2, .int a2)] := hl
      exact (key k9) _ _ _ _ _ hs hP hD hS (lv_sub hl [1, 2, 3, 0] rfl)

noncomputable def fn_MO_turn_b0 (a1 : Int32) (v_columns : Int32) (_z0 : Int32) (c_basis : Nat → Int64) : Option ((Nat × Int32 × (Nat → Int64)) ⊕ ((Nat → Int64))) := some (.inl (2, 0, c_basis))
noncomputable def fn_MO_turn_b2 (a1 : Int32) (v_columns : Int32) (x2i : Int32) (u_basis : Nat → Int64) : Option ((Nat × Int32 × (Nat → Int64)) ⊕ ((Nat → Int64))) := if (v_columns : Int32) ≤ x2i then (some (.inr u_basis)) else (if ¬ ((((6 * a1) + x2i) : Int32) < 0 ∨ 36 ≤ (((6 * a1) + x2i) : Int32).toNatClampNeg) then if ¬ ((((6 * a1) + x2i) : Int32) < 0 ∨ 36 ≤ (((6 * a1) + x2i) : Int32).toNatClampNeg) then some (.inl (2, (x2i + 1), (vp_updL u_basis (((6 * a1) + x2i) : Int32).toNatClampNeg (-(u_basis (((6 * a1) + x2i) : Int32).toNatClampNeg))))) else none else none)
noncomputable def fn_MO_turn (a1 : Int32) (v_columns : Int32) : Nat × Int32 × (Nat → Int64) → Option ((Nat × Int32 × (Nat → Int64)) ⊕ ((Nat → Int64))) := fun st => match st with
  | (pc, x2i, u_basis) => if pc = 0 then fn_MO_turn_b0 a1 v_columns x2i u_basis else if pc = 2 then fn_MO_turn_b2 a1 v_columns x2i u_basis else none
theorem fn_MO_turn_q0 (a1 : Int32) (v_columns : Int32) (x2i : Int32) (u_basis : Nat → Int64) : fn_MO_turn a1 v_columns (0, x2i, u_basis) = fn_MO_turn_b0 a1 v_columns x2i u_basis := by simp [fn_MO_turn]
theorem fn_MO_turn_q2 (a1 : Int32) (v_columns : Int32) (x2i : Int32) (u_basis : Nat → Int64) : fn_MO_turn a1 v_columns (2, x2i, u_basis) = fn_MO_turn_b2 a1 v_columns x2i u_basis := by simp [fn_MO_turn]
set_option maxHeartbeats 4000000 in
set_option maxRecDepth 100000 in
theorem c_MO_turn (l : Launch) (dC : Nat → ClassId) (dI : Nat → Nat → Nat) (m0 : Nat) (f_text : Nat) (f_kinds : Nat) (f_places : Nat) (f_values : Nat) (f_draftLetters : Nat) (f_draftNumbers : Nat) (f_draftSigns : Nat) (f_letters : Nat) (f_numbers : Nat) (f_isList : Nat) (f_bounds : Nat) (f_sizes : Nat) (f_lists : Nat) (f_told : Nat) (f_costs : Nat) (f_times : Nat) (f_bestOne : Nat) (f_basis : Nat) (f_one : Nat) (f_along : Nat) (f_now : Nat) (v_thrown : Int32) (v_length : Int32) (v_wrong : Int32) (v_words : Int32) (v_draftVariables : Int32) (v_draftSlacks : Int32) (v_draftRows : Int32) (v_known : Int32) (v_rows : Int32) (v_variables : Int32) (v_columns : Int32) (v_isSplit : Int32) (v_isBest : Int32) (v_vectors : Int32) (v_isOne : Int32) (k_basis : ClassId) (c_basis : Nat → Int64) (a1 : Int32) (sz : Nat) (out : (Nat → Int64)) (hs : sm_tot (fn_MO_turn a1 v_columns) (0, 0, c_basis) = some out) : Met l y_MO_turn (Cond.code y_MO_turn b_MO_turn 3 (Option.none : Option Jvm.ClassFile.FieldType) :: wd) { frames := 0, cells := 0, slots := 0, locals := 0 } (va_Pc [.ref m0, .int a1] (fun U => U.heap.size = sz ∧ va_P (dC, dI) cls [(m0, .inr (9, [.int v_thrown, .ref f_text, .int v_length, .int v_wrong, .ref f_kinds, .ref f_places, .ref f_values, .int v_words, .ref f_draftLetters, .int v_draftVariables, .int v_draftSlacks, .int v_draftRows, .ref f_draftNumbers, .ref f_draftSigns, .int v_known, .int v_rows, .int v_variables, .int v_columns, .ref f_letters, .ref f_numbers, .ref f_isList, .ref f_bounds, .ref f_sizes, .ref f_lists, .ref f_told, .ref f_costs, .int v_isSplit, .ref f_times, .int v_isBest, .ref f_bestOne, .ref f_basis, .int v_vectors, .ref f_one, .int v_isOne, .ref f_along, .ref f_now])), (f_basis, .inl (k_basis, 36, .inr (.inl c_basis)))] U.heap ∧ va_K (dC, dI) cls [(k_basis, .long)] U ∧ va_D (fun _ => True) [(m0, .inr (9, [.int v_thrown, .ref f_text, .int v_length, .int v_wrong, .ref f_kinds, .ref f_places, .ref f_values, .int v_words, .ref f_draftLetters, .int v_draftVariables, .int v_draftSlacks, .int v_draftRows, .ref f_draftNumbers, .ref f_draftSigns, .int v_known, .int v_rows, .int v_variables, .int v_columns, .ref f_letters, .ref f_numbers, .ref f_isList, .ref f_bounds, .ref f_sizes, .ref f_lists, .ref f_told, .ref f_costs, .int v_isSplit, .ref f_times, .int v_isBest, .ref f_bestOne, .ref f_basis, .int v_vectors, .ref f_one, .int v_isOne, .ref f_along, .ref f_now])), (f_basis, .inl (k_basis, 36, .inr (.inl c_basis)))] ∧ nw_ok U)) (va_Qv (fun _ : Unit => True) (fun (_ : Unit) t => va_P (dC, dI) cls [(m0, .inr (9, [.int v_thrown, .ref f_text, .int v_length, .int v_wrong, .ref f_kinds, .ref f_places, .ref f_values, .int v_words, .ref f_draftLetters, .int v_draftVariables, .int v_draftSlacks, .int v_draftRows, .ref f_draftNumbers, .ref f_draftSigns, .int v_known, .int v_rows, .int v_variables, .int v_columns, .ref f_letters, .ref f_numbers, .ref f_isList, .ref f_bounds, .ref f_sizes, .ref f_lists, .ref f_told, .ref f_costs, .int v_isSplit, .ref f_times, .int v_isBest, .ref f_bestOne, .ref f_basis, .int v_vectors, .ref f_one, .int v_isOne, .ref f_along, .ref f_now])), (f_basis, .inl (k_basis, 36, .inr (.inl out)))] t.heap ∧ va_K (dC, dI) cls [(k_basis, .long)] t ∧ va_D (va_A [(m0, .inr (9, [.int v_thrown, .ref f_text, .int v_length, .int v_wrong, .ref f_kinds, .ref f_places, .ref f_values, .int v_words, .ref f_draftLetters, .int v_draftVariables, .int v_draftSlacks, .int v_draftRows, .ref f_draftNumbers, .ref f_draftSigns, .int v_known, .int v_rows, .int v_variables, .int v_columns, .ref f_letters, .ref f_numbers, .ref f_isList, .ref f_bounds, .ref f_sizes, .ref f_lists, .ref f_told, .ref f_costs, .int v_isSplit, .ref f_times, .int v_isBest, .ref f_bestOne, .ref f_basis, .int v_vectors, .ref f_one, .int v_isOne, .ref f_along, .ref f_now])), (f_basis, .inl (k_basis, 36, .inr (.inl c_basis)))] sz) [(m0, .inr (9, [.int v_thrown, .ref f_text, .int v_length, .int v_wrong, .ref f_kinds, .ref f_places, .ref f_values, .int v_words, .ref f_draftLetters, .int v_draftVariables, .int v_draftSlacks, .int v_draftRows, .ref f_draftNumbers, .ref f_draftSigns, .int v_known, .int v_rows, .int v_variables, .int v_columns, .ref f_letters, .ref f_numbers, .ref f_isList, .ref f_bounds, .ref f_sizes, .ref f_lists, .ref f_told, .ref f_costs, .int v_isSplit, .ref f_times, .int v_isBest, .ref f_bestOne, .ref f_basis, .int v_vectors, .ref f_one, .int v_isOne, .ref f_along, .ref f_now])), (f_basis, .inl (k_basis, 36, .inr (.inl out)))]) (va_A [(m0, .inr (9, [.int v_thrown, .ref f_text, .int v_length, .int v_wrong, .ref f_kinds, .ref f_places, .ref f_values, .int v_words, .ref f_draftLetters, .int v_draftVariables, .int v_draftSlacks, .int v_draftRows, .ref f_draftNumbers, .ref f_draftSigns, .int v_known, .int v_rows, .int v_variables, .int v_columns, .ref f_letters, .ref f_numbers, .ref f_isList, .ref f_bounds, .ref f_sizes, .ref f_lists, .ref f_told, .ref f_costs, .int v_isSplit, .ref f_times, .int v_isBest, .ref f_bestOne, .ref f_basis, .int v_vectors, .ref f_one, .int v_isOne, .ref f_along, .ref f_now])), (f_basis, .inl (k_basis, 36, .inr (.inl c_basis)))] sz)) 0 0 (va_A [(m0, .inr (9, [.int v_thrown, .ref f_text, .int v_length, .int v_wrong, .ref f_kinds, .ref f_places, .ref f_values, .int v_words, .ref f_draftLetters, .int v_draftVariables, .int v_draftSlacks, .int v_draftRows, .ref f_draftNumbers, .ref f_draftSigns, .int v_known, .int v_rows, .int v_variables, .int v_columns, .ref f_letters, .ref f_numbers, .ref f_isList, .ref f_bounds, .ref f_sizes, .ref f_lists, .ref f_told, .ref f_costs, .int v_isSplit, .ref f_times, .int v_isBest, .ref f_bestOne, .ref f_basis, .int v_vectors, .ref f_one, .int v_isOne, .ref f_along, .ref f_now])), (f_basis, .inl (k_basis, 36, .inr (.inl c_basis)))] sz) := by
  refine Met.ofW (cc := b_MO_turn) (maxL := 3) (ret := (Option.none : Option Jvm.ClassFile.FieldType)) (by decide) rfl ?_
  intro p e s m args below meth c s₁ B hml hv
  obtain ⟨rfl, hsz, hP, hK, hD0, hN⟩ := hv
  have hx := B.exec
  have hb := B.bytes
  have hr := B.returns
  have hlocks := B.notSynchronized
  have hts : ∀ w ∈ wd, w.before ([.ref m0, .int a1] : List Value).toArray s = true := fun w hw => atoms_spec (ws := (Cond.code y_MO_turn b_MO_turn 3 (Option.none : Option Jvm.ClassFile.FieldType) :: wd)) B.pre w (List.mem_cons_of_mem _ hw)
  have hown : s.vm.findClass "LeastSolutionsModel" = some m.cls := findClass_of_methodNamed B.named
  subst hsz
  have hD := hD0.self (sz := s.heap.size)
  generalize hAe : va_A [(m0, .inr (9, [.int v_thrown, .ref f_text, .int v_length, .int v_wrong, .ref f_kinds, .ref f_places, .ref f_values, .int v_words, .ref f_draftLetters, .int v_draftVariables, .int v_draftSlacks, .int v_draftRows, .ref f_draftNumbers, .ref f_draftSigns, .int v_known, .int v_rows, .int v_variables, .int v_columns, .ref f_letters, .ref f_numbers, .ref f_isList, .ref f_bounds, .ref f_sizes, .ref f_lists, .ref f_told, .ref f_costs, .int v_isSplit, .ref f_times, .int v_isBest, .ref f_bestOne, .ref f_basis, .int v_vectors, .ref f_one, .int v_isOne, .ref f_along, .ref f_now])), (f_basis, .inl (k_basis, 36, .inr (.inl c_basis)))] s.heap.size = A at hD ⊢
  have hA : ∀ q : Nat, s.heap.size ≤ q → A q := fun q h => by rw [← hAe]; exact Or.inr h
  have hS : va_S A s.heap s.heap [] := va_S.rf
  have hl := lv_entry ([.ref m0, .int a1]) (n := 3) (Nat.le_of_ble_eq_true rfl)
  rw [lg_entry_eq]
  generalize (lg_sl ([.ref m0, .int a1]) ++ List.replicate (3 - (lg_sl ([.ref m0, .int a1])).length) Slot.unset).toArray = ls at hl ⊢
  have hl : lv_has ls 3 [(0, .ref m0), (1, .int a1)] := hl
  obtain ⟨k8, hs⟩ := sm_of hs
  refine sm_key (fun R Q k9 => (∀ (H : Heap) (locs : List Loc) (ls : Array Slot) (x2i : Int32) (u_basis : Nat → Int64), sm_it (fn_MO_turn a1 v_columns) k9 (2, x2i, u_basis) = some out → va_P (dC, dI) cls [(m0, .inr (9, [.int v_thrown, .ref f_text, .int v_length, .int v_wrong, .ref f_kinds, .ref f_places, .ref f_values, .int v_words, .ref f_draftLetters, .int v_draftVariables, .int v_draftSlacks, .int v_draftRows, .ref f_draftNumbers, .ref f_draftSigns, .int v_known, .int v_rows, .int v_variables, .int v_columns, .ref f_letters, .ref f_numbers, .ref f_isList, .ref f_bounds, .ref f_sizes, .ref f_lists, .ref f_told, .ref f_costs, .int v_isSplit, .ref f_times, .int v_isBest, .ref f_bestOne, .ref f_basis, .int v_vectors, .ref f_one, .int v_isOne, .ref f_along, .ref f_now])), (f_basis, .inl (k_basis, 36, .inr (.inl u_basis)))] H → va_D A [(m0, .inr (9, [.int v_thrown, .ref f_text, .int v_length, .int v_wrong, .ref f_kinds, .ref f_places, .ref f_values, .int v_words, .ref f_draftLetters, .int v_draftVariables, .int v_draftSlacks, .int v_draftRows, .ref f_draftNumbers, .ref f_draftSigns, .int v_known, .int v_rows, .int v_variables, .int v_columns, .ref f_letters, .ref f_numbers, .ref f_isList, .ref f_bounds, .ref f_sizes, .ref f_lists, .ref f_told, .ref f_costs, .int v_isSplit, .ref f_times, .int v_isBest, .ref f_bestOne, .ref f_basis, .int v_vectors, .ref f_one, .int v_isOne, .ref f_along, .ref f_now])), (f_basis, .inl (k_basis, 36, .inr (.inl u_basis)))] → va_S A s.heap H locs → lv_has ls 3 [(0, .ref m0), (1, .int a1), (2, .int x2i)] → W p l e R s m ([.ref m0, .int a1] : List Value).toArray below meth c H locs 0 0 Q (F0 m 2 ls []))) ?_ ?_ ?_
  · exact fun _ _ _ _ _ hs => by cases hs
  · intro k9 ih
    skip
    intro H locs ls x2i u_basis hs hP hD hS hl
    rw [sm_it_succ, fn_MO_turn_q2] at hs
    unfold fn_MO_turn_b2 at hs
    refine lv_iload_n hx hb d_MO_turn_2 rfl (lv_at hl 2 rfl) ?_
    refine lv_aload_n hx hb d_MO_turn_3 rfl (lv_at hl 0 rfl) ?_
    refine va_get (D := (dC, dI)) (ci := 9) (v := .int v_columns) (C := R_MO) (T := T_MO) (N := 36) hx hb hts in_MO hown hK hP 0 rfl rfl 17 (by decide) (hts _ k_903) (fun _ h9 => h9) rfl d_MO_turn_4 ?_
    refine lv_icmp_ge (tgt := 39) hx hb d_MO_turn_7 (by decide) (fun hc1 => ?_) (fun hc1 => ?_)
    · have hs := sm_pos hc1 hs
      have he := sm_end hs
      subst he
      exact W.vret hx hb hr (fun t ht hW => ⟨⟨(), rfl, trivial, by rw [ht]; exact hP, va_K.moved hW.alike hK, hD⟩, hS.F ht⟩) hS.2.2 d_MO_turn_39
    · have hs := sm_neg hc1 hs
      refine lv_aload_n hx hb d_MO_turn_10 rfl (lv_at hl 0 rfl) ?_
      refine va_get (D := (dC, dI)) (ci := 9) (v := .ref f_basis) (C := R_MO) (T := T_MO) (N := 36) hx hb hts in_MO hown hK hP 0 rfl rfl 30 (by decide) (hts _ k_916) (fun _ h9 => h9) rfl d_MO_turn_11 ?_
      refine lv_bipush (v := 6) hx hb d_MO_turn_14 (by decide) ?_
      refine lv_iload_n hx hb d_MO_turn_16 rfl (lv_at hl 1 rfl) ?_
      refine lv_imul hx hb d_MO_turn_17 ?_
      refine lv_iload_n hx hb d_MO_turn_18 rfl (lv_at hl 2 rfl) ?_
      refine lv_iadd hx hb d_MO_turn_19 ?_
      refine lv_aload_n hx hb d_MO_turn_20 rfl (lv_at hl 0 rfl) ?_
      refine va_get (D := (dC, dI)) (ci := 9) (v := .ref f_basis) (C := R_MO) (T := T_MO) (N := 36) hx hb hts in_MO hown hK hP 0 rfl rfl 30 (by decide) (hts _ k_916) (fun _ h9 => h9) rfl d_MO_turn_21 ?_
      refine lv_bipush (v := 6) hx hb d_MO_turn_24 (by decide) ?_
      refine lv_iload_n hx hb d_MO_turn_26 rfl (lv_at hl 1 rfl) ?_
      refine lv_imul hx hb d_MO_turn_27 ?_
      refine lv_iload_n hx hb d_MO_turn_28 rfl (lv_at hl 2 rfl) ?_
      refine lv_iadd hx hb d_MO_turn_29 ?_
      obtain ⟨hg1, hs⟩ := sm_gd hs
      refine va_lald hx hb hK hP 1 0 rfl rfl hg1 d_MO_turn_30 ?_
      refine lv_lneg hx hb d_MO_turn_31 ?_
      obtain ⟨hg2, hs⟩ := sm_gd hs
      refine va_last hx hb hK hP hD hS 1 0 rfl rfl hg2 d_MO_turn_32 (fun H1 locs hP hD hS => ?_)
      have hP : va_P (dC, dI) cls [(m0, .inr (9, [.int v_thrown, .ref f_text, .int v_length, .int v_wrong, .ref f_kinds, .ref f_places, .ref f_values, .int v_words, .ref f_draftLetters, .int v_draftVariables, .int v_draftSlacks, .int v_draftRows, .ref f_draftNumbers, .ref f_draftSigns, .int v_known, .int v_rows, .int v_variables, .int v_columns, .ref f_letters, .ref f_numbers, .ref f_isList, .ref f_bounds, .ref f_sizes, .ref f_lists, .ref f_told, .ref f_costs, .int v_isSplit, .ref f_times, .int v_isBest, .ref f_bestOne, .ref f_basis, .int v_vectors, .ref f_one, .int v_isOne, .ref f_along, .ref f_now])), (f_basis, .inl (k_basis, 36, .inr (.inl (vp_updL u_basis (((6 * a1) + x2i) : Int32).toNatClampNeg (-(u_basis (((6 * a1) + x2i) : Int32).toNatClampNeg))))))] H1 := hP
      have hD : va_D A [(m0, .inr (9, [.int v_thrown, .ref f_text, .int v_length, .int v_wrong, .ref f_kinds, .ref f_places, .ref f_values, .int v_words, .ref f_draftLetters, .int v_draftVariables, .int v_draftSlacks, .int v_draftRows, .ref f_draftNumbers, .ref f_draftSigns, .int v_known, .int v_rows, .int v_variables, .int v_columns, .ref f_letters, .ref f_numbers, .ref f_isList, .ref f_bounds, .ref f_sizes, .ref f_lists, .ref f_told, .ref f_costs, .int v_isSplit, .ref f_times, .int v_isBest, .ref f_bestOne, .ref f_basis, .int v_vectors, .ref f_one, .int v_isOne, .ref f_along, .ref f_now])), (f_basis, .inl (k_basis, 36, .inr (.inl (vp_updL u_basis (((6 * a1) + x2i) : Int32).toNatClampNeg (-(u_basis (((6 * a1) + x2i) : Int32).toNatClampNeg))))))] := hD
      refine lv_iinc (k := 2) (v := (x2i + 1)) hx hb d_MO_turn_33 hl rfl (congrArg (fun z : Int32 => x2i + z) (by decide : Int32.ofInt 1 = 1)) (by decide) rfl (fun ls hl => ?_)
      have hl : lv_has ls 3 [(2, .int (x2i + 1)), (0, .ref m0), (1, .int a1)] := hl
      refine lv_goto (tgt := 2) hx hb d_MO_turn_36 (by decide) ?_
      exact ih _ _ _ _ _ hs hP hD hS (lv_sub hl [1, 2, 0] rfl)
  · intro key
    cases k8 with
    | zero => cases hs
    | succ k9 =>
      rw [sm_it_succ, fn_MO_turn_q0] at hs
      unfold fn_MO_turn_b0 at hs
      refine lv_iconst (v := 0) hx hb d_MO_turn_0 (by decide) ?_
      refine lv_istore_n hx hb d_MO_turn_1 rfl hl (by decide) rfl (fun ls hl => ?_)
      have hl : lv_has ls 3 [(2, .int 0), (0, .ref m0), (1, .int a1)] := hl
      exact (key k9) _ _ _ _ _ hs hP hD hS (lv_sub hl [1, 2, 0] rfl)
