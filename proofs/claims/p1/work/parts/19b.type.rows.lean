set_option maxHeartbeats 4000000 in
set_option maxRecDepth 100000 in
theorem c_MO_type_s (l : Launch) (dC : Nat → ClassId) (dI : Nat → Nat → Nat) (m0 : Nat) (f_text : Nat) (f_kinds : Nat) (f_places : Nat) (f_values : Nat) (f_draftLetters : Nat) (f_draftNumbers : Nat) (f_draftSigns : Nat) (f_letters : Nat) (f_numbers : Nat) (f_isList : Nat) (f_bounds : Nat) (f_sizes : Nat) (f_lists : Nat) (f_told : Nat) (f_costs : Nat) (f_times : Nat) (f_bestOne : Nat) (f_basis : Nat) (f_one : Nat) (f_along : Nat) (f_now : Nat) (th : Int32) (x : Int64) (n : Int32) (sz : Nat) (g0 : n < 1 ∨ 8 < n) : Met l y_MO_type (Cond.code y_MO_type b_MO_type 8 (Option.some Jvm.ClassFile.FieldType.int) :: wd) { frames := 0, cells := 0, slots := 0, locals := 0 } (va_Pc [.ref m0, .long x, .int n] (fun U => U.heap.size = sz ∧ va_P (dC, dI) cls [(m0, .inr (9, [.int th, .ref f_text, .int 0, .int (-1), .ref f_kinds, .ref f_places, .ref f_values, .int 0, .ref f_draftLetters, .int 0, .int 0, .int 0, .ref f_draftNumbers, .ref f_draftSigns, .int 0, .int 0, .int 0, .int 0, .ref f_letters, .ref f_numbers, .ref f_isList, .ref f_bounds, .ref f_sizes, .ref f_lists, .ref f_told, .ref f_costs, .int 0, .ref f_times, .int 0, .ref f_bestOne, .ref f_basis, .int 0, .ref f_one, .int 0, .ref f_along, .ref f_now]))] U.heap ∧ va_K (dC, dI) cls [] U ∧ va_D (fun _ => True) [(m0, .inr (9, [.int th, .ref f_text, .int 0, .int (-1), .ref f_kinds, .ref f_places, .ref f_values, .int 0, .ref f_draftLetters, .int 0, .int 0, .int 0, .ref f_draftNumbers, .ref f_draftSigns, .int 0, .int 0, .int 0, .int 0, .ref f_letters, .ref f_numbers, .ref f_isList, .ref f_bounds, .ref f_sizes, .ref f_lists, .ref f_told, .ref f_costs, .int 0, .ref f_times, .int 0, .ref f_bestOne, .ref f_basis, .int 0, .ref f_one, .int 0, .ref f_along, .ref f_now]))] ∧ nw_ok U)) (va_Qi (fun r (_ : Unit) => r = (-1)) (fun (_ : Unit) t => va_P (dC, dI) cls [(m0, .inr (9, [.int 0, .ref f_text, .int 0, .int (-1), .ref f_kinds, .ref f_places, .ref f_values, .int 0, .ref f_draftLetters, .int 0, .int 0, .int 0, .ref f_draftNumbers, .ref f_draftSigns, .int 0, .int 0, .int 0, .int 0, .ref f_letters, .ref f_numbers, .ref f_isList, .ref f_bounds, .ref f_sizes, .ref f_lists, .ref f_told, .ref f_costs, .int 0, .ref f_times, .int 0, .ref f_bestOne, .ref f_basis, .int 0, .ref f_one, .int 0, .ref f_along, .ref f_now]))] t.heap ∧ va_K (dC, dI) cls [] t ∧ va_D (va_A [(m0, .inr (9, [.int th, .ref f_text, .int 0, .int (-1), .ref f_kinds, .ref f_places, .ref f_values, .int 0, .ref f_draftLetters, .int 0, .int 0, .int 0, .ref f_draftNumbers, .ref f_draftSigns, .int 0, .int 0, .int 0, .int 0, .ref f_letters, .ref f_numbers, .ref f_isList, .ref f_bounds, .ref f_sizes, .ref f_lists, .ref f_told, .ref f_costs, .int 0, .ref f_times, .int 0, .ref f_bestOne, .ref f_basis, .int 0, .ref f_one, .int 0, .ref f_along, .ref f_now]))] sz) [(m0, .inr (9, [.int 0, .ref f_text, .int 0, .int (-1), .ref f_kinds, .ref f_places, .ref f_values, .int 0, .ref f_draftLetters, .int 0, .int 0, .int 0, .ref f_draftNumbers, .ref f_draftSigns, .int 0, .int 0, .int 0, .int 0, .ref f_letters, .ref f_numbers, .ref f_isList, .ref f_bounds, .ref f_sizes, .ref f_lists, .ref f_told, .ref f_costs, .int 0, .ref f_times, .int 0, .ref f_bestOne, .ref f_basis, .int 0, .ref f_one, .int 0, .ref f_along, .ref f_now]))]) (va_A [(m0, .inr (9, [.int th, .ref f_text, .int 0, .int (-1), .ref f_kinds, .ref f_places, .ref f_values, .int 0, .ref f_draftLetters, .int 0, .int 0, .int 0, .ref f_draftNumbers, .ref f_draftSigns, .int 0, .int 0, .int 0, .int 0, .ref f_letters, .ref f_numbers, .ref f_isList, .ref f_bounds, .ref f_sizes, .ref f_lists, .ref f_told, .ref f_costs, .int 0, .ref f_times, .int 0, .ref f_bestOne, .ref f_basis, .int 0, .ref f_one, .int 0, .ref f_along, .ref f_now]))] sz)) 0 0 (va_A [(m0, .inr (9, [.int th, .ref f_text, .int 0, .int (-1), .ref f_kinds, .ref f_places, .ref f_values, .int 0, .ref f_draftLetters, .int 0, .int 0, .int 0, .ref f_draftNumbers, .ref f_draftSigns, .int 0, .int 0, .int 0, .int 0, .ref f_letters, .ref f_numbers, .ref f_isList, .ref f_bounds, .ref f_sizes, .ref f_lists, .ref f_told, .ref f_costs, .int 0, .ref f_times, .int 0, .ref f_bestOne, .ref f_basis, .int 0, .ref f_one, .int 0, .ref f_along, .ref f_now]))] sz) := by
  refine Met.ofW (cc := b_MO_type) (maxL := 8) (ret := (Option.some Jvm.ClassFile.FieldType.int)) (by decide) rfl ?_
  intro p e s m args below meth c s₁ B hml hv
  obtain ⟨rfl, hsz, hP, hK, hD0, hN⟩ := hv
  have hx := B.exec
  have hb := B.bytes
  have hr := B.returns
  have hlocks := B.notSynchronized
  have hts : ∀ w ∈ wd, w.before ([.ref m0, .long x, .int n] : List Value).toArray s = true := fun w hw => atoms_spec (ws := (Cond.code y_MO_type b_MO_type 8 (Option.some Jvm.ClassFile.FieldType.int) :: wd)) B.pre w (List.mem_cons_of_mem _ hw)
  have hown : s.vm.findClass "LeastSolutionsModel" = some m.cls := findClass_of_methodNamed B.named
  subst hsz
  have hD := hD0.self (sz := s.heap.size)
  generalize hAe : va_A [(m0, .inr (9, [.int th, .ref f_text, .int 0, .int (-1), .ref f_kinds, .ref f_places, .ref f_values, .int 0, .ref f_draftLetters, .int 0, .int 0, .int 0, .ref f_draftNumbers, .ref f_draftSigns, .int 0, .int 0, .int 0, .int 0, .ref f_letters, .ref f_numbers, .ref f_isList, .ref f_bounds, .ref f_sizes, .ref f_lists, .ref f_told, .ref f_costs, .int 0, .ref f_times, .int 0, .ref f_bestOne, .ref f_basis, .int 0, .ref f_one, .int 0, .ref f_along, .ref f_now]))] s.heap.size = A at hD ⊢
  have hA : ∀ q : Nat, s.heap.size ≤ q → A q := fun q h => by rw [← hAe]; exact Or.inr h
  have hS : va_S A s.heap s.heap [] := va_S.rf
  have hl := lv_entry ([.ref m0, .long x, .int n]) (n := 8) (Nat.le_of_ble_eq_true rfl)
  rw [lg_entry_eq]
  generalize (lg_sl ([.ref m0, .long x, .int n]) ++ List.replicate (8 - (lg_sl ([.ref m0, .long x, .int n])).length) Slot.unset).toArray = ls at hl ⊢
  have hl : lv_has ls 8 [(0, .ref m0), (1, .long x), (3, .int n)] := hl
  refine lv_aload_n hx hb d_MO_type_0 rfl (lv_at hl 0 rfl) ?_
  refine lv_iconst (v := 0) hx hb d_MO_type_1 (by decide) ?_
  refine va_put (D := (dC, dI)) (ci := 9) (v := .int 0) (ty := .int) (C := R_MO) (T := T_MO) (N := 36) hx hb hts in_MO t_MO t_MO_ok n_MO hown hK hP hD hS 0 rfl rfl 0 (by decide) (hts _ k_886) (fun _ h9 => h9) rfl (by decide +kernel) rfl rfl (Nat.le_of_ble_eq_true rfl) d_MO_type_2 (fun H1 locs hP hD hS => ?_)
  have hP : va_P (dC, dI) cls [(m0, .inr (9, [.int 0, .ref f_text, .int 0, .int (-1), .ref f_kinds, .ref f_places, .ref f_values, .int 0, .ref f_draftLetters, .int 0, .int 0, .int 0, .ref f_draftNumbers, .ref f_draftSigns, .int 0, .int 0, .int 0, .int 0, .ref f_letters, .ref f_numbers, .ref f_isList, .ref f_bounds, .ref f_sizes, .ref f_lists, .ref f_told, .ref f_costs, .int 0, .ref f_times, .int 0, .ref f_bestOne, .ref f_basis, .int 0, .ref f_one, .int 0, .ref f_along, .ref f_now]))] H1 := hP
  have hD : va_D A [(m0, .inr (9, [.int 0, .ref f_text, .int 0, .int (-1), .ref f_kinds, .ref f_places, .ref f_values, .int 0, .ref f_draftLetters, .int 0, .int 0, .int 0, .ref f_draftNumbers, .ref f_draftSigns, .int 0, .int 0, .int 0, .int 0, .ref f_letters, .ref f_numbers, .ref f_isList, .ref f_bounds, .ref f_sizes, .ref f_lists, .ref f_told, .ref f_costs, .int 0, .ref f_times, .int 0, .ref f_bestOne, .ref f_basis, .int 0, .ref f_one, .int 0, .ref f_along, .ref f_now]))] := hD
  refine lv_iload_n hx hb d_MO_type_5 rfl (lv_at hl 2 rfl) ?_
  refine lv_iconst (v := 1) hx hb d_MO_type_6 (by decide) ?_
  refine lv_icmp_lt (tgt := 32) hx hb d_MO_type_7 (by decide) (fun hc1 => ?_) (fun hc1 => ?_)
  · refine lv_iconst (v := 0) hx hb d_MO_type_32 (by decide) ?_
    refine lv_istore hx hb d_MO_type_33 hl (by decide) rfl (fun ls hl => ?_)
    have hl : lv_has ls 8 [(4, .int 0), (0, .ref m0), (1, .long x), (3, .int n)] := hl
    refine lv_iconst (v := 0) hx hb d_MO_type_35 (by decide) ?_
    refine lv_istore hx hb d_MO_type_36 hl (by decide) rfl (fun ls hl => ?_)
    have hl : lv_has ls 8 [(5, .int 0), (4, .int 0), (0, .ref m0), (1, .long x), (3, .int n)] := hl
    refine lv_iload hx hb d_MO_type_38 (lv_at hl 1 rfl) ?_
    refine lv_if_eq (tgt := 93) hx hb d_MO_type_40 (by decide) (fun _ => ?_) (fun h9 => absurd (by decide) h9)
    refine lv_iload hx hb d_MO_type_93 (lv_at hl 1 rfl) ?_
    refine lv_if_ne (tgt := 100) hx hb d_MO_type_95 (by decide) (fun h9 => absurd (by decide) h9) (fun _ => ?_)
    refine lv_iconst (v := (-1)) hx hb d_MO_type_98 (by decide) ?_
    have hP9 := hP.sub (ws' := [(m0, .inr (9, [.int 0, .ref f_text, .int 0, .int (-1), .ref f_kinds, .ref f_places, .ref f_values, .int 0, .ref f_draftLetters, .int 0, .int 0, .int 0, .ref f_draftNumbers, .ref f_draftSigns, .int 0, .int 0, .int 0, .int 0, .ref f_letters, .ref f_numbers, .ref f_isList, .ref f_bounds, .ref f_sizes, .ref f_lists, .ref f_told, .ref f_costs, .int 0, .ref f_times, .int 0, .ref f_bestOne, .ref f_basis, .int 0, .ref f_one, .int 0, .ref f_along, .ref f_now]))]) [0] rfl
    have hD9 := hD.sub (ws' := [(m0, .inr (9, [.int 0, .ref f_text, .int 0, .int (-1), .ref f_kinds, .ref f_places, .ref f_values, .int 0, .ref f_draftLetters, .int 0, .int 0, .int 0, .ref f_draftNumbers, .ref f_draftSigns, .int 0, .int 0, .int 0, .int 0, .ref f_letters, .ref f_numbers, .ref f_isList, .ref f_bounds, .ref f_sizes, .ref f_lists, .ref f_told, .ref f_costs, .int 0, .ref f_times, .int 0, .ref f_bestOne, .ref f_basis, .int 0, .ref f_one, .int 0, .ref f_along, .ref f_now]))]) [0] (by decide) rfl
    have hK9 := hK.sub (tys' := []) [] rfl
    exact W.iret (v := (-1)) hx hb hr (fun t ht hW => ⟨⟨(-1), (), rfl, rfl, by rw [ht]; exact hP9, va_K.moved hW.alike hK9, hD9⟩, hS.F ht⟩) hS.2.2 d_MO_type_99
  · refine lv_iload_n hx hb d_MO_type_10 rfl (lv_at hl 2 rfl) ?_
    refine lv_bipush (v := 8) hx hb d_MO_type_11 (by decide) ?_
    refine lv_icmp_gt (tgt := 32) hx hb d_MO_type_13 (by decide) (fun _ => ?_) (fun h9 => absurd (g0.resolve_left hc1) h9)
    refine lv_iconst (v := 0) hx hb d_MO_type_32 (by decide) ?_
    refine lv_istore hx hb d_MO_type_33 hl (by decide) rfl (fun ls hl => ?_)
    have hl : lv_has ls 8 [(4, .int 0), (0, .ref m0), (1, .long x), (3, .int n)] := hl
    refine lv_iconst (v := 0) hx hb d_MO_type_35 (by decide) ?_
    refine lv_istore hx hb d_MO_type_36 hl (by decide) rfl (fun ls hl => ?_)
    have hl : lv_has ls 8 [(5, .int 0), (4, .int 0), (0, .ref m0), (1, .long x), (3, .int n)] := hl
    refine lv_iload hx hb d_MO_type_38 (lv_at hl 1 rfl) ?_
    refine lv_if_eq (tgt := 93) hx hb d_MO_type_40 (by decide) (fun _ => ?_) (fun h9 => absurd (by decide) h9)
    refine lv_iload hx hb d_MO_type_93 (lv_at hl 1 rfl) ?_
    refine lv_if_ne (tgt := 100) hx hb d_MO_type_95 (by decide) (fun h9 => absurd (by decide) h9) (fun _ => ?_)
    refine lv_iconst (v := (-1)) hx hb d_MO_type_98 (by decide) ?_
    have hP9 := hP.sub (ws' := [(m0, .inr (9, [.int 0, .ref f_text, .int 0, .int (-1), .ref f_kinds, .ref f_places, .ref f_values, .int 0, .ref f_draftLetters, .int 0, .int 0, .int 0, .ref f_draftNumbers, .ref f_draftSigns, .int 0, .int 0, .int 0, .int 0, .ref f_letters, .ref f_numbers, .ref f_isList, .ref f_bounds, .ref f_sizes, .ref f_lists, .ref f_told, .ref f_costs, .int 0, .ref f_times, .int 0, .ref f_bestOne, .ref f_basis, .int 0, .ref f_one, .int 0, .ref f_along, .ref f_now]))]) [0] rfl
    have hD9 := hD.sub (ws' := [(m0, .inr (9, [.int 0, .ref f_text, .int 0, .int (-1), .ref f_kinds, .ref f_places, .ref f_values, .int 0, .ref f_draftLetters, .int 0, .int 0, .int 0, .ref f_draftNumbers, .ref f_draftSigns, .int 0, .int 0, .int 0, .int 0, .ref f_letters, .ref f_numbers, .ref f_isList, .ref f_bounds, .ref f_sizes, .ref f_lists, .ref f_told, .ref f_costs, .int 0, .ref f_times, .int 0, .ref f_bestOne, .ref f_basis, .int 0, .ref f_one, .int 0, .ref f_along, .ref f_now]))]) [0] (by decide) rfl
    have hK9 := hK.sub (tys' := []) [] rfl
    exact W.iret (v := (-1)) hx hb hr (fun t ht hW => ⟨⟨(-1), (), rfl, rfl, by rw [ht]; exact hP9, va_K.moved hW.alike hK9, hD9⟩, hS.F ht⟩) hS.2.2 d_MO_type_99

set_option maxHeartbeats 4000000 in
set_option maxRecDepth 100000 in
theorem c_MO_type_1y (l : Launch) (dC : Nat → ClassId) (dI : Nat → Nat → Nat) (m0 : Nat) (f_text : Nat) (f_kinds : Nat) (f_places : Nat) (f_values : Nat) (f_draftLetters : Nat) (f_draftNumbers : Nat) (f_draftSigns : Nat) (f_letters : Nat) (f_numbers : Nat) (f_isList : Nat) (f_bounds : Nat) (f_sizes : Nat) (f_lists : Nat) (f_told : Nat) (f_costs : Nat) (f_times : Nat) (f_bestOne : Nat) (f_basis : Nat) (f_one : Nat) (f_along : Nat) (f_now : Nat) (th : Int32) (cX : ClassId) (x : Int64) (sz : Nat) (g : ok x 0) : Met l y_MO_type (Cond.code y_MO_type b_MO_type 8 (Option.some Jvm.ClassFile.FieldType.int) :: wd) { frames := 0, cells := 0, slots := 0, locals := 0 } (va_Pc [.ref m0, .long x, .int 1] (fun U => U.heap.size = sz ∧ va_P (dC, dI) cls [(m0, .inr (9, [.int th, .ref f_text, .int 0, .int (-1), .ref f_kinds, .ref f_places, .ref f_values, .int 0, .ref f_draftLetters, .int 0, .int 0, .int 0, .ref f_draftNumbers, .ref f_draftSigns, .int 0, .int 0, .int 0, .int 0, .ref f_letters, .ref f_numbers, .ref f_isList, .ref f_bounds, .ref f_sizes, .ref f_lists, .ref f_told, .ref f_costs, .int 0, .ref f_times, .int 0, .ref f_bestOne, .ref f_basis, .int 0, .ref f_one, .int 0, .ref f_along, .ref f_now])), (f_text, .inl (cX, 300, .inl (fun _ => (0 : Int32))))] U.heap ∧ va_K (dC, dI) cls [(cX, .int)] U ∧ va_D (fun _ => True) [(m0, .inr (9, [.int th, .ref f_text, .int 0, .int (-1), .ref f_kinds, .ref f_places, .ref f_values, .int 0, .ref f_draftLetters, .int 0, .int 0, .int 0, .ref f_draftNumbers, .ref f_draftSigns, .int 0, .int 0, .int 0, .int 0, .ref f_letters, .ref f_numbers, .ref f_isList, .ref f_bounds, .ref f_sizes, .ref f_lists, .ref f_told, .ref f_costs, .int 0, .ref f_times, .int 0, .ref f_bestOne, .ref f_basis, .int 0, .ref f_one, .int 0, .ref f_along, .ref f_now])), (f_text, .inl (cX, 300, .inl (fun _ => (0 : Int32))))] ∧ nw_ok U)) (va_Qi (fun r (_ : Unit) => r = 1) (fun (_ : Unit) t => va_P (dC, dI) cls [(m0, .inr (9, [.int 0, .ref f_text, .int 1, .int (-1), .ref f_kinds, .ref f_places, .ref f_values, .int 0, .ref f_draftLetters, .int 0, .int 0, .int 0, .ref f_draftNumbers, .ref f_draftSigns, .int 0, .int 0, .int 0, .int 0, .ref f_letters, .ref f_numbers, .ref f_isList, .ref f_bounds, .ref f_sizes, .ref f_lists, .ref f_told, .ref f_costs, .int 0, .ref f_times, .int 0, .ref f_bestOne, .ref f_basis, .int 0, .ref f_one, .int 0, .ref f_along, .ref f_now]))] t.heap ∧ va_K (dC, dI) cls [(cX, .int)] t ∧ va_D (va_A [(m0, .inr (9, [.int th, .ref f_text, .int 0, .int (-1), .ref f_kinds, .ref f_places, .ref f_values, .int 0, .ref f_draftLetters, .int 0, .int 0, .int 0, .ref f_draftNumbers, .ref f_draftSigns, .int 0, .int 0, .int 0, .int 0, .ref f_letters, .ref f_numbers, .ref f_isList, .ref f_bounds, .ref f_sizes, .ref f_lists, .ref f_told, .ref f_costs, .int 0, .ref f_times, .int 0, .ref f_bestOne, .ref f_basis, .int 0, .ref f_one, .int 0, .ref f_along, .ref f_now])), (f_text, .inl (cX, 300, .inl (fun _ => (0 : Int32))))] sz) [(m0, .inr (9, [.int 0, .ref f_text, .int 1, .int (-1), .ref f_kinds, .ref f_places, .ref f_values, .int 0, .ref f_draftLetters, .int 0, .int 0, .int 0, .ref f_draftNumbers, .ref f_draftSigns, .int 0, .int 0, .int 0, .int 0, .ref f_letters, .ref f_numbers, .ref f_isList, .ref f_bounds, .ref f_sizes, .ref f_lists, .ref f_told, .ref f_costs, .int 0, .ref f_times, .int 0, .ref f_bestOne, .ref f_basis, .int 0, .ref f_one, .int 0, .ref f_along, .ref f_now]))]) (va_A [(m0, .inr (9, [.int th, .ref f_text, .int 0, .int (-1), .ref f_kinds, .ref f_places, .ref f_values, .int 0, .ref f_draftLetters, .int 0, .int 0, .int 0, .ref f_draftNumbers, .ref f_draftSigns, .int 0, .int 0, .int 0, .int 0, .ref f_letters, .ref f_numbers, .ref f_isList, .ref f_bounds, .ref f_sizes, .ref f_lists, .ref f_told, .ref f_costs, .int 0, .ref f_times, .int 0, .ref f_bestOne, .ref f_basis, .int 0, .ref f_one, .int 0, .ref f_along, .ref f_now])), (f_text, .inl (cX, 300, .inl (fun _ => (0 : Int32))))] sz)) 0 0 (va_A [(m0, .inr (9, [.int th, .ref f_text, .int 0, .int (-1), .ref f_kinds, .ref f_places, .ref f_values, .int 0, .ref f_draftLetters, .int 0, .int 0, .int 0, .ref f_draftNumbers, .ref f_draftSigns, .int 0, .int 0, .int 0, .int 0, .ref f_letters, .ref f_numbers, .ref f_isList, .ref f_bounds, .ref f_sizes, .ref f_lists, .ref f_told, .ref f_costs, .int 0, .ref f_times, .int 0, .ref f_bestOne, .ref f_basis, .int 0, .ref f_one, .int 0, .ref f_along, .ref f_now])), (f_text, .inl (cX, 300, .inl (fun _ => (0 : Int32))))] sz) := by
  refine Met.ofW (cc := b_MO_type) (maxL := 8) (ret := (Option.some Jvm.ClassFile.FieldType.int)) (by decide) rfl ?_
  intro p e s m args below meth c s₁ B hml hv
  obtain ⟨rfl, hsz, hP, hK, hD0, hN⟩ := hv
  have hx := B.exec
  have hb := B.bytes
  have hr := B.returns
  have hlocks := B.notSynchronized
  have hts : ∀ w ∈ wd, w.before ([.ref m0, .long x, .int 1] : List Value).toArray s = true := fun w hw => atoms_spec (ws := (Cond.code y_MO_type b_MO_type 8 (Option.some Jvm.ClassFile.FieldType.int) :: wd)) B.pre w (List.mem_cons_of_mem _ hw)
  have hown : s.vm.findClass "LeastSolutionsModel" = some m.cls := findClass_of_methodNamed B.named
  subst hsz
  have hD := hD0.self (sz := s.heap.size)
  generalize hAe : va_A [(m0, .inr (9, [.int th, .ref f_text, .int 0, .int (-1), .ref f_kinds, .ref f_places, .ref f_values, .int 0, .ref f_draftLetters, .int 0, .int 0, .int 0, .ref f_draftNumbers, .ref f_draftSigns, .int 0, .int 0, .int 0, .int 0, .ref f_letters, .ref f_numbers, .ref f_isList, .ref f_bounds, .ref f_sizes, .ref f_lists, .ref f_told, .ref f_costs, .int 0, .ref f_times, .int 0, .ref f_bestOne, .ref f_basis, .int 0, .ref f_one, .int 0, .ref f_along, .ref f_now])), (f_text, .inl (cX, 300, .inl (fun _ => (0 : Int32))))] s.heap.size = A at hD ⊢
  have hA : ∀ q : Nat, s.heap.size ≤ q → A q := fun q h => by rw [← hAe]; exact Or.inr h
  have hS : va_S A s.heap s.heap [] := va_S.rf
  have hl := lv_entry ([.ref m0, .long x, .int 1]) (n := 8) (Nat.le_of_ble_eq_true rfl)
  rw [lg_entry_eq]
  generalize (lg_sl ([.ref m0, .long x, .int 1]) ++ List.replicate (8 - (lg_sl ([.ref m0, .long x, .int 1])).length) Slot.unset).toArray = ls at hl ⊢
  have hl : lv_has ls 8 [(0, .ref m0), (1, .long x), (3, .int 1)] := hl
  refine lv_aload_n hx hb d_MO_type_0 rfl (lv_at hl 0 rfl) ?_
  refine lv_iconst (v := 0) hx hb d_MO_type_1 (by decide) ?_
  refine va_put (D := (dC, dI)) (ci := 9) (v := .int 0) (ty := .int) (C := R_MO) (T := T_MO) (N := 36) hx hb hts in_MO t_MO t_MO_ok n_MO hown hK hP hD hS 0 rfl rfl 0 (by decide) (hts _ k_886) (fun _ h9 => h9) rfl (by decide +kernel) rfl rfl (Nat.le_of_ble_eq_true rfl) d_MO_type_2 (fun H1 locs hP hD hS => ?_)
  have hP : va_P (dC, dI) cls [(m0, .inr (9, [.int 0, .ref f_text, .int 0, .int (-1), .ref f_kinds, .ref f_places, .ref f_values, .int 0, .ref f_draftLetters, .int 0, .int 0, .int 0, .ref f_draftNumbers, .ref f_draftSigns, .int 0, .int 0, .int 0, .int 0, .ref f_letters, .ref f_numbers, .ref f_isList, .ref f_bounds, .ref f_sizes, .ref f_lists, .ref f_told, .ref f_costs, .int 0, .ref f_times, .int 0, .ref f_bestOne, .ref f_basis, .int 0, .ref f_one, .int 0, .ref f_along, .ref f_now])), (f_text, .inl (cX, 300, .inl (fun _ => (0 : Int32))))] H1 := hP
  have hD : va_D A [(m0, .inr (9, [.int 0, .ref f_text, .int 0, .int (-1), .ref f_kinds, .ref f_places, .ref f_values, .int 0, .ref f_draftLetters, .int 0, .int 0, .int 0, .ref f_draftNumbers, .ref f_draftSigns, .int 0, .int 0, .int 0, .int 0, .ref f_letters, .ref f_numbers, .ref f_isList, .ref f_bounds, .ref f_sizes, .ref f_lists, .ref f_told, .ref f_costs, .int 0, .ref f_times, .int 0, .ref f_bestOne, .ref f_basis, .int 0, .ref f_one, .int 0, .ref f_along, .ref f_now])), (f_text, .inl (cX, 300, .inl (fun _ => (0 : Int32))))] := hD
  refine lv_iload_n hx hb d_MO_type_5 rfl (lv_at hl 2 rfl) ?_
  refine lv_iconst (v := 1) hx hb d_MO_type_6 (by decide) ?_
  refine lv_icmp_lt (tgt := 32) hx hb d_MO_type_7 (by decide) (fun h9 => absurd h9 (by decide)) (fun _ => ?_)
  refine lv_iload_n hx hb d_MO_type_10 rfl (lv_at hl 2 rfl) ?_
  refine lv_bipush (v := 8) hx hb d_MO_type_11 (by decide) ?_
  refine lv_icmp_gt (tgt := 32) hx hb d_MO_type_13 (by decide) (fun h9 => absurd h9 (by decide)) (fun _ => ?_)
  refine lv_aload_n hx hb d_MO_type_16 rfl (lv_at hl 0 rfl) ?_
  refine va_get (D := (dC, dI)) (ci := 9) (v := .int 0) (C := R_MO) (T := T_MO) (N := 36) hx hb hts in_MO hown hK hP 0 rfl rfl 2 (by decide) (hts _ k_888) (fun _ h9 => h9) rfl d_MO_type_17 ?_
  refine lv_iload_n hx hb d_MO_type_20 rfl (lv_at hl 2 rfl) ?_
  refine lv_iadd hx hb d_MO_type_21 ?_
  refine W.eq (g2 := F0 m 22 ls [.int 1]) rfl ?_
  refine lv_sipush (v := 300) hx hb d_MO_type_22 (by decide) ?_
  refine lv_icmp_gt (tgt := 32) hx hb d_MO_type_25 (by decide) (fun h9 => absurd h9 (by decide)) (fun _ => ?_)
  refine lv_iconst (v := 1) hx hb d_MO_type_28 (by decide) ?_
  refine lv_goto (tgt := 33) hx hb d_MO_type_29 (by decide) ?_
  refine lv_istore hx hb d_MO_type_33 hl (by decide) rfl (fun ls hl => ?_)
  have hl : lv_has ls 8 [(4, .int 1), (0, .ref m0), (1, .long x), (3, .int 1)] := hl
  refine lv_iconst (v := 0) hx hb d_MO_type_35 (by decide) ?_
  refine lv_istore hx hb d_MO_type_36 hl (by decide) rfl (fun ls hl => ?_)
  have hl : lv_has ls 8 [(5, .int 0), (4, .int 1), (0, .ref m0), (1, .long x), (3, .int 1)] := hl
  refine lv_iload hx hb d_MO_type_38 (lv_at hl 1 rfl) ?_
  refine lv_if_eq (tgt := 93) hx hb d_MO_type_40 (by decide) (fun h9 => absurd h9 (by decide)) (fun _ => ?_)
  refine lv_iload hx hb d_MO_type_43 (lv_at hl 0 rfl) ?_
  refine lv_iload_n hx hb d_MO_type_45 rfl (lv_at hl 4 rfl) ?_
  refine lv_icmp_ge (tgt := 93) hx hb d_MO_type_46 (by decide) (fun h9 => absurd h9 (by decide)) (fun _ => ?_)
  refine lv_lload_n hx hb d_MO_type_49 rfl (lv_at hl 3 rfl) ?_
  refine lv_bipush (v := 8) hx hb d_MO_type_50 (by decide) ?_
  refine lv_iload hx hb d_MO_type_52 (lv_at hl 0 rfl) ?_
  refine lv_imul hx hb d_MO_type_54 ?_
  refine lv_lshr (v := (x >>> (((8 * 0) : Int32).toInt64 &&& 63))) hx hb d_MO_type_55 rfl ?_
  refine lv_ldc2 (v := 255) hx hb hown (hts _ k_1004) d_MO_type_56 ?_
  refine lv_land hx hb d_MO_type_59 ?_
  refine W.eq (g2 := F0 m 60 ls [.long (bm x 0)]) rfl ?_
  refine lv_lstore hx hb d_MO_type_60 hl (by decide) rfl (fun ls hl => ?_)
  have hl : lv_has ls 8 [(6, .long (bm x 0)), (5, .int 0), (4, .int 1), (0, .ref m0), (1, .long x), (3, .int 1)] := hl
  refine lv_lload hx hb d_MO_type_62 (lv_at hl 0 rfl) ?_
  refine lv_ldc2 (v := 32) hx hb hown (hts _ k_1005) d_MO_type_64 ?_
  refine W.lcmp hx hb d_MO_type_67 ?_
  refine lv_if_lt (tgt := 84) hx hb d_MO_type_68 (by decide) (fun h9 => absurd h9 (okm1 (d := 0) (by decide +kernel) (by decide) (g))) (fun _ => ?_)
  refine lv_lload hx hb d_MO_type_71 (lv_at hl 0 rfl) ?_
  refine lv_ldc2 (v := 126) hx hb hown (hts _ k_1006) d_MO_type_73 ?_
  refine W.lcmp hx hb d_MO_type_76 ?_
  refine lv_if_gt (tgt := 84) hx hb d_MO_type_77 (by decide) (fun h9 => absurd h9 (okm2 (d := 0) (by decide +kernel) (by decide) (g))) (fun _ => ?_)
  refine lv_iconst (v := 1) hx hb d_MO_type_80 (by decide) ?_
  refine lv_goto (tgt := 85) hx hb d_MO_type_81 (by decide) ?_
  refine lv_istore hx hb d_MO_type_85 hl (by decide) rfl (fun ls hl => ?_)
  have hl : lv_has ls 8 [(4, .int 1), (6, .long (bm x 0)), (5, .int 0), (0, .ref m0), (1, .long x), (3, .int 1)] := hl
  refine lv_iinc (k := 2) (v := 1) hx hb d_MO_type_87 hl rfl (by decide) (by decide) rfl (fun ls hl => ?_)
  have hl : lv_has ls 8 [(5, .int 1), (4, .int 1), (6, .long (bm x 0)), (0, .ref m0), (1, .long x), (3, .int 1)] := hl
  refine lv_goto (tgt := 38) hx hb d_MO_type_90 (by decide) ?_
  refine lv_iload hx hb d_MO_type_38 (lv_at hl 1 rfl) ?_
  refine lv_if_eq (tgt := 93) hx hb d_MO_type_40 (by decide) (fun h9 => absurd h9 (by decide)) (fun _ => ?_)
  refine lv_iload hx hb d_MO_type_43 (lv_at hl 0 rfl) ?_
  refine lv_iload_n hx hb d_MO_type_45 rfl (lv_at hl 5 rfl) ?_
  refine lv_icmp_ge (tgt := 93) hx hb d_MO_type_46 (by decide) (fun _ => ?_) (fun h9 => absurd (by decide) h9)
  refine lv_iload hx hb d_MO_type_93 (lv_at hl 1 rfl) ?_
  refine lv_if_ne (tgt := 100) hx hb d_MO_type_95 (by decide) (fun _ => ?_) (fun h9 => absurd h9 (by decide))
  refine lv_iload_n hx hb d_MO_type_100 rfl (lv_at hl 5 rfl) ?_
  refine lv_iconst (v := 1) hx hb d_MO_type_101 (by decide) ?_
  refine lv_isub hx hb d_MO_type_102 ?_
  refine W.eq (g2 := F0 m 103 ls [.int 0]) rfl ?_
  refine lv_istore hx hb d_MO_type_103 hl (by decide) rfl (fun ls hl => ?_)
  have hl : lv_has ls 8 [(5, .int 0), (4, .int 1), (6, .long (bm x 0)), (0, .ref m0), (1, .long x), (3, .int 1)] := hl
  refine lv_iload hx hb d_MO_type_105 (lv_at hl 0 rfl) ?_
  refine lv_if_lt (tgt := 147) hx hb d_MO_type_107 (by decide) (fun h9 => absurd h9 (by decide)) (fun _ => ?_)
  refine lv_aload_n hx hb d_MO_type_110 rfl (lv_at hl 3 rfl) ?_
  refine va_get (D := (dC, dI)) (ci := 9) (v := .ref f_text) (C := R_MO) (T := T_MO) (N := 36) hx hb hts in_MO hown hK hP 0 rfl rfl 1 (by decide) (hts _ k_887) (fun _ h9 => h9) rfl d_MO_type_111 ?_
  refine lv_aload_n hx hb d_MO_type_114 rfl (lv_at hl 3 rfl) ?_
  refine va_get (D := (dC, dI)) (ci := 9) (v := .int 0) (C := R_MO) (T := T_MO) (N := 36) hx hb hts in_MO hown hK hP 0 rfl rfl 2 (by decide) (hts _ k_888) (fun _ h9 => h9) rfl d_MO_type_115 ?_
  refine lv_lload_n hx hb d_MO_type_118 rfl (lv_at hl 4 rfl) ?_
  refine lv_bipush (v := 8) hx hb d_MO_type_119 (by decide) ?_
  refine lv_iload hx hb d_MO_type_121 (lv_at hl 0 rfl) ?_
  refine lv_imul hx hb d_MO_type_123 ?_
  refine lv_lshr (v := (x >>> (((8 * 0) : Int32).toInt64 &&& 63))) hx hb d_MO_type_124 rfl ?_
  refine lv_ldc2 (v := 255) hx hb hown (hts _ k_1004) d_MO_type_125 ?_
  refine lv_land hx hb d_MO_type_128 ?_
  refine W.eq (g2 := F0 m 129 ls [.long (bm x 0), .int 0, .ref f_text]) rfl ?_
  refine lv_l2i (v := (bm x 0).toInt32) hx hb d_MO_type_129 rfl ?_
  refine va_iast hx hb hK hP hD hS 1 0 rfl rfl (show ¬ ((0 : Int32) < 0 ∨ 300 ≤ (0 : Int32).toNatClampNeg) from by decide) d_MO_type_130 (fun H2 locs hP hD hS => ?_)
  have hP : va_P (dC, dI) cls [(m0, .inr (9, [.int 0, .ref f_text, .int 0, .int (-1), .ref f_kinds, .ref f_places, .ref f_values, .int 0, .ref f_draftLetters, .int 0, .int 0, .int 0, .ref f_draftNumbers, .ref f_draftSigns, .int 0, .int 0, .int 0, .int 0, .ref f_letters, .ref f_numbers, .ref f_isList, .ref f_bounds, .ref f_sizes, .ref f_lists, .ref f_told, .ref f_costs, .int 0, .ref f_times, .int 0, .ref f_bestOne, .ref f_basis, .int 0, .ref f_one, .int 0, .ref f_along, .ref f_now])), (f_text, .inl (cX, 300, .inl (upd (fun _ => (0 : Int32)) (0 : Int32).toNatClampNeg (bm x 0).toInt32)))] H2 := hP
  have hD : va_D A [(m0, .inr (9, [.int 0, .ref f_text, .int 0, .int (-1), .ref f_kinds, .ref f_places, .ref f_values, .int 0, .ref f_draftLetters, .int 0, .int 0, .int 0, .ref f_draftNumbers, .ref f_draftSigns, .int 0, .int 0, .int 0, .int 0, .ref f_letters, .ref f_numbers, .ref f_isList, .ref f_bounds, .ref f_sizes, .ref f_lists, .ref f_told, .ref f_costs, .int 0, .ref f_times, .int 0, .ref f_bestOne, .ref f_basis, .int 0, .ref f_one, .int 0, .ref f_along, .ref f_now])), (f_text, .inl (cX, 300, .inl (upd (fun _ => (0 : Int32)) (0 : Int32).toNatClampNeg (bm x 0).toInt32)))] := hD
  refine lv_aload_n hx hb d_MO_type_131 rfl (lv_at hl 3 rfl) ?_
  refine lv_dup hx hb d_MO_type_132 rfl ?_
  refine va_get (D := (dC, dI)) (ci := 9) (v := .int 0) (C := R_MO) (T := T_MO) (N := 36) hx hb hts in_MO hown hK hP 0 rfl rfl 2 (by decide) (hts _ k_888) (fun _ h9 => h9) rfl d_MO_type_133 ?_
  refine lv_iconst (v := 1) hx hb d_MO_type_136 (by decide) ?_
  refine lv_iadd hx hb d_MO_type_137 ?_
  refine W.eq (g2 := F0 m 138 ls [.int 1, .ref m0]) rfl ?_
  refine va_put (D := (dC, dI)) (ci := 9) (v := .int 1) (ty := .int) (C := R_MO) (T := T_MO) (N := 36) hx hb hts in_MO t_MO t_MO_ok n_MO hown hK hP hD hS 0 rfl rfl 2 (by decide) (hts _ k_888) (fun _ h9 => h9) rfl (by decide +kernel) rfl rfl (Nat.le_of_ble_eq_true rfl) d_MO_type_138 (fun H3 locs hP hD hS => ?_)
  have hP : va_P (dC, dI) cls [(m0, .inr (9, [.int 0, .ref f_text, .int 1, .int (-1), .ref f_kinds, .ref f_places, .ref f_values, .int 0, .ref f_draftLetters, .int 0, .int 0, .int 0, .ref f_draftNumbers, .ref f_draftSigns, .int 0, .int 0, .int 0, .int 0, .ref f_letters, .ref f_numbers, .ref f_isList, .ref f_bounds, .ref f_sizes, .ref f_lists, .ref f_told, .ref f_costs, .int 0, .ref f_times, .int 0, .ref f_bestOne, .ref f_basis, .int 0, .ref f_one, .int 0, .ref f_along, .ref f_now])), (f_text, .inl (cX, 300, .inl (upd (fun _ => (0 : Int32)) (0 : Int32).toNatClampNeg (bm x 0).toInt32)))] H3 := hP
  have hD : va_D A [(m0, .inr (9, [.int 0, .ref f_text, .int 1, .int (-1), .ref f_kinds, .ref f_places, .ref f_values, .int 0, .ref f_draftLetters, .int 0, .int 0, .int 0, .ref f_draftNumbers, .ref f_draftSigns, .int 0, .int 0, .int 0, .int 0, .ref f_letters, .ref f_numbers, .ref f_isList, .ref f_bounds, .ref f_sizes, .ref f_lists, .ref f_told, .ref f_costs, .int 0, .ref f_times, .int 0, .ref f_bestOne, .ref f_basis, .int 0, .ref f_one, .int 0, .ref f_along, .ref f_now])), (f_text, .inl (cX, 300, .inl (upd (fun _ => (0 : Int32)) (0 : Int32).toNatClampNeg (bm x 0).toInt32)))] := hD
  refine lv_iinc (k := 0) (v := (-1)) hx hb d_MO_type_141 hl rfl (by decide) (by decide) rfl (fun ls hl => ?_)
  have hl : lv_has ls 8 [(5, .int (-1)), (4, .int 1), (6, .long (bm x 0)), (0, .ref m0), (1, .long x), (3, .int 1)] := hl
  refine lv_goto (tgt := 105) hx hb d_MO_type_144 (by decide) ?_
  refine lv_iload hx hb d_MO_type_105 (lv_at hl 0 rfl) ?_
  refine lv_if_lt (tgt := 147) hx hb d_MO_type_107 (by decide) (fun _ => ?_) (fun h9 => absurd (by decide) h9)
  refine lv_aload_n hx hb d_MO_type_147 rfl (lv_at hl 3 rfl) ?_
  refine va_get (D := (dC, dI)) (ci := 9) (v := .int 1) (C := R_MO) (T := T_MO) (N := 36) hx hb hts in_MO hown hK hP 0 rfl rfl 2 (by decide) (hts _ k_888) (fun _ h9 => h9) rfl d_MO_type_148 ?_
  have hP9 := hP.sub (ws' := [(m0, .inr (9, [.int 0, .ref f_text, .int 1, .int (-1), .ref f_kinds, .ref f_places, .ref f_values, .int 0, .ref f_draftLetters, .int 0, .int 0, .int 0, .ref f_draftNumbers, .ref f_draftSigns, .int 0, .int 0, .int 0, .int 0, .ref f_letters, .ref f_numbers, .ref f_isList, .ref f_bounds, .ref f_sizes, .ref f_lists, .ref f_told, .ref f_costs, .int 0, .ref f_times, .int 0, .ref f_bestOne, .ref f_basis, .int 0, .ref f_one, .int 0, .ref f_along, .ref f_now]))]) [0] rfl
  have hD9 := hD.sub (ws' := [(m0, .inr (9, [.int 0, .ref f_text, .int 1, .int (-1), .ref f_kinds, .ref f_places, .ref f_values, .int 0, .ref f_draftLetters, .int 0, .int 0, .int 0, .ref f_draftNumbers, .ref f_draftSigns, .int 0, .int 0, .int 0, .int 0, .ref f_letters, .ref f_numbers, .ref f_isList, .ref f_bounds, .ref f_sizes, .ref f_lists, .ref f_told, .ref f_costs, .int 0, .ref f_times, .int 0, .ref f_bestOne, .ref f_basis, .int 0, .ref f_one, .int 0, .ref f_along, .ref f_now]))]) [0] (by decide) rfl
  have hK9 := hK.sub (tys' := [(cX, .int)]) [0] rfl
  exact W.iret (v := 1) hx hb hr (fun t ht hW => ⟨⟨1, (), rfl, rfl, by rw [ht]; exact hP9, va_K.moved hW.alike hK9, hD9⟩, hS.F ht⟩) hS.2.2 d_MO_type_151

set_option maxHeartbeats 4000000 in
set_option maxRecDepth 100000 in
theorem c_MO_type_1n (l : Launch) (dC : Nat → ClassId) (dI : Nat → Nat → Nat) (m0 : Nat) (f_text : Nat) (f_kinds : Nat) (f_places : Nat) (f_values : Nat) (f_draftLetters : Nat) (f_draftNumbers : Nat) (f_draftSigns : Nat) (f_letters : Nat) (f_numbers : Nat) (f_isList : Nat) (f_bounds : Nat) (f_sizes : Nat) (f_lists : Nat) (f_told : Nat) (f_costs : Nat) (f_times : Nat) (f_bestOne : Nat) (f_basis : Nat) (f_one : Nat) (f_along : Nat) (f_now : Nat) (th : Int32) (x : Int64) (sz : Nat) (g : ¬ (ok x 0)) : Met l y_MO_type (Cond.code y_MO_type b_MO_type 8 (Option.some Jvm.ClassFile.FieldType.int) :: wd) { frames := 0, cells := 0, slots := 0, locals := 0 } (va_Pc [.ref m0, .long x, .int 1] (fun U => U.heap.size = sz ∧ va_P (dC, dI) cls [(m0, .inr (9, [.int th, .ref f_text, .int 0, .int (-1), .ref f_kinds, .ref f_places, .ref f_values, .int 0, .ref f_draftLetters, .int 0, .int 0, .int 0, .ref f_draftNumbers, .ref f_draftSigns, .int 0, .int 0, .int 0, .int 0, .ref f_letters, .ref f_numbers, .ref f_isList, .ref f_bounds, .ref f_sizes, .ref f_lists, .ref f_told, .ref f_costs, .int 0, .ref f_times, .int 0, .ref f_bestOne, .ref f_basis, .int 0, .ref f_one, .int 0, .ref f_along, .ref f_now]))] U.heap ∧ va_K (dC, dI) cls [] U ∧ va_D (fun _ => True) [(m0, .inr (9, [.int th, .ref f_text, .int 0, .int (-1), .ref f_kinds, .ref f_places, .ref f_values, .int 0, .ref f_draftLetters, .int 0, .int 0, .int 0, .ref f_draftNumbers, .ref f_draftSigns, .int 0, .int 0, .int 0, .int 0, .ref f_letters, .ref f_numbers, .ref f_isList, .ref f_bounds, .ref f_sizes, .ref f_lists, .ref f_told, .ref f_costs, .int 0, .ref f_times, .int 0, .ref f_bestOne, .ref f_basis, .int 0, .ref f_one, .int 0, .ref f_along, .ref f_now]))] ∧ nw_ok U)) (va_Qi (fun r (_ : Unit) => r = (-1)) (fun (_ : Unit) t => va_P (dC, dI) cls [(m0, .inr (9, [.int 0, .ref f_text, .int 0, .int (-1), .ref f_kinds, .ref f_places, .ref f_values, .int 0, .ref f_draftLetters, .int 0, .int 0, .int 0, .ref f_draftNumbers, .ref f_draftSigns, .int 0, .int 0, .int 0, .int 0, .ref f_letters, .ref f_numbers, .ref f_isList, .ref f_bounds, .ref f_sizes, .ref f_lists, .ref f_told, .ref f_costs, .int 0, .ref f_times, .int 0, .ref f_bestOne, .ref f_basis, .int 0, .ref f_one, .int 0, .ref f_along, .ref f_now]))] t.heap ∧ va_K (dC, dI) cls [] t ∧ va_D (va_A [(m0, .inr (9, [.int th, .ref f_text, .int 0, .int (-1), .ref f_kinds, .ref f_places, .ref f_values, .int 0, .ref f_draftLetters, .int 0, .int 0, .int 0, .ref f_draftNumbers, .ref f_draftSigns, .int 0, .int 0, .int 0, .int 0, .ref f_letters, .ref f_numbers, .ref f_isList, .ref f_bounds, .ref f_sizes, .ref f_lists, .ref f_told, .ref f_costs, .int 0, .ref f_times, .int 0, .ref f_bestOne, .ref f_basis, .int 0, .ref f_one, .int 0, .ref f_along, .ref f_now]))] sz) [(m0, .inr (9, [.int 0, .ref f_text, .int 0, .int (-1), .ref f_kinds, .ref f_places, .ref f_values, .int 0, .ref f_draftLetters, .int 0, .int 0, .int 0, .ref f_draftNumbers, .ref f_draftSigns, .int 0, .int 0, .int 0, .int 0, .ref f_letters, .ref f_numbers, .ref f_isList, .ref f_bounds, .ref f_sizes, .ref f_lists, .ref f_told, .ref f_costs, .int 0, .ref f_times, .int 0, .ref f_bestOne, .ref f_basis, .int 0, .ref f_one, .int 0, .ref f_along, .ref f_now]))]) (va_A [(m0, .inr (9, [.int th, .ref f_text, .int 0, .int (-1), .ref f_kinds, .ref f_places, .ref f_values, .int 0, .ref f_draftLetters, .int 0, .int 0, .int 0, .ref f_draftNumbers, .ref f_draftSigns, .int 0, .int 0, .int 0, .int 0, .ref f_letters, .ref f_numbers, .ref f_isList, .ref f_bounds, .ref f_sizes, .ref f_lists, .ref f_told, .ref f_costs, .int 0, .ref f_times, .int 0, .ref f_bestOne, .ref f_basis, .int 0, .ref f_one, .int 0, .ref f_along, .ref f_now]))] sz)) 0 0 (va_A [(m0, .inr (9, [.int th, .ref f_text, .int 0, .int (-1), .ref f_kinds, .ref f_places, .ref f_values, .int 0, .ref f_draftLetters, .int 0, .int 0, .int 0, .ref f_draftNumbers, .ref f_draftSigns, .int 0, .int 0, .int 0, .int 0, .ref f_letters, .ref f_numbers, .ref f_isList, .ref f_bounds, .ref f_sizes, .ref f_lists, .ref f_told, .ref f_costs, .int 0, .ref f_times, .int 0, .ref f_bestOne, .ref f_basis, .int 0, .ref f_one, .int 0, .ref f_along, .ref f_now]))] sz) := by
  refine Met.ofW (cc := b_MO_type) (maxL := 8) (ret := (Option.some Jvm.ClassFile.FieldType.int)) (by decide) rfl ?_
  intro p e s m args below meth c s₁ B hml hv
  obtain ⟨rfl, hsz, hP, hK, hD0, hN⟩ := hv
  have hx := B.exec
  have hb := B.bytes
  have hr := B.returns
  have hlocks := B.notSynchronized
  have hts : ∀ w ∈ wd, w.before ([.ref m0, .long x, .int 1] : List Value).toArray s = true := fun w hw => atoms_spec (ws := (Cond.code y_MO_type b_MO_type 8 (Option.some Jvm.ClassFile.FieldType.int) :: wd)) B.pre w (List.mem_cons_of_mem _ hw)
  have hown : s.vm.findClass "LeastSolutionsModel" = some m.cls := findClass_of_methodNamed B.named
  subst hsz
  have hD := hD0.self (sz := s.heap.size)
  generalize hAe : va_A [(m0, .inr (9, [.int th, .ref f_text, .int 0, .int (-1), .ref f_kinds, .ref f_places, .ref f_values, .int 0, .ref f_draftLetters, .int 0, .int 0, .int 0, .ref f_draftNumbers, .ref f_draftSigns, .int 0, .int 0, .int 0, .int 0, .ref f_letters, .ref f_numbers, .ref f_isList, .ref f_bounds, .ref f_sizes, .ref f_lists, .ref f_told, .ref f_costs, .int 0, .ref f_times, .int 0, .ref f_bestOne, .ref f_basis, .int 0, .ref f_one, .int 0, .ref f_along, .ref f_now]))] s.heap.size = A at hD ⊢
  have hA : ∀ q : Nat, s.heap.size ≤ q → A q := fun q h => by rw [← hAe]; exact Or.inr h
  have hS : va_S A s.heap s.heap [] := va_S.rf
  have hl := lv_entry ([.ref m0, .long x, .int 1]) (n := 8) (Nat.le_of_ble_eq_true rfl)
  rw [lg_entry_eq]
  generalize (lg_sl ([.ref m0, .long x, .int 1]) ++ List.replicate (8 - (lg_sl ([.ref m0, .long x, .int 1])).length) Slot.unset).toArray = ls at hl ⊢
  have hl : lv_has ls 8 [(0, .ref m0), (1, .long x), (3, .int 1)] := hl
  refine lv_aload_n hx hb d_MO_type_0 rfl (lv_at hl 0 rfl) ?_
  refine lv_iconst (v := 0) hx hb d_MO_type_1 (by decide) ?_
  refine va_put (D := (dC, dI)) (ci := 9) (v := .int 0) (ty := .int) (C := R_MO) (T := T_MO) (N := 36) hx hb hts in_MO t_MO t_MO_ok n_MO hown hK hP hD hS 0 rfl rfl 0 (by decide) (hts _ k_886) (fun _ h9 => h9) rfl (by decide +kernel) rfl rfl (Nat.le_of_ble_eq_true rfl) d_MO_type_2 (fun H1 locs hP hD hS => ?_)
  have hP : va_P (dC, dI) cls [(m0, .inr (9, [.int 0, .ref f_text, .int 0, .int (-1), .ref f_kinds, .ref f_places, .ref f_values, .int 0, .ref f_draftLetters, .int 0, .int 0, .int 0, .ref f_draftNumbers, .ref f_draftSigns, .int 0, .int 0, .int 0, .int 0, .ref f_letters, .ref f_numbers, .ref f_isList, .ref f_bounds, .ref f_sizes, .ref f_lists, .ref f_told, .ref f_costs, .int 0, .ref f_times, .int 0, .ref f_bestOne, .ref f_basis, .int 0, .ref f_one, .int 0, .ref f_along, .ref f_now]))] H1 := hP
  have hD : va_D A [(m0, .inr (9, [.int 0, .ref f_text, .int 0, .int (-1), .ref f_kinds, .ref f_places, .ref f_values, .int 0, .ref f_draftLetters, .int 0, .int 0, .int 0, .ref f_draftNumbers, .ref f_draftSigns, .int 0, .int 0, .int 0, .int 0, .ref f_letters, .ref f_numbers, .ref f_isList, .ref f_bounds, .ref f_sizes, .ref f_lists, .ref f_told, .ref f_costs, .int 0, .ref f_times, .int 0, .ref f_bestOne, .ref f_basis, .int 0, .ref f_one, .int 0, .ref f_along, .ref f_now]))] := hD
  refine lv_iload_n hx hb d_MO_type_5 rfl (lv_at hl 2 rfl) ?_
  refine lv_iconst (v := 1) hx hb d_MO_type_6 (by decide) ?_
  refine lv_icmp_lt (tgt := 32) hx hb d_MO_type_7 (by decide) (fun h9 => absurd h9 (by decide)) (fun _ => ?_)
  refine lv_iload_n hx hb d_MO_type_10 rfl (lv_at hl 2 rfl) ?_
  refine lv_bipush (v := 8) hx hb d_MO_type_11 (by decide) ?_
  refine lv_icmp_gt (tgt := 32) hx hb d_MO_type_13 (by decide) (fun h9 => absurd h9 (by decide)) (fun _ => ?_)
  refine lv_aload_n hx hb d_MO_type_16 rfl (lv_at hl 0 rfl) ?_
  refine va_get (D := (dC, dI)) (ci := 9) (v := .int 0) (C := R_MO) (T := T_MO) (N := 36) hx hb hts in_MO hown hK hP 0 rfl rfl 2 (by decide) (hts _ k_888) (fun _ h9 => h9) rfl d_MO_type_17 ?_
  refine lv_iload_n hx hb d_MO_type_20 rfl (lv_at hl 2 rfl) ?_
  refine lv_iadd hx hb d_MO_type_21 ?_
  refine W.eq (g2 := F0 m 22 ls [.int 1]) rfl ?_
  refine lv_sipush (v := 300) hx hb d_MO_type_22 (by decide) ?_
  refine lv_icmp_gt (tgt := 32) hx hb d_MO_type_25 (by decide) (fun h9 => absurd h9 (by decide)) (fun _ => ?_)
  refine lv_iconst (v := 1) hx hb d_MO_type_28 (by decide) ?_
  refine lv_goto (tgt := 33) hx hb d_MO_type_29 (by decide) ?_
  refine lv_istore hx hb d_MO_type_33 hl (by decide) rfl (fun ls hl => ?_)
  have hl : lv_has ls 8 [(4, .int 1), (0, .ref m0), (1, .long x), (3, .int 1)] := hl
  refine lv_iconst (v := 0) hx hb d_MO_type_35 (by decide) ?_
  refine lv_istore hx hb d_MO_type_36 hl (by decide) rfl (fun ls hl => ?_)
  have hl : lv_has ls 8 [(5, .int 0), (4, .int 1), (0, .ref m0), (1, .long x), (3, .int 1)] := hl
  refine lv_iload hx hb d_MO_type_38 (lv_at hl 1 rfl) ?_
  refine lv_if_eq (tgt := 93) hx hb d_MO_type_40 (by decide) (fun h9 => absurd h9 (by decide)) (fun _ => ?_)
  refine lv_iload hx hb d_MO_type_43 (lv_at hl 0 rfl) ?_
  refine lv_iload_n hx hb d_MO_type_45 rfl (lv_at hl 4 rfl) ?_
  refine lv_icmp_ge (tgt := 93) hx hb d_MO_type_46 (by decide) (fun h9 => absurd h9 (by decide)) (fun _ => ?_)
  refine lv_lload_n hx hb d_MO_type_49 rfl (lv_at hl 3 rfl) ?_
  refine lv_bipush (v := 8) hx hb d_MO_type_50 (by decide) ?_
  refine lv_iload hx hb d_MO_type_52 (lv_at hl 0 rfl) ?_
  refine lv_imul hx hb d_MO_type_54 ?_
  refine lv_lshr (v := (x >>> (((8 * 0) : Int32).toInt64 &&& 63))) hx hb d_MO_type_55 rfl ?_
  refine lv_ldc2 (v := 255) hx hb hown (hts _ k_1004) d_MO_type_56 ?_
  refine lv_land hx hb d_MO_type_59 ?_
  refine W.eq (g2 := F0 m 60 ls [.long (bm x 0)]) rfl ?_
  refine lv_lstore hx hb d_MO_type_60 hl (by decide) rfl (fun ls hl => ?_)
  have hl : lv_has ls 8 [(6, .long (bm x 0)), (5, .int 0), (4, .int 1), (0, .ref m0), (1, .long x), (3, .int 1)] := hl
  refine lv_lload hx hb d_MO_type_62 (lv_at hl 0 rfl) ?_
  refine lv_ldc2 (v := 32) hx hb hown (hts _ k_1005) d_MO_type_64 ?_
  refine W.lcmp hx hb d_MO_type_67 ?_
  refine lv_if_lt (tgt := 84) hx hb d_MO_type_68 (by decide) (fun hc1 => ?_) (fun hc1 => ?_)
  · refine lv_iconst (v := 0) hx hb d_MO_type_84 (by decide) ?_
    refine lv_istore hx hb d_MO_type_85 hl (by decide) rfl (fun ls hl => ?_)
    have hl : lv_has ls 8 [(4, .int 0), (6, .long (bm x 0)), (5, .int 0), (0, .ref m0), (1, .long x), (3, .int 1)] := hl
    refine lv_iinc (k := 2) (v := 1) hx hb d_MO_type_87 hl rfl (by decide) (by decide) rfl (fun ls hl => ?_)
    have hl : lv_has ls 8 [(5, .int 1), (4, .int 0), (6, .long (bm x 0)), (0, .ref m0), (1, .long x), (3, .int 1)] := hl
    refine lv_goto (tgt := 38) hx hb d_MO_type_90 (by decide) ?_
    refine lv_iload hx hb d_MO_type_38 (lv_at hl 1 rfl) ?_
    refine lv_if_eq (tgt := 93) hx hb d_MO_type_40 (by decide) (fun _ => ?_) (fun h9 => absurd (by decide) h9)
    refine lv_iload hx hb d_MO_type_93 (lv_at hl 1 rfl) ?_
    refine lv_if_ne (tgt := 100) hx hb d_MO_type_95 (by decide) (fun h9 => absurd (by decide) h9) (fun _ => ?_)
    refine lv_iconst (v := (-1)) hx hb d_MO_type_98 (by decide) ?_
    have hP9 := hP.sub (ws' := [(m0, .inr (9, [.int 0, .ref f_text, .int 0, .int (-1), .ref f_kinds, .ref f_places, .ref f_values, .int 0, .ref f_draftLetters, .int 0, .int 0, .int 0, .ref f_draftNumbers, .ref f_draftSigns, .int 0, .int 0, .int 0, .int 0, .ref f_letters, .ref f_numbers, .ref f_isList, .ref f_bounds, .ref f_sizes, .ref f_lists, .ref f_told, .ref f_costs, .int 0, .ref f_times, .int 0, .ref f_bestOne, .ref f_basis, .int 0, .ref f_one, .int 0, .ref f_along, .ref f_now]))]) [0] rfl
    have hD9 := hD.sub (ws' := [(m0, .inr (9, [.int 0, .ref f_text, .int 0, .int (-1), .ref f_kinds, .ref f_places, .ref f_values, .int 0, .ref f_draftLetters, .int 0, .int 0, .int 0, .ref f_draftNumbers, .ref f_draftSigns, .int 0, .int 0, .int 0, .int 0, .ref f_letters, .ref f_numbers, .ref f_isList, .ref f_bounds, .ref f_sizes, .ref f_lists, .ref f_told, .ref f_costs, .int 0, .ref f_times, .int 0, .ref f_bestOne, .ref f_basis, .int 0, .ref f_one, .int 0, .ref f_along, .ref f_now]))]) [0] (by decide) rfl
    have hK9 := hK.sub (tys' := []) [] rfl
    exact W.iret (v := (-1)) hx hb hr (fun t ht hW => ⟨⟨(-1), (), rfl, rfl, by rw [ht]; exact hP9, va_K.moved hW.alike hK9, hD9⟩, hS.F ht⟩) hS.2.2 d_MO_type_99
  · refine lv_lload hx hb d_MO_type_71 (lv_at hl 0 rfl) ?_
    refine lv_ldc2 (v := 126) hx hb hown (hts _ k_1006) d_MO_type_73 ?_
    refine W.lcmp hx hb d_MO_type_76 ?_
    refine lv_if_gt (tgt := 84) hx hb d_MO_type_77 (by decide) (fun hc2 => ?_) (fun hc2 => ?_)
    · refine lv_iconst (v := 0) hx hb d_MO_type_84 (by decide) ?_
      refine lv_istore hx hb d_MO_type_85 hl (by decide) rfl (fun ls hl => ?_)
      have hl : lv_has ls 8 [(4, .int 0), (6, .long (bm x 0)), (5, .int 0), (0, .ref m0), (1, .long x), (3, .int 1)] := hl
      refine lv_iinc (k := 2) (v := 1) hx hb d_MO_type_87 hl rfl (by decide) (by decide) rfl (fun ls hl => ?_)
      have hl : lv_has ls 8 [(5, .int 1), (4, .int 0), (6, .long (bm x 0)), (0, .ref m0), (1, .long x), (3, .int 1)] := hl
      refine lv_goto (tgt := 38) hx hb d_MO_type_90 (by decide) ?_
      refine lv_iload hx hb d_MO_type_38 (lv_at hl 1 rfl) ?_
      refine lv_if_eq (tgt := 93) hx hb d_MO_type_40 (by decide) (fun _ => ?_) (fun h9 => absurd (by decide) h9)
      refine lv_iload hx hb d_MO_type_93 (lv_at hl 1 rfl) ?_
      refine lv_if_ne (tgt := 100) hx hb d_MO_type_95 (by decide) (fun h9 => absurd (by decide) h9) (fun _ => ?_)
      refine lv_iconst (v := (-1)) hx hb d_MO_type_98 (by decide) ?_
      have hP9 := hP.sub (ws' := [(m0, .inr (9, [.int 0, .ref f_text, .int 0, .int (-1), .ref f_kinds, .ref f_places, .ref f_values, .int 0, .ref f_draftLetters, .int 0, .int 0, .int 0, .ref f_draftNumbers, .ref f_draftSigns, .int 0, .int 0, .int 0, .int 0, .ref f_letters, .ref f_numbers, .ref f_isList, .ref f_bounds, .ref f_sizes, .ref f_lists, .ref f_told, .ref f_costs, .int 0, .ref f_times, .int 0, .ref f_bestOne, .ref f_basis, .int 0, .ref f_one, .int 0, .ref f_along, .ref f_now]))]) [0] rfl
      have hD9 := hD.sub (ws' := [(m0, .inr (9, [.int 0, .ref f_text, .int 0, .int (-1), .ref f_kinds, .ref f_places, .ref f_values, .int 0, .ref f_draftLetters, .int 0, .int 0, .int 0, .ref f_draftNumbers, .ref f_draftSigns, .int 0, .int 0, .int 0, .int 0, .ref f_letters, .ref f_numbers, .ref f_isList, .ref f_bounds, .ref f_sizes, .ref f_lists, .ref f_told, .ref f_costs, .int 0, .ref f_times, .int 0, .ref f_bestOne, .ref f_basis, .int 0, .ref f_one, .int 0, .ref f_along, .ref f_now]))]) [0] (by decide) rfl
      have hK9 := hK.sub (tys' := []) [] rfl
      exact W.iret (v := (-1)) hx hb hr (fun t ht hW => ⟨⟨(-1), (), rfl, rfl, by rw [ht]; exact hP9, va_K.moved hW.alike hK9, hD9⟩, hS.F ht⟩) hS.2.2 d_MO_type_99
    · refine lv_iconst (v := 1) hx hb d_MO_type_80 (by decide) ?_
      refine lv_goto (tgt := 85) hx hb d_MO_type_81 (by decide) ?_
      refine lv_istore hx hb d_MO_type_85 hl (by decide) rfl (fun ls hl => ?_)
      have hl : lv_has ls 8 [(4, .int 1), (6, .long (bm x 0)), (5, .int 0), (0, .ref m0), (1, .long x), (3, .int 1)] := hl
      refine lv_iinc (k := 2) (v := 1) hx hb d_MO_type_87 hl rfl (by decide) (by decide) rfl (fun ls hl => ?_)
      have hl : lv_has ls 8 [(5, .int 1), (4, .int 1), (6, .long (bm x 0)), (0, .ref m0), (1, .long x), (3, .int 1)] := hl
      refine lv_goto (tgt := 38) hx hb d_MO_type_90 (by decide) ?_
      refine lv_iload hx hb d_MO_type_38 (lv_at hl 1 rfl) ?_
      refine lv_if_eq (tgt := 93) hx hb d_MO_type_40 (by decide) (fun h9 => absurd h9 (by decide)) (fun _ => ?_)
      refine lv_iload hx hb d_MO_type_43 (lv_at hl 0 rfl) ?_
      refine lv_iload_n hx hb d_MO_type_45 rfl (lv_at hl 5 rfl) ?_
      refine lv_icmp_ge (tgt := 93) hx hb d_MO_type_46 (by decide) (fun _ => ?_) (fun h9 => absurd (by decide) h9)
      refine lv_iload hx hb d_MO_type_93 (lv_at hl 1 rfl) ?_
      refine lv_if_ne (tgt := 100) hx hb d_MO_type_95 (by decide) (fun _ => ?_) (fun h9 => absurd h9 (by decide))
      exact absurd (okm (d := 0) (by decide +kernel) (by decide) hc1 hc2) g

set_option maxHeartbeats 4000000 in
set_option maxRecDepth 100000 in
theorem c_MO_type_2y (l : Launch) (dC : Nat → ClassId) (dI : Nat → Nat → Nat) (m0 : Nat) (f_text : Nat) (f_kinds : Nat) (f_places : Nat) (f_values : Nat) (f_draftLetters : Nat) (f_draftNumbers : Nat) (f_draftSigns : Nat) (f_letters : Nat) (f_numbers : Nat) (f_isList : Nat) (f_bounds : Nat) (f_sizes : Nat) (f_lists : Nat) (f_told : Nat) (f_costs : Nat) (f_times : Nat) (f_bestOne : Nat) (f_basis : Nat) (f_one : Nat) (f_along : Nat) (f_now : Nat) (th : Int32) (cX : ClassId) (x : Int64) (sz : Nat) (g : ok x 0 ∧ ok x 8) : Met l y_MO_type (Cond.code y_MO_type b_MO_type 8 (Option.some Jvm.ClassFile.FieldType.int) :: wd) { frames := 0, cells := 0, slots := 0, locals := 0 } (va_Pc [.ref m0, .long x, .int 2] (fun U => U.heap.size = sz ∧ va_P (dC, dI) cls [(m0, .inr (9, [.int th, .ref f_text, .int 0, .int (-1), .ref f_kinds, .ref f_places, .ref f_values, .int 0, .ref f_draftLetters, .int 0, .int 0, .int 0, .ref f_draftNumbers, .ref f_draftSigns, .int 0, .int 0, .int 0, .int 0, .ref f_letters, .ref f_numbers, .ref f_isList, .ref f_bounds, .ref f_sizes, .ref f_lists, .ref f_told, .ref f_costs, .int 0, .ref f_times, .int 0, .ref f_bestOne, .ref f_basis, .int 0, .ref f_one, .int 0, .ref f_along, .ref f_now])), (f_text, .inl (cX, 300, .inl (fun _ => (0 : Int32))))] U.heap ∧ va_K (dC, dI) cls [(cX, .int)] U ∧ va_D (fun _ => True) [(m0, .inr (9, [.int th, .ref f_text, .int 0, .int (-1), .ref f_kinds, .ref f_places, .ref f_values, .int 0, .ref f_draftLetters, .int 0, .int 0, .int 0, .ref f_draftNumbers, .ref f_draftSigns, .int 0, .int 0, .int 0, .int 0, .ref f_letters, .ref f_numbers, .ref f_isList, .ref f_bounds, .ref f_sizes, .ref f_lists, .ref f_told, .ref f_costs, .int 0, .ref f_times, .int 0, .ref f_bestOne, .ref f_basis, .int 0, .ref f_one, .int 0, .ref f_along, .ref f_now])), (f_text, .inl (cX, 300, .inl (fun _ => (0 : Int32))))] ∧ nw_ok U)) (va_Qi (fun r (_ : Unit) => r = 2) (fun (_ : Unit) t => va_P (dC, dI) cls [(m0, .inr (9, [.int 0, .ref f_text, .int 2, .int (-1), .ref f_kinds, .ref f_places, .ref f_values, .int 0, .ref f_draftLetters, .int 0, .int 0, .int 0, .ref f_draftNumbers, .ref f_draftSigns, .int 0, .int 0, .int 0, .int 0, .ref f_letters, .ref f_numbers, .ref f_isList, .ref f_bounds, .ref f_sizes, .ref f_lists, .ref f_told, .ref f_costs, .int 0, .ref f_times, .int 0, .ref f_bestOne, .ref f_basis, .int 0, .ref f_one, .int 0, .ref f_along, .ref f_now]))] t.heap ∧ va_K (dC, dI) cls [(cX, .int)] t ∧ va_D (va_A [(m0, .inr (9, [.int th, .ref f_text, .int 0, .int (-1), .ref f_kinds, .ref f_places, .ref f_values, .int 0, .ref f_draftLetters, .int 0, .int 0, .int 0, .ref f_draftNumbers, .ref f_draftSigns, .int 0, .int 0, .int 0, .int 0, .ref f_letters, .ref f_numbers, .ref f_isList, .ref f_bounds, .ref f_sizes, .ref f_lists, .ref f_told, .ref f_costs, .int 0, .ref f_times, .int 0, .ref f_bestOne, .ref f_basis, .int 0, .ref f_one, .int 0, .ref f_along, .ref f_now])), (f_text, .inl (cX, 300, .inl (fun _ => (0 : Int32))))] sz) [(m0, .inr (9, [.int 0, .ref f_text, .int 2, .int (-1), .ref f_kinds, .ref f_places, .ref f_values, .int 0, .ref f_draftLetters, .int 0, .int 0, .int 0, .ref f_draftNumbers, .ref f_draftSigns, .int 0, .int 0, .int 0, .int 0, .ref f_letters, .ref f_numbers, .ref f_isList, .ref f_bounds, .ref f_sizes, .ref f_lists, .ref f_told, .ref f_costs, .int 0, .ref f_times, .int 0, .ref f_bestOne, .ref f_basis, .int 0, .ref f_one, .int 0, .ref f_along, .ref f_now]))]) (va_A [(m0, .inr (9, [.int th, .ref f_text, .int 0, .int (-1), .ref f_kinds, .ref f_places, .ref f_values, .int 0, .ref f_draftLetters, .int 0, .int 0, .int 0, .ref f_draftNumbers, .ref f_draftSigns, .int 0, .int 0, .int 0, .int 0, .ref f_letters, .ref f_numbers, .ref f_isList, .ref f_bounds, .ref f_sizes, .ref f_lists, .ref f_told, .ref f_costs, .int 0, .ref f_times, .int 0, .ref f_bestOne, .ref f_basis, .int 0, .ref f_one, .int 0, .ref f_along, .ref f_now])), (f_text, .inl (cX, 300, .inl (fun _ => (0 : Int32))))] sz)) 0 0 (va_A [(m0, .inr (9, [.int th, .ref f_text, .int 0, .int (-1), .ref f_kinds, .ref f_places, .ref f_values, .int 0, .ref f_draftLetters, .int 0, .int 0, .int 0, .ref f_draftNumbers, .ref f_draftSigns, .int 0, .int 0, .int 0, .int 0, .ref f_letters, .ref f_numbers, .ref f_isList, .ref f_bounds, .ref f_sizes, .ref f_lists, .ref f_told, .ref f_costs, .int 0, .ref f_times, .int 0, .ref f_bestOne, .ref f_basis, .int 0, .ref f_one, .int 0, .ref f_along, .ref f_now])), (f_text, .inl (cX, 300, .inl (fun _ => (0 : Int32))))] sz) := by
  refine Met.ofW (cc := b_MO_type) (maxL := 8) (ret := (Option.some Jvm.ClassFile.FieldType.int)) (by decide) rfl ?_
  intro p e s m args below meth c s₁ B hml hv
  obtain ⟨rfl, hsz, hP, hK, hD0, hN⟩ := hv
  have hx := B.exec
  have hb := B.bytes
  have hr := B.returns
  have hlocks := B.notSynchronized
  have hts : ∀ w ∈ wd, w.before ([.ref m0, .long x, .int 2] : List Value).toArray s = true := fun w hw => atoms_spec (ws := (Cond.code y_MO_type b_MO_type 8 (Option.some Jvm.ClassFile.FieldType.int) :: wd)) B.pre w (List.mem_cons_of_mem _ hw)
  have hown : s.vm.findClass "LeastSolutionsModel" = some m.cls := findClass_of_methodNamed B.named
  subst hsz
  have hD := hD0.self (sz := s.heap.size)
  generalize hAe : va_A [(m0, .inr (9, [.int th, .ref f_text, .int 0, .int (-1), .ref f_kinds, .ref f_places, .ref f_values, .int 0, .ref f_draftLetters, .int 0, .int 0, .int 0, .ref f_draftNumbers, .ref f_draftSigns, .int 0, .int 0, .int 0, .int 0, .ref f_letters, .ref f_numbers, .ref f_isList, .ref f_bounds, .ref f_sizes, .ref f_lists, .ref f_told, .ref f_costs, .int 0, .ref f_times, .int 0, .ref f_bestOne, .ref f_basis, .int 0, .ref f_one, .int 0, .ref f_along, .ref f_now])), (f_text, .inl (cX, 300, .inl (fun _ => (0 : Int32))))] s.heap.size = A at hD ⊢
  have hA : ∀ q : Nat, s.heap.size ≤ q → A q := fun q h => by rw [← hAe]; exact Or.inr h
  have hS : va_S A s.heap s.heap [] := va_S.rf
  have hl := lv_entry ([.ref m0, .long x, .int 2]) (n := 8) (Nat.le_of_ble_eq_true rfl)
  rw [lg_entry_eq]
  generalize (lg_sl ([.ref m0, .long x, .int 2]) ++ List.replicate (8 - (lg_sl ([.ref m0, .long x, .int 2])).length) Slot.unset).toArray = ls at hl ⊢
  have hl : lv_has ls 8 [(0, .ref m0), (1, .long x), (3, .int 2)] := hl
  refine lv_aload_n hx hb d_MO_type_0 rfl (lv_at hl 0 rfl) ?_
  refine lv_iconst (v := 0) hx hb d_MO_type_1 (by decide) ?_
  refine va_put (D := (dC, dI)) (ci := 9) (v := .int 0) (ty := .int) (C := R_MO) (T := T_MO) (N := 36) hx hb hts in_MO t_MO t_MO_ok n_MO hown hK hP hD hS 0 rfl rfl 0 (by decide) (hts _ k_886) (fun _ h9 => h9) rfl (by decide +kernel) rfl rfl (Nat.le_of_ble_eq_true rfl) d_MO_type_2 (fun H1 locs hP hD hS => ?_)
  have hP : va_P (dC, dI) cls [(m0, .inr (9, [.int 0, .ref f_text, .int 0, .int (-1), .ref f_kinds, .ref f_places, .ref f_values, .int 0, .ref f_draftLetters, .int 0, .int 0, .int 0, .ref f_draftNumbers, .ref f_draftSigns, .int 0, .int 0, .int 0, .int 0, .ref f_letters, .ref f_numbers, .ref f_isList, .ref f_bounds, .ref f_sizes, .ref f_lists, .ref f_told, .ref f_costs, .int 0, .ref f_times, .int 0, .ref f_bestOne, .ref f_basis, .int 0, .ref f_one, .int 0, .ref f_along, .ref f_now])), (f_text, .inl (cX, 300, .inl (fun _ => (0 : Int32))))] H1 := hP
  have hD : va_D A [(m0, .inr (9, [.int 0, .ref f_text, .int 0, .int (-1), .ref f_kinds, .ref f_places, .ref f_values, .int 0, .ref f_draftLetters, .int 0, .int 0, .int 0, .ref f_draftNumbers, .ref f_draftSigns, .int 0, .int 0, .int 0, .int 0, .ref f_letters, .ref f_numbers, .ref f_isList, .ref f_bounds, .ref f_sizes, .ref f_lists, .ref f_told, .ref f_costs, .int 0, .ref f_times, .int 0, .ref f_bestOne, .ref f_basis, .int 0, .ref f_one, .int 0, .ref f_along, .ref f_now])), (f_text, .inl (cX, 300, .inl (fun _ => (0 : Int32))))] := hD
  refine lv_iload_n hx hb d_MO_type_5 rfl (lv_at hl 2 rfl) ?_
  refine lv_iconst (v := 1) hx hb d_MO_type_6 (by decide) ?_
  refine lv_icmp_lt (tgt := 32) hx hb d_MO_type_7 (by decide) (fun h9 => absurd h9 (by decide)) (fun _ => ?_)
  refine lv_iload_n hx hb d_MO_type_10 rfl (lv_at hl 2 rfl) ?_
  refine lv_bipush (v := 8) hx hb d_MO_type_11 (by decide) ?_
  refine lv_icmp_gt (tgt := 32) hx hb d_MO_type_13 (by decide) (fun h9 => absurd h9 (by decide)) (fun _ => ?_)
  refine lv_aload_n hx hb d_MO_type_16 rfl (lv_at hl 0 rfl) ?_
  refine va_get (D := (dC, dI)) (ci := 9) (v := .int 0) (C := R_MO) (T := T_MO) (N := 36) hx hb hts in_MO hown hK hP 0 rfl rfl 2 (by decide) (hts _ k_888) (fun _ h9 => h9) rfl d_MO_type_17 ?_
  refine lv_iload_n hx hb d_MO_type_20 rfl (lv_at hl 2 rfl) ?_
  refine lv_iadd hx hb d_MO_type_21 ?_
  refine W.eq (g2 := F0 m 22 ls [.int 2]) rfl ?_
  refine lv_sipush (v := 300) hx hb d_MO_type_22 (by decide) ?_
  refine lv_icmp_gt (tgt := 32) hx hb d_MO_type_25 (by decide) (fun h9 => absurd h9 (by decide)) (fun _ => ?_)
  refine lv_iconst (v := 1) hx hb d_MO_type_28 (by decide) ?_
  refine lv_goto (tgt := 33) hx hb d_MO_type_29 (by decide) ?_
  refine lv_istore hx hb d_MO_type_33 hl (by decide) rfl (fun ls hl => ?_)
  have hl : lv_has ls 8 [(4, .int 1), (0, .ref m0), (1, .long x), (3, .int 2)] := hl
  refine lv_iconst (v := 0) hx hb d_MO_type_35 (by decide) ?_
  refine lv_istore hx hb d_MO_type_36 hl (by decide) rfl (fun ls hl => ?_)
  have hl : lv_has ls 8 [(5, .int 0), (4, .int 1), (0, .ref m0), (1, .long x), (3, .int 2)] := hl
  refine lv_iload hx hb d_MO_type_38 (lv_at hl 1 rfl) ?_
  refine lv_if_eq (tgt := 93) hx hb d_MO_type_40 (by decide) (fun h9 => absurd h9 (by decide)) (fun _ => ?_)
  refine lv_iload hx hb d_MO_type_43 (lv_at hl 0 rfl) ?_
  refine lv_iload_n hx hb d_MO_type_45 rfl (lv_at hl 4 rfl) ?_
  refine lv_icmp_ge (tgt := 93) hx hb d_MO_type_46 (by decide) (fun h9 => absurd h9 (by decide)) (fun _ => ?_)
  refine lv_lload_n hx hb d_MO_type_49 rfl (lv_at hl 3 rfl) ?_
  refine lv_bipush (v := 8) hx hb d_MO_type_50 (by decide) ?_
  refine lv_iload hx hb d_MO_type_52 (lv_at hl 0 rfl) ?_
  refine lv_imul hx hb d_MO_type_54 ?_
  refine lv_lshr (v := (x >>> (((8 * 0) : Int32).toInt64 &&& 63))) hx hb d_MO_type_55 rfl ?_
  refine lv_ldc2 (v := 255) hx hb hown (hts _ k_1004) d_MO_type_56 ?_
  refine lv_land hx hb d_MO_type_59 ?_
  refine W.eq (g2 := F0 m 60 ls [.long (bm x 0)]) rfl ?_
  refine lv_lstore hx hb d_MO_type_60 hl (by decide) rfl (fun ls hl => ?_)
  have hl : lv_has ls 8 [(6, .long (bm x 0)), (5, .int 0), (4, .int 1), (0, .ref m0), (1, .long x), (3, .int 2)] := hl
  refine lv_lload hx hb d_MO_type_62 (lv_at hl 0 rfl) ?_
  refine lv_ldc2 (v := 32) hx hb hown (hts _ k_1005) d_MO_type_64 ?_
  refine W.lcmp hx hb d_MO_type_67 ?_
  refine lv_if_lt (tgt := 84) hx hb d_MO_type_68 (by decide) (fun h9 => absurd h9 (okm1 (d := 0) (by decide +kernel) (by decide) (g.1))) (fun _ => ?_)
  refine lv_lload hx hb d_MO_type_71 (lv_at hl 0 rfl) ?_
  refine lv_ldc2 (v := 126) hx hb hown (hts _ k_1006) d_MO_type_73 ?_
  refine W.lcmp hx hb d_MO_type_76 ?_
  refine lv_if_gt (tgt := 84) hx hb d_MO_type_77 (by decide) (fun h9 => absurd h9 (okm2 (d := 0) (by decide +kernel) (by decide) (g.1))) (fun _ => ?_)
  refine lv_iconst (v := 1) hx hb d_MO_type_80 (by decide) ?_
  refine lv_goto (tgt := 85) hx hb d_MO_type_81 (by decide) ?_
  refine lv_istore hx hb d_MO_type_85 hl (by decide) rfl (fun ls hl => ?_)
  have hl : lv_has ls 8 [(4, .int 1), (6, .long (bm x 0)), (5, .int 0), (0, .ref m0), (1, .long x), (3, .int 2)] := hl
  refine lv_iinc (k := 2) (v := 1) hx hb d_MO_type_87 hl rfl (by decide) (by decide) rfl (fun ls hl => ?_)
  have hl : lv_has ls 8 [(5, .int 1), (4, .int 1), (6, .long (bm x 0)), (0, .ref m0), (1, .long x), (3, .int 2)] := hl
  refine lv_goto (tgt := 38) hx hb d_MO_type_90 (by decide) ?_
  refine lv_iload hx hb d_MO_type_38 (lv_at hl 1 rfl) ?_
  refine lv_if_eq (tgt := 93) hx hb d_MO_type_40 (by decide) (fun h9 => absurd h9 (by decide)) (fun _ => ?_)
  refine lv_iload hx hb d_MO_type_43 (lv_at hl 0 rfl) ?_
  refine lv_iload_n hx hb d_MO_type_45 rfl (lv_at hl 5 rfl) ?_
  refine lv_icmp_ge (tgt := 93) hx hb d_MO_type_46 (by decide) (fun h9 => absurd h9 (by decide)) (fun _ => ?_)
  refine lv_lload_n hx hb d_MO_type_49 rfl (lv_at hl 4 rfl) ?_
  refine lv_bipush (v := 8) hx hb d_MO_type_50 (by decide) ?_
  refine lv_iload hx hb d_MO_type_52 (lv_at hl 0 rfl) ?_
  refine lv_imul hx hb d_MO_type_54 ?_
  refine lv_lshr (v := (x >>> (((8 * 1) : Int32).toInt64 &&& 63))) hx hb d_MO_type_55 rfl ?_
  refine lv_ldc2 (v := 255) hx hb hown (hts _ k_1004) d_MO_type_56 ?_
  refine lv_land hx hb d_MO_type_59 ?_
  refine W.eq (g2 := F0 m 60 ls [.long (bm x 1)]) rfl ?_
  refine lv_lstore hx hb d_MO_type_60 hl (by decide) rfl (fun ls hl => ?_)
  have hl : lv_has ls 8 [(6, .long (bm x 1)), (5, .int 1), (4, .int 1), (0, .ref m0), (1, .long x), (3, .int 2)] := hl
  refine lv_lload hx hb d_MO_type_62 (lv_at hl 0 rfl) ?_
  refine lv_ldc2 (v := 32) hx hb hown (hts _ k_1005) d_MO_type_64 ?_
  refine W.lcmp hx hb d_MO_type_67 ?_
  refine lv_if_lt (tgt := 84) hx hb d_MO_type_68 (by decide) (fun h9 => absurd h9 (okm1 (d := 8) (by decide +kernel) (by decide) (g.2))) (fun _ => ?_)
  refine lv_lload hx hb d_MO_type_71 (lv_at hl 0 rfl) ?_
  refine lv_ldc2 (v := 126) hx hb hown (hts _ k_1006) d_MO_type_73 ?_
  refine W.lcmp hx hb d_MO_type_76 ?_
  refine lv_if_gt (tgt := 84) hx hb d_MO_type_77 (by decide) (fun h9 => absurd h9 (okm2 (d := 8) (by decide +kernel) (by decide) (g.2))) (fun _ => ?_)
  refine lv_iconst (v := 1) hx hb d_MO_type_80 (by decide) ?_
  refine lv_goto (tgt := 85) hx hb d_MO_type_81 (by decide) ?_
  refine lv_istore hx hb d_MO_type_85 hl (by decide) rfl (fun ls hl => ?_)
  have hl : lv_has ls 8 [(4, .int 1), (6, .long (bm x 1)), (5, .int 1), (0, .ref m0), (1, .long x), (3, .int 2)] := hl
  refine lv_iinc (k := 2) (v := 2) hx hb d_MO_type_87 hl rfl (by decide) (by decide) rfl (fun ls hl => ?_)
  have hl : lv_has ls 8 [(5, .int 2), (4, .int 1), (6, .long (bm x 1)), (0, .ref m0), (1, .long x), (3, .int 2)] := hl
  refine lv_goto (tgt := 38) hx hb d_MO_type_90 (by decide) ?_
  refine lv_iload hx hb d_MO_type_38 (lv_at hl 1 rfl) ?_
  refine lv_if_eq (tgt := 93) hx hb d_MO_type_40 (by decide) (fun h9 => absurd h9 (by decide)) (fun _ => ?_)
  refine lv_iload hx hb d_MO_type_43 (lv_at hl 0 rfl) ?_
  refine lv_iload_n hx hb d_MO_type_45 rfl (lv_at hl 5 rfl) ?_
  refine lv_icmp_ge (tgt := 93) hx hb d_MO_type_46 (by decide) (fun _ => ?_) (fun h9 => absurd (by decide) h9)
  refine lv_iload hx hb d_MO_type_93 (lv_at hl 1 rfl) ?_
  refine lv_if_ne (tgt := 100) hx hb d_MO_type_95 (by decide) (fun _ => ?_) (fun h9 => absurd h9 (by decide))
  refine lv_iload_n hx hb d_MO_type_100 rfl (lv_at hl 5 rfl) ?_
  refine lv_iconst (v := 1) hx hb d_MO_type_101 (by decide) ?_
  refine lv_isub hx hb d_MO_type_102 ?_
  refine W.eq (g2 := F0 m 103 ls [.int 1]) rfl ?_
  refine lv_istore hx hb d_MO_type_103 hl (by decide) rfl (fun ls hl => ?_)
  have hl : lv_has ls 8 [(5, .int 1), (4, .int 1), (6, .long (bm x 1)), (0, .ref m0), (1, .long x), (3, .int 2)] := hl
  refine lv_iload hx hb d_MO_type_105 (lv_at hl 0 rfl) ?_
  refine lv_if_lt (tgt := 147) hx hb d_MO_type_107 (by decide) (fun h9 => absurd h9 (by decide)) (fun _ => ?_)
  refine lv_aload_n hx hb d_MO_type_110 rfl (lv_at hl 3 rfl) ?_
  refine va_get (D := (dC, dI)) (ci := 9) (v := .ref f_text) (C := R_MO) (T := T_MO) (N := 36) hx hb hts in_MO hown hK hP 0 rfl rfl 1 (by decide) (hts _ k_887) (fun _ h9 => h9) rfl d_MO_type_111 ?_
  refine lv_aload_n hx hb d_MO_type_114 rfl (lv_at hl 3 rfl) ?_
  refine va_get (D := (dC, dI)) (ci := 9) (v := .int 0) (C := R_MO) (T := T_MO) (N := 36) hx hb hts in_MO hown hK hP 0 rfl rfl 2 (by decide) (hts _ k_888) (fun _ h9 => h9) rfl d_MO_type_115 ?_
  refine lv_lload_n hx hb d_MO_type_118 rfl (lv_at hl 4 rfl) ?_
  refine lv_bipush (v := 8) hx hb d_MO_type_119 (by decide) ?_
  refine lv_iload hx hb d_MO_type_121 (lv_at hl 0 rfl) ?_
  refine lv_imul hx hb d_MO_type_123 ?_
  refine lv_lshr (v := (x >>> (((8 * 1) : Int32).toInt64 &&& 63))) hx hb d_MO_type_124 rfl ?_
  refine lv_ldc2 (v := 255) hx hb hown (hts _ k_1004) d_MO_type_125 ?_
  refine lv_land hx hb d_MO_type_128 ?_
  refine W.eq (g2 := F0 m 129 ls [.long (bm x 1), .int 0, .ref f_text]) rfl ?_
  refine lv_l2i (v := (bm x 1).toInt32) hx hb d_MO_type_129 rfl ?_
  refine va_iast hx hb hK hP hD hS 1 0 rfl rfl (show ¬ ((0 : Int32) < 0 ∨ 300 ≤ (0 : Int32).toNatClampNeg) from by decide) d_MO_type_130 (fun H2 locs hP hD hS => ?_)
  have hP : va_P (dC, dI) cls [(m0, .inr (9, [.int 0, .ref f_text, .int 0, .int (-1), .ref f_kinds, .ref f_places, .ref f_values, .int 0, .ref f_draftLetters, .int 0, .int 0, .int 0, .ref f_draftNumbers, .ref f_draftSigns, .int 0, .int 0, .int 0, .int 0, .ref f_letters, .ref f_numbers, .ref f_isList, .ref f_bounds, .ref f_sizes, .ref f_lists, .ref f_told, .ref f_costs, .int 0, .ref f_times, .int 0, .ref f_bestOne, .ref f_basis, .int 0, .ref f_one, .int 0, .ref f_along, .ref f_now])), (f_text, .inl (cX, 300, .inl (upd (fun _ => (0 : Int32)) (0 : Int32).toNatClampNeg (bm x 1).toInt32)))] H2 := hP
  have hD : va_D A [(m0, .inr (9, [.int 0, .ref f_text, .int 0, .int (-1), .ref f_kinds, .ref f_places, .ref f_values, .int 0, .ref f_draftLetters, .int 0, .int 0, .int 0, .ref f_draftNumbers, .ref f_draftSigns, .int 0, .int 0, .int 0, .int 0, .ref f_letters, .ref f_numbers, .ref f_isList, .ref f_bounds, .ref f_sizes, .ref f_lists, .ref f_told, .ref f_costs, .int 0, .ref f_times, .int 0, .ref f_bestOne, .ref f_basis, .int 0, .ref f_one, .int 0, .ref f_along, .ref f_now])), (f_text, .inl (cX, 300, .inl (upd (fun _ => (0 : Int32)) (0 : Int32).toNatClampNeg (bm x 1).toInt32)))] := hD
  refine lv_aload_n hx hb d_MO_type_131 rfl (lv_at hl 3 rfl) ?_
  refine lv_dup hx hb d_MO_type_132 rfl ?_
  refine va_get (D := (dC, dI)) (ci := 9) (v := .int 0) (C := R_MO) (T := T_MO) (N := 36) hx hb hts in_MO hown hK hP 0 rfl rfl 2 (by decide) (hts _ k_888) (fun _ h9 => h9) rfl d_MO_type_133 ?_
  refine lv_iconst (v := 1) hx hb d_MO_type_136 (by decide) ?_
  refine lv_iadd hx hb d_MO_type_137 ?_
  refine W.eq (g2 := F0 m 138 ls [.int 1, .ref m0]) rfl ?_
  refine va_put (D := (dC, dI)) (ci := 9) (v := .int 1) (ty := .int) (C := R_MO) (T := T_MO) (N := 36) hx hb hts in_MO t_MO t_MO_ok n_MO hown hK hP hD hS 0 rfl rfl 2 (by decide) (hts _ k_888) (fun _ h9 => h9) rfl (by decide +kernel) rfl rfl (Nat.le_of_ble_eq_true rfl) d_MO_type_138 (fun H3 locs hP hD hS => ?_)
  have hP : va_P (dC, dI) cls [(m0, .inr (9, [.int 0, .ref f_text, .int 1, .int (-1), .ref f_kinds, .ref f_places, .ref f_values, .int 0, .ref f_draftLetters, .int 0, .int 0, .int 0, .ref f_draftNumbers, .ref f_draftSigns, .int 0, .int 0, .int 0, .int 0, .ref f_letters, .ref f_numbers, .ref f_isList, .ref f_bounds, .ref f_sizes, .ref f_lists, .ref f_told, .ref f_costs, .int 0, .ref f_times, .int 0, .ref f_bestOne, .ref f_basis, .int 0, .ref f_one, .int 0, .ref f_along, .ref f_now])), (f_text, .inl (cX, 300, .inl (upd (fun _ => (0 : Int32)) (0 : Int32).toNatClampNeg (bm x 1).toInt32)))] H3 := hP
  have hD : va_D A [(m0, .inr (9, [.int 0, .ref f_text, .int 1, .int (-1), .ref f_kinds, .ref f_places, .ref f_values, .int 0, .ref f_draftLetters, .int 0, .int 0, .int 0, .ref f_draftNumbers, .ref f_draftSigns, .int 0, .int 0, .int 0, .int 0, .ref f_letters, .ref f_numbers, .ref f_isList, .ref f_bounds, .ref f_sizes, .ref f_lists, .ref f_told, .ref f_costs, .int 0, .ref f_times, .int 0, .ref f_bestOne, .ref f_basis, .int 0, .ref f_one, .int 0, .ref f_along, .ref f_now])), (f_text, .inl (cX, 300, .inl (upd (fun _ => (0 : Int32)) (0 : Int32).toNatClampNeg (bm x 1).toInt32)))] := hD
  refine lv_iinc (k := 0) (v := 0) hx hb d_MO_type_141 hl rfl (by decide) (by decide) rfl (fun ls hl => ?_)
  have hl : lv_has ls 8 [(5, .int 0), (4, .int 1), (6, .long (bm x 1)), (0, .ref m0), (1, .long x), (3, .int 2)] := hl
  refine lv_goto (tgt := 105) hx hb d_MO_type_144 (by decide) ?_
  refine lv_iload hx hb d_MO_type_105 (lv_at hl 0 rfl) ?_
  refine lv_if_lt (tgt := 147) hx hb d_MO_type_107 (by decide) (fun h9 => absurd h9 (by decide)) (fun _ => ?_)
  refine lv_aload_n hx hb d_MO_type_110 rfl (lv_at hl 3 rfl) ?_
  refine va_get (D := (dC, dI)) (ci := 9) (v := .ref f_text) (C := R_MO) (T := T_MO) (N := 36) hx hb hts in_MO hown hK hP 0 rfl rfl 1 (by decide) (hts _ k_887) (fun _ h9 => h9) rfl d_MO_type_111 ?_
  refine lv_aload_n hx hb d_MO_type_114 rfl (lv_at hl 3 rfl) ?_
  refine va_get (D := (dC, dI)) (ci := 9) (v := .int 1) (C := R_MO) (T := T_MO) (N := 36) hx hb hts in_MO hown hK hP 0 rfl rfl 2 (by decide) (hts _ k_888) (fun _ h9 => h9) rfl d_MO_type_115 ?_
  refine lv_lload_n hx hb d_MO_type_118 rfl (lv_at hl 4 rfl) ?_
  refine lv_bipush (v := 8) hx hb d_MO_type_119 (by decide) ?_
  refine lv_iload hx hb d_MO_type_121 (lv_at hl 0 rfl) ?_
  refine lv_imul hx hb d_MO_type_123 ?_
  refine lv_lshr (v := (x >>> (((8 * 0) : Int32).toInt64 &&& 63))) hx hb d_MO_type_124 rfl ?_
  refine lv_ldc2 (v := 255) hx hb hown (hts _ k_1004) d_MO_type_125 ?_
  refine lv_land hx hb d_MO_type_128 ?_
  refine W.eq (g2 := F0 m 129 ls [.long (bm x 0), .int 1, .ref f_text]) rfl ?_
  refine lv_l2i (v := (bm x 0).toInt32) hx hb d_MO_type_129 rfl ?_
  refine va_iast hx hb hK hP hD hS 1 0 rfl rfl (show ¬ ((1 : Int32) < 0 ∨ 300 ≤ (1 : Int32).toNatClampNeg) from by decide) d_MO_type_130 (fun H4 locs hP hD hS => ?_)
  have hP : va_P (dC, dI) cls [(m0, .inr (9, [.int 0, .ref f_text, .int 1, .int (-1), .ref f_kinds, .ref f_places, .ref f_values, .int 0, .ref f_draftLetters, .int 0, .int 0, .int 0, .ref f_draftNumbers, .ref f_draftSigns, .int 0, .int 0, .int 0, .int 0, .ref f_letters, .ref f_numbers, .ref f_isList, .ref f_bounds, .ref f_sizes, .ref f_lists, .ref f_told, .ref f_costs, .int 0, .ref f_times, .int 0, .ref f_bestOne, .ref f_basis, .int 0, .ref f_one, .int 0, .ref f_along, .ref f_now])), (f_text, .inl (cX, 300, .inl (upd (upd (fun _ => (0 : Int32)) (0 : Int32).toNatClampNeg (bm x 1).toInt32) (1 : Int32).toNatClampNeg (bm x 0).toInt32)))] H4 := hP
  have hD : va_D A [(m0, .inr (9, [.int 0, .ref f_text, .int 1, .int (-1), .ref f_kinds, .ref f_places, .ref f_values, .int 0, .ref f_draftLetters, .int 0, .int 0, .int 0, .ref f_draftNumbers, .ref f_draftSigns, .int 0, .int 0, .int 0, .int 0, .ref f_letters, .ref f_numbers, .ref f_isList, .ref f_bounds, .ref f_sizes, .ref f_lists, .ref f_told, .ref f_costs, .int 0, .ref f_times, .int 0, .ref f_bestOne, .ref f_basis, .int 0, .ref f_one, .int 0, .ref f_along, .ref f_now])), (f_text, .inl (cX, 300, .inl (upd (upd (fun _ => (0 : Int32)) (0 : Int32).toNatClampNeg (bm x 1).toInt32) (1 : Int32).toNatClampNeg (bm x 0).toInt32)))] := hD
  refine lv_aload_n hx hb d_MO_type_131 rfl (lv_at hl 3 rfl) ?_
  refine lv_dup hx hb d_MO_type_132 rfl ?_
  refine va_get (D := (dC, dI)) (ci := 9) (v := .int 1) (C := R_MO) (T := T_MO) (N := 36) hx hb hts in_MO hown hK hP 0 rfl rfl 2 (by decide) (hts _ k_888) (fun _ h9 => h9) rfl d_MO_type_133 ?_
  refine lv_iconst (v := 1) hx hb d_MO_type_136 (by decide) ?_
  refine lv_iadd hx hb d_MO_type_137 ?_
  refine W.eq (g2 := F0 m 138 ls [.int 2, .ref m0]) rfl ?_
  refine va_put (D := (dC, dI)) (ci := 9) (v := .int 2) (ty := .int) (C := R_MO) (T := T_MO) (N := 36) hx hb hts in_MO t_MO t_MO_ok n_MO hown hK hP hD hS 0 rfl rfl 2 (by decide) (hts _ k_888) (fun _ h9 => h9) rfl (by decide +kernel) rfl rfl (Nat.le_of_ble_eq_true rfl) d_MO_type_138 (fun H5 locs hP hD hS => ?_)
  have hP : va_P (dC, dI) cls [(m0, .inr (9, [.int 0, .ref f_text, .int 2, .int (-1), .ref f_kinds, .ref f_places, .ref f_values, .int 0, .ref f_draftLetters, .int 0, .int 0, .int 0, .ref f_draftNumbers, .ref f_draftSigns, .int 0, .int 0, .int 0, .int 0, .ref f_letters, .ref f_numbers, .ref f_isList, .ref f_bounds, .ref f_sizes, .ref f_lists, .ref f_told, .ref f_costs, .int 0, .ref f_times, .int 0, .ref f_bestOne, .ref f_basis, .int 0, .ref f_one, .int 0, .ref f_along, .ref f_now])), (f_text, .inl (cX, 300, .inl (upd (upd (fun _ => (0 : Int32)) (0 : Int32).toNatClampNeg (bm x 1).toInt32) (1 : Int32).toNatClampNeg (bm x 0).toInt32)))] H5 := hP
  have hD : va_D A [(m0, .inr (9, [.int 0, .ref f_text, .int 2, .int (-1), .ref f_kinds, .ref f_places, .ref f_values, .int 0, .ref f_draftLetters, .int 0, .int 0, .int 0, .ref f_draftNumbers, .ref f_draftSigns, .int 0, .int 0, .int 0, .int 0, .ref f_letters, .ref f_numbers, .ref f_isList, .ref f_bounds, .ref f_sizes, .ref f_lists, .ref f_told, .ref f_costs, .int 0, .ref f_times, .int 0, .ref f_bestOne, .ref f_basis, .int 0, .ref f_one, .int 0, .ref f_along, .ref f_now])), (f_text, .inl (cX, 300, .inl (upd (upd (fun _ => (0 : Int32)) (0 : Int32).toNatClampNeg (bm x 1).toInt32) (1 : Int32).toNatClampNeg (bm x 0).toInt32)))] := hD
  refine lv_iinc (k := 0) (v := (-1)) hx hb d_MO_type_141 hl rfl (by decide) (by decide) rfl (fun ls hl => ?_)
  have hl : lv_has ls 8 [(5, .int (-1)), (4, .int 1), (6, .long (bm x 1)), (0, .ref m0), (1, .long x), (3, .int 2)] := hl
  refine lv_goto (tgt := 105) hx hb d_MO_type_144 (by decide) ?_
  refine lv_iload hx hb d_MO_type_105 (lv_at hl 0 rfl) ?_
  refine lv_if_lt (tgt := 147) hx hb d_MO_type_107 (by decide) (fun _ => ?_) (fun h9 => absurd (by decide) h9)
  refine lv_aload_n hx hb d_MO_type_147 rfl (lv_at hl 3 rfl) ?_
  refine va_get (D := (dC, dI)) (ci := 9) (v := .int 2) (C := R_MO) (T := T_MO) (N := 36) hx hb hts in_MO hown hK hP 0 rfl rfl 2 (by decide) (hts _ k_888) (fun _ h9 => h9) rfl d_MO_type_148 ?_
  have hP9 := hP.sub (ws' := [(m0, .inr (9, [.int 0, .ref f_text, .int 2, .int (-1), .ref f_kinds, .ref f_places, .ref f_values, .int 0, .ref f_draftLetters, .int 0, .int 0, .int 0, .ref f_draftNumbers, .ref f_draftSigns, .int 0, .int 0, .int 0, .int 0, .ref f_letters, .ref f_numbers, .ref f_isList, .ref f_bounds, .ref f_sizes, .ref f_lists, .ref f_told, .ref f_costs, .int 0, .ref f_times, .int 0, .ref f_bestOne, .ref f_basis, .int 0, .ref f_one, .int 0, .ref f_along, .ref f_now]))]) [0] rfl
  have hD9 := hD.sub (ws' := [(m0, .inr (9, [.int 0, .ref f_text, .int 2, .int (-1), .ref f_kinds, .ref f_places, .ref f_values, .int 0, .ref f_draftLetters, .int 0, .int 0, .int 0, .ref f_draftNumbers, .ref f_draftSigns, .int 0, .int 0, .int 0, .int 0, .ref f_letters, .ref f_numbers, .ref f_isList, .ref f_bounds, .ref f_sizes, .ref f_lists, .ref f_told, .ref f_costs, .int 0, .ref f_times, .int 0, .ref f_bestOne, .ref f_basis, .int 0, .ref f_one, .int 0, .ref f_along, .ref f_now]))]) [0] (by decide) rfl
  have hK9 := hK.sub (tys' := [(cX, .int)]) [0] rfl
  exact W.iret (v := 2) hx hb hr (fun t ht hW => ⟨⟨2, (), rfl, rfl, by rw [ht]; exact hP9, va_K.moved hW.alike hK9, hD9⟩, hS.F ht⟩) hS.2.2 d_MO_type_151

set_option maxHeartbeats 4000000 in
set_option maxRecDepth 100000 in
theorem c_MO_type_2n (l : Launch) (dC : Nat → ClassId) (dI : Nat → Nat → Nat) (m0 : Nat) (f_text : Nat) (f_kinds : Nat) (f_places : Nat) (f_values : Nat) (f_draftLetters : Nat) (f_draftNumbers : Nat) (f_draftSigns : Nat) (f_letters : Nat) (f_numbers : Nat) (f_isList : Nat) (f_bounds : Nat) (f_sizes : Nat) (f_lists : Nat) (f_told : Nat) (f_costs : Nat) (f_times : Nat) (f_bestOne : Nat) (f_basis : Nat) (f_one : Nat) (f_along : Nat) (f_now : Nat) (th : Int32) (x : Int64) (sz : Nat) (g : ¬ (ok x 0 ∧ ok x 8)) : Met l y_MO_type (Cond.code y_MO_type b_MO_type 8 (Option.some Jvm.ClassFile.FieldType.int) :: wd) { frames := 0, cells := 0, slots := 0, locals := 0 } (va_Pc [.ref m0, .long x, .int 2] (fun U => U.heap.size = sz ∧ va_P (dC, dI) cls [(m0, .inr (9, [.int th, .ref f_text, .int 0, .int (-1), .ref f_kinds, .ref f_places, .ref f_values, .int 0, .ref f_draftLetters, .int 0, .int 0, .int 0, .ref f_draftNumbers, .ref f_draftSigns, .int 0, .int 0, .int 0, .int 0, .ref f_letters, .ref f_numbers, .ref f_isList, .ref f_bounds, .ref f_sizes, .ref f_lists, .ref f_told, .ref f_costs, .int 0, .ref f_times, .int 0, .ref f_bestOne, .ref f_basis, .int 0, .ref f_one, .int 0, .ref f_along, .ref f_now]))] U.heap ∧ va_K (dC, dI) cls [] U ∧ va_D (fun _ => True) [(m0, .inr (9, [.int th, .ref f_text, .int 0, .int (-1), .ref f_kinds, .ref f_places, .ref f_values, .int 0, .ref f_draftLetters, .int 0, .int 0, .int 0, .ref f_draftNumbers, .ref f_draftSigns, .int 0, .int 0, .int 0, .int 0, .ref f_letters, .ref f_numbers, .ref f_isList, .ref f_bounds, .ref f_sizes, .ref f_lists, .ref f_told, .ref f_costs, .int 0, .ref f_times, .int 0, .ref f_bestOne, .ref f_basis, .int 0, .ref f_one, .int 0, .ref f_along, .ref f_now]))] ∧ nw_ok U)) (va_Qi (fun r (_ : Unit) => r = (-1)) (fun (_ : Unit) t => va_P (dC, dI) cls [(m0, .inr (9, [.int 0, .ref f_text, .int 0, .int (-1), .ref f_kinds, .ref f_places, .ref f_values, .int 0, .ref f_draftLetters, .int 0, .int 0, .int 0, .ref f_draftNumbers, .ref f_draftSigns, .int 0, .int 0, .int 0, .int 0, .ref f_letters, .ref f_numbers, .ref f_isList, .ref f_bounds, .ref f_sizes, .ref f_lists, .ref f_told, .ref f_costs, .int 0, .ref f_times, .int 0, .ref f_bestOne, .ref f_basis, .int 0, .ref f_one, .int 0, .ref f_along, .ref f_now]))] t.heap ∧ va_K (dC, dI) cls [] t ∧ va_D (va_A [(m0, .inr (9, [.int th, .ref f_text, .int 0, .int (-1), .ref f_kinds, .ref f_places, .ref f_values, .int 0, .ref f_draftLetters, .int 0, .int 0, .int 0, .ref f_draftNumbers, .ref f_draftSigns, .int 0, .int 0, .int 0, .int 0, .ref f_letters, .ref f_numbers, .ref f_isList, .ref f_bounds, .ref f_sizes, .ref f_lists, .ref f_told, .ref f_costs, .int 0, .ref f_times, .int 0, .ref f_bestOne, .ref f_basis, .int 0, .ref f_one, .int 0, .ref f_along, .ref f_now]))] sz) [(m0, .inr (9, [.int 0, .ref f_text, .int 0, .int (-1), .ref f_kinds, .ref f_places, .ref f_values, .int 0, .ref f_draftLetters, .int 0, .int 0, .int 0, .ref f_draftNumbers, .ref f_draftSigns, .int 0, .int 0, .int 0, .int 0, .ref f_letters, .ref f_numbers, .ref f_isList, .ref f_bounds, .ref f_sizes, .ref f_lists, .ref f_told, .ref f_costs, .int 0, .ref f_times, .int 0, .ref f_bestOne, .ref f_basis, .int 0, .ref f_one, .int 0, .ref f_along, .ref f_now]))]) (va_A [(m0, .inr (9, [.int th, .ref f_text, .int 0, .int (-1), .ref f_kinds, .ref f_places, .ref f_values, .int 0, .ref f_draftLetters, .int 0, .int 0, .int 0, .ref f_draftNumbers, .ref f_draftSigns, .int 0, .int 0, .int 0, .int 0, .ref f_letters, .ref f_numbers, .ref f_isList, .ref f_bounds, .ref f_sizes, .ref f_lists, .ref f_told, .ref f_costs, .int 0, .ref f_times, .int 0, .ref f_bestOne, .ref f_basis, .int 0, .ref f_one, .int 0, .ref f_along, .ref f_now]))] sz)) 0 0 (va_A [(m0, .inr (9, [.int th, .ref f_text, .int 0, .int (-1), .ref f_kinds, .ref f_places, .ref f_values, .int 0, .ref f_draftLetters, .int 0, .int 0, .int 0, .ref f_draftNumbers, .ref f_draftSigns, .int 0, .int 0, .int 0, .int 0, .ref f_letters, .ref f_numbers, .ref f_isList, .ref f_bounds, .ref f_sizes, .ref f_lists, .ref f_told, .ref f_costs, .int 0, .ref f_times, .int 0, .ref f_bestOne, .ref f_basis, .int 0, .ref f_one, .int 0, .ref f_along, .ref f_now]))] sz) := by
  refine Met.ofW (cc := b_MO_type) (maxL := 8) (ret := (Option.some Jvm.ClassFile.FieldType.int)) (by decide) rfl ?_
  intro p e s m args below meth c s₁ B hml hv
  obtain ⟨rfl, hsz, hP, hK, hD0, hN⟩ := hv
  have hx := B.exec
  have hb := B.bytes
  have hr := B.returns
  have hlocks := B.notSynchronized
  have hts : ∀ w ∈ wd, w.before ([.ref m0, .long x, .int 2] : List Value).toArray s = true := fun w hw => atoms_spec (ws := (Cond.code y_MO_type b_MO_type 8 (Option.some Jvm.ClassFile.FieldType.int) :: wd)) B.pre w (List.mem_cons_of_mem _ hw)
  have hown : s.vm.findClass "LeastSolutionsModel" = some m.cls := findClass_of_methodNamed B.named
  subst hsz
  have hD := hD0.self (sz := s.heap.size)
  generalize hAe : va_A [(m0, .inr (9, [.int th, .ref f_text, .int 0, .int (-1), .ref f_kinds, .ref f_places, .ref f_values, .int 0, .ref f_draftLetters, .int 0, .int 0, .int 0, .ref f_draftNumbers, .ref f_draftSigns, .int 0, .int 0, .int 0, .int 0, .ref f_letters, .ref f_numbers, .ref f_isList, .ref f_bounds, .ref f_sizes, .ref f_lists, .ref f_told, .ref f_costs, .int 0, .ref f_times, .int 0, .ref f_bestOne, .ref f_basis, .int 0, .ref f_one, .int 0, .ref f_along, .ref f_now]))] s.heap.size = A at hD ⊢
  have hA : ∀ q : Nat, s.heap.size ≤ q → A q := fun q h => by rw [← hAe]; exact Or.inr h
  have hS : va_S A s.heap s.heap [] := va_S.rf
  have hl := lv_entry ([.ref m0, .long x, .int 2]) (n := 8) (Nat.le_of_ble_eq_true rfl)
  rw [lg_entry_eq]
  generalize (lg_sl ([.ref m0, .long x, .int 2]) ++ List.replicate (8 - (lg_sl ([.ref m0, .long x, .int 2])).length) Slot.unset).toArray = ls at hl ⊢
  have hl : lv_has ls 8 [(0, .ref m0), (1, .long x), (3, .int 2)] := hl
  refine lv_aload_n hx hb d_MO_type_0 rfl (lv_at hl 0 rfl) ?_
  refine lv_iconst (v := 0) hx hb d_MO_type_1 (by decide) ?_
  refine va_put (D := (dC, dI)) (ci := 9) (v := .int 0) (ty := .int) (C := R_MO) (T := T_MO) (N := 36) hx hb hts in_MO t_MO t_MO_ok n_MO hown hK hP hD hS 0 rfl rfl 0 (by decide) (hts _ k_886) (fun _ h9 => h9) rfl (by decide +kernel) rfl rfl (Nat.le_of_ble_eq_true rfl) d_MO_type_2 (fun H1 locs hP hD hS => ?_)
  have hP : va_P (dC, dI) cls [(m0, .inr (9, [.int 0, .ref f_text, .int 0, .int (-1), .ref f_kinds, .ref f_places, .ref f_values, .int 0, .ref f_draftLetters, .int 0, .int 0, .int 0, .ref f_draftNumbers, .ref f_draftSigns, .int 0, .int 0, .int 0, .int 0, .ref f_letters, .ref f_numbers, .ref f_isList, .ref f_bounds, .ref f_sizes, .ref f_lists, .ref f_told, .ref f_costs, .int 0, .ref f_times, .int 0, .ref f_bestOne, .ref f_basis, .int 0, .ref f_one, .int 0, .ref f_along, .ref f_now]))] H1 := hP
  have hD : va_D A [(m0, .inr (9, [.int 0, .ref f_text, .int 0, .int (-1), .ref f_kinds, .ref f_places, .ref f_values, .int 0, .ref f_draftLetters, .int 0, .int 0, .int 0, .ref f_draftNumbers, .ref f_draftSigns, .int 0, .int 0, .int 0, .int 0, .ref f_letters, .ref f_numbers, .ref f_isList, .ref f_bounds, .ref f_sizes, .ref f_lists, .ref f_told, .ref f_costs, .int 0, .ref f_times, .int 0, .ref f_bestOne, .ref f_basis, .int 0, .ref f_one, .int 0, .ref f_along, .ref f_now]))] := hD
  refine lv_iload_n hx hb d_MO_type_5 rfl (lv_at hl 2 rfl) ?_
  refine lv_iconst (v := 1) hx hb d_MO_type_6 (by decide) ?_
  refine lv_icmp_lt (tgt := 32) hx hb d_MO_type_7 (by decide) (fun h9 => absurd h9 (by decide)) (fun _ => ?_)
  refine lv_iload_n hx hb d_MO_type_10 rfl (lv_at hl 2 rfl) ?_
  refine lv_bipush (v := 8) hx hb d_MO_type_11 (by decide) ?_
  refine lv_icmp_gt (tgt := 32) hx hb d_MO_type_13 (by decide) (fun h9 => absurd h9 (by decide)) (fun _ => ?_)
  refine lv_aload_n hx hb d_MO_type_16 rfl (lv_at hl 0 rfl) ?_
  refine va_get (D := (dC, dI)) (ci := 9) (v := .int 0) (C := R_MO) (T := T_MO) (N := 36) hx hb hts in_MO hown hK hP 0 rfl rfl 2 (by decide) (hts _ k_888) (fun _ h9 => h9) rfl d_MO_type_17 ?_
  refine lv_iload_n hx hb d_MO_type_20 rfl (lv_at hl 2 rfl) ?_
  refine lv_iadd hx hb d_MO_type_21 ?_
  refine W.eq (g2 := F0 m 22 ls [.int 2]) rfl ?_
  refine lv_sipush (v := 300) hx hb d_MO_type_22 (by decide) ?_
  refine lv_icmp_gt (tgt := 32) hx hb d_MO_type_25 (by decide) (fun h9 => absurd h9 (by decide)) (fun _ => ?_)
  refine lv_iconst (v := 1) hx hb d_MO_type_28 (by decide) ?_
  refine lv_goto (tgt := 33) hx hb d_MO_type_29 (by decide) ?_
  refine lv_istore hx hb d_MO_type_33 hl (by decide) rfl (fun ls hl => ?_)
  have hl : lv_has ls 8 [(4, .int 1), (0, .ref m0), (1, .long x), (3, .int 2)] := hl
  refine lv_iconst (v := 0) hx hb d_MO_type_35 (by decide) ?_
  refine lv_istore hx hb d_MO_type_36 hl (by decide) rfl (fun ls hl => ?_)
  have hl : lv_has ls 8 [(5, .int 0), (4, .int 1), (0, .ref m0), (1, .long x), (3, .int 2)] := hl
  refine lv_iload hx hb d_MO_type_38 (lv_at hl 1 rfl) ?_
  refine lv_if_eq (tgt := 93) hx hb d_MO_type_40 (by decide) (fun h9 => absurd h9 (by decide)) (fun _ => ?_)
  refine lv_iload hx hb d_MO_type_43 (lv_at hl 0 rfl) ?_
  refine lv_iload_n hx hb d_MO_type_45 rfl (lv_at hl 4 rfl) ?_
  refine lv_icmp_ge (tgt := 93) hx hb d_MO_type_46 (by decide) (fun h9 => absurd h9 (by decide)) (fun _ => ?_)
  refine lv_lload_n hx hb d_MO_type_49 rfl (lv_at hl 3 rfl) ?_
  refine lv_bipush (v := 8) hx hb d_MO_type_50 (by decide) ?_
  refine lv_iload hx hb d_MO_type_52 (lv_at hl 0 rfl) ?_
  refine lv_imul hx hb d_MO_type_54 ?_
  refine lv_lshr (v := (x >>> (((8 * 0) : Int32).toInt64 &&& 63))) hx hb d_MO_type_55 rfl ?_
  refine lv_ldc2 (v := 255) hx hb hown (hts _ k_1004) d_MO_type_56 ?_
  refine lv_land hx hb d_MO_type_59 ?_
  refine W.eq (g2 := F0 m 60 ls [.long (bm x 0)]) rfl ?_
  refine lv_lstore hx hb d_MO_type_60 hl (by decide) rfl (fun ls hl => ?_)
  have hl : lv_has ls 8 [(6, .long (bm x 0)), (5, .int 0), (4, .int 1), (0, .ref m0), (1, .long x), (3, .int 2)] := hl
  refine lv_lload hx hb d_MO_type_62 (lv_at hl 0 rfl) ?_
  refine lv_ldc2 (v := 32) hx hb hown (hts _ k_1005) d_MO_type_64 ?_
  refine W.lcmp hx hb d_MO_type_67 ?_
  refine lv_if_lt (tgt := 84) hx hb d_MO_type_68 (by decide) (fun hc1 => ?_) (fun hc1 => ?_)
  · refine lv_iconst (v := 0) hx hb d_MO_type_84 (by decide) ?_
    refine lv_istore hx hb d_MO_type_85 hl (by decide) rfl (fun ls hl => ?_)
    have hl : lv_has ls 8 [(4, .int 0), (6, .long (bm x 0)), (5, .int 0), (0, .ref m0), (1, .long x), (3, .int 2)] := hl
    refine lv_iinc (k := 2) (v := 1) hx hb d_MO_type_87 hl rfl (by decide) (by decide) rfl (fun ls hl => ?_)
    have hl : lv_has ls 8 [(5, .int 1), (4, .int 0), (6, .long (bm x 0)), (0, .ref m0), (1, .long x), (3, .int 2)] := hl
    refine lv_goto (tgt := 38) hx hb d_MO_type_90 (by decide) ?_
    refine lv_iload hx hb d_MO_type_38 (lv_at hl 1 rfl) ?_
    refine lv_if_eq (tgt := 93) hx hb d_MO_type_40 (by decide) (fun _ => ?_) (fun h9 => absurd (by decide) h9)
    refine lv_iload hx hb d_MO_type_93 (lv_at hl 1 rfl) ?_
    refine lv_if_ne (tgt := 100) hx hb d_MO_type_95 (by decide) (fun h9 => absurd (by decide) h9) (fun _ => ?_)
    refine lv_iconst (v := (-1)) hx hb d_MO_type_98 (by decide) ?_
    have hP9 := hP.sub (ws' := [(m0, .inr (9, [.int 0, .ref f_text, .int 0, .int (-1), .ref f_kinds, .ref f_places, .ref f_values, .int 0, .ref f_draftLetters, .int 0, .int 0, .int 0, .ref f_draftNumbers, .ref f_draftSigns, .int 0, .int 0, .int 0, .int 0, .ref f_letters, .ref f_numbers, .ref f_isList, .ref f_bounds, .ref f_sizes, .ref f_lists, .ref f_told, .ref f_costs, .int 0, .ref f_times, .int 0, .ref f_bestOne, .ref f_basis, .int 0, .ref f_one, .int 0, .ref f_along, .ref f_now]))]) [0] rfl
    have hD9 := hD.sub (ws' := [(m0, .inr (9, [.int 0, .ref f_text, .int 0, .int (-1), .ref f_kinds, .ref f_places, .ref f_values, .int 0, .ref f_draftLetters, .int 0, .int 0, .int 0, .ref f_draftNumbers, .ref f_draftSigns, .int 0, .int 0, .int 0, .int 0, .ref f_letters, .ref f_numbers, .ref f_isList, .ref f_bounds, .ref f_sizes, .ref f_lists, .ref f_told, .ref f_costs, .int 0, .ref f_times, .int 0, .ref f_bestOne, .ref f_basis, .int 0, .ref f_one, .int 0, .ref f_along, .ref f_now]))]) [0] (by decide) rfl
    have hK9 := hK.sub (tys' := []) [] rfl
    exact W.iret (v := (-1)) hx hb hr (fun t ht hW => ⟨⟨(-1), (), rfl, rfl, by rw [ht]; exact hP9, va_K.moved hW.alike hK9, hD9⟩, hS.F ht⟩) hS.2.2 d_MO_type_99
  · refine lv_lload hx hb d_MO_type_71 (lv_at hl 0 rfl) ?_
    refine lv_ldc2 (v := 126) hx hb hown (hts _ k_1006) d_MO_type_73 ?_
    refine W.lcmp hx hb d_MO_type_76 ?_
    refine lv_if_gt (tgt := 84) hx hb d_MO_type_77 (by decide) (fun hc2 => ?_) (fun hc2 => ?_)
    · refine lv_iconst (v := 0) hx hb d_MO_type_84 (by decide) ?_
      refine lv_istore hx hb d_MO_type_85 hl (by decide) rfl (fun ls hl => ?_)
      have hl : lv_has ls 8 [(4, .int 0), (6, .long (bm x 0)), (5, .int 0), (0, .ref m0), (1, .long x), (3, .int 2)] := hl
      refine lv_iinc (k := 2) (v := 1) hx hb d_MO_type_87 hl rfl (by decide) (by decide) rfl (fun ls hl => ?_)
      have hl : lv_has ls 8 [(5, .int 1), (4, .int 0), (6, .long (bm x 0)), (0, .ref m0), (1, .long x), (3, .int 2)] := hl
      refine lv_goto (tgt := 38) hx hb d_MO_type_90 (by decide) ?_
      refine lv_iload hx hb d_MO_type_38 (lv_at hl 1 rfl) ?_
      refine lv_if_eq (tgt := 93) hx hb d_MO_type_40 (by decide) (fun _ => ?_) (fun h9 => absurd (by decide) h9)
      refine lv_iload hx hb d_MO_type_93 (lv_at hl 1 rfl) ?_
      refine lv_if_ne (tgt := 100) hx hb d_MO_type_95 (by decide) (fun h9 => absurd (by decide) h9) (fun _ => ?_)
      refine lv_iconst (v := (-1)) hx hb d_MO_type_98 (by decide) ?_
      have hP9 := hP.sub (ws' := [(m0, .inr (9, [.int 0, .ref f_text, .int 0, .int (-1), .ref f_kinds, .ref f_places, .ref f_values, .int 0, .ref f_draftLetters, .int 0, .int 0, .int 0, .ref f_draftNumbers, .ref f_draftSigns, .int 0, .int 0, .int 0, .int 0, .ref f_letters, .ref f_numbers, .ref f_isList, .ref f_bounds, .ref f_sizes, .ref f_lists, .ref f_told, .ref f_costs, .int 0, .ref f_times, .int 0, .ref f_bestOne, .ref f_basis, .int 0, .ref f_one, .int 0, .ref f_along, .ref f_now]))]) [0] rfl
      have hD9 := hD.sub (ws' := [(m0, .inr (9, [.int 0, .ref f_text, .int 0, .int (-1), .ref f_kinds, .ref f_places, .ref f_values, .int 0, .ref f_draftLetters, .int 0, .int 0, .int 0, .ref f_draftNumbers, .ref f_draftSigns, .int 0, .int 0, .int 0, .int 0, .ref f_letters, .ref f_numbers, .ref f_isList, .ref f_bounds, .ref f_sizes, .ref f_lists, .ref f_told, .ref f_costs, .int 0, .ref f_times, .int 0, .ref f_bestOne, .ref f_basis, .int 0, .ref f_one, .int 0, .ref f_along, .ref f_now]))]) [0] (by decide) rfl
      have hK9 := hK.sub (tys' := []) [] rfl
      exact W.iret (v := (-1)) hx hb hr (fun t ht hW => ⟨⟨(-1), (), rfl, rfl, by rw [ht]; exact hP9, va_K.moved hW.alike hK9, hD9⟩, hS.F ht⟩) hS.2.2 d_MO_type_99
    · refine lv_iconst (v := 1) hx hb d_MO_type_80 (by decide) ?_
      refine lv_goto (tgt := 85) hx hb d_MO_type_81 (by decide) ?_
      refine lv_istore hx hb d_MO_type_85 hl (by decide) rfl (fun ls hl => ?_)
      have hl : lv_has ls 8 [(4, .int 1), (6, .long (bm x 0)), (5, .int 0), (0, .ref m0), (1, .long x), (3, .int 2)] := hl
      refine lv_iinc (k := 2) (v := 1) hx hb d_MO_type_87 hl rfl (by decide) (by decide) rfl (fun ls hl => ?_)
      have hl : lv_has ls 8 [(5, .int 1), (4, .int 1), (6, .long (bm x 0)), (0, .ref m0), (1, .long x), (3, .int 2)] := hl
      refine lv_goto (tgt := 38) hx hb d_MO_type_90 (by decide) ?_
      refine lv_iload hx hb d_MO_type_38 (lv_at hl 1 rfl) ?_
      refine lv_if_eq (tgt := 93) hx hb d_MO_type_40 (by decide) (fun h9 => absurd h9 (by decide)) (fun _ => ?_)
      refine lv_iload hx hb d_MO_type_43 (lv_at hl 0 rfl) ?_
      refine lv_iload_n hx hb d_MO_type_45 rfl (lv_at hl 5 rfl) ?_
      refine lv_icmp_ge (tgt := 93) hx hb d_MO_type_46 (by decide) (fun h9 => absurd h9 (by decide)) (fun _ => ?_)
      refine lv_lload_n hx hb d_MO_type_49 rfl (lv_at hl 4 rfl) ?_
      refine lv_bipush (v := 8) hx hb d_MO_type_50 (by decide) ?_
      refine lv_iload hx hb d_MO_type_52 (lv_at hl 0 rfl) ?_
      refine lv_imul hx hb d_MO_type_54 ?_
      refine lv_lshr (v := (x >>> (((8 * 1) : Int32).toInt64 &&& 63))) hx hb d_MO_type_55 rfl ?_
      refine lv_ldc2 (v := 255) hx hb hown (hts _ k_1004) d_MO_type_56 ?_
      refine lv_land hx hb d_MO_type_59 ?_
      refine W.eq (g2 := F0 m 60 ls [.long (bm x 1)]) rfl ?_
      refine lv_lstore hx hb d_MO_type_60 hl (by decide) rfl (fun ls hl => ?_)
      have hl : lv_has ls 8 [(6, .long (bm x 1)), (5, .int 1), (4, .int 1), (0, .ref m0), (1, .long x), (3, .int 2)] := hl
      refine lv_lload hx hb d_MO_type_62 (lv_at hl 0 rfl) ?_
      refine lv_ldc2 (v := 32) hx hb hown (hts _ k_1005) d_MO_type_64 ?_
      refine W.lcmp hx hb d_MO_type_67 ?_
      refine lv_if_lt (tgt := 84) hx hb d_MO_type_68 (by decide) (fun hc3 => ?_) (fun hc3 => ?_)
      · refine lv_iconst (v := 0) hx hb d_MO_type_84 (by decide) ?_
        refine lv_istore hx hb d_MO_type_85 hl (by decide) rfl (fun ls hl => ?_)
        have hl : lv_has ls 8 [(4, .int 0), (6, .long (bm x 1)), (5, .int 1), (0, .ref m0), (1, .long x), (3, .int 2)] := hl
        refine lv_iinc (k := 2) (v := 2) hx hb d_MO_type_87 hl rfl (by decide) (by decide) rfl (fun ls hl => ?_)
        have hl : lv_has ls 8 [(5, .int 2), (4, .int 0), (6, .long (bm x 1)), (0, .ref m0), (1, .long x), (3, .int 2)] := hl
        refine lv_goto (tgt := 38) hx hb d_MO_type_90 (by decide) ?_
        refine lv_iload hx hb d_MO_type_38 (lv_at hl 1 rfl) ?_
        refine lv_if_eq (tgt := 93) hx hb d_MO_type_40 (by decide) (fun _ => ?_) (fun h9 => absurd (by decide) h9)
        refine lv_iload hx hb d_MO_type_93 (lv_at hl 1 rfl) ?_
        refine lv_if_ne (tgt := 100) hx hb d_MO_type_95 (by decide) (fun h9 => absurd (by decide) h9) (fun _ => ?_)
        refine lv_iconst (v := (-1)) hx hb d_MO_type_98 (by decide) ?_
        have hP9 := hP.sub (ws' := [(m0, .inr (9, [.int 0, .ref f_text, .int 0, .int (-1), .ref f_kinds, .ref f_places, .ref f_values, .int 0, .ref f_draftLetters, .int 0, .int 0, .int 0, .ref f_draftNumbers, .ref f_draftSigns, .int 0, .int 0, .int 0, .int 0, .ref f_letters, .ref f_numbers, .ref f_isList, .ref f_bounds, .ref f_sizes, .ref f_lists, .ref f_told, .ref f_costs, .int 0, .ref f_times, .int 0, .ref f_bestOne, .ref f_basis, .int 0, .ref f_one, .int 0, .ref f_along, .ref f_now]))]) [0] rfl
        have hD9 := hD.sub (ws' := [(m0, .inr (9, [.int 0, .ref f_text, .int 0, .int (-1), .ref f_kinds, .ref f_places, .ref f_values, .int 0, .ref f_draftLetters, .int 0, .int 0, .int 0, .ref f_draftNumbers, .ref f_draftSigns, .int 0, .int 0, .int 0, .int 0, .ref f_letters, .ref f_numbers, .ref f_isList, .ref f_bounds, .ref f_sizes, .ref f_lists, .ref f_told, .ref f_costs, .int 0, .ref f_times, .int 0, .ref f_bestOne, .ref f_basis, .int 0, .ref f_one, .int 0, .ref f_along, .ref f_now]))]) [0] (by decide) rfl
        have hK9 := hK.sub (tys' := []) [] rfl
        exact W.iret (v := (-1)) hx hb hr (fun t ht hW => ⟨⟨(-1), (), rfl, rfl, by rw [ht]; exact hP9, va_K.moved hW.alike hK9, hD9⟩, hS.F ht⟩) hS.2.2 d_MO_type_99
      · refine lv_lload hx hb d_MO_type_71 (lv_at hl 0 rfl) ?_
        refine lv_ldc2 (v := 126) hx hb hown (hts _ k_1006) d_MO_type_73 ?_
        refine W.lcmp hx hb d_MO_type_76 ?_
        refine lv_if_gt (tgt := 84) hx hb d_MO_type_77 (by decide) (fun hc4 => ?_) (fun hc4 => ?_)
        · refine lv_iconst (v := 0) hx hb d_MO_type_84 (by decide) ?_
          refine lv_istore hx hb d_MO_type_85 hl (by decide) rfl (fun ls hl => ?_)
          have hl : lv_has ls 8 [(4, .int 0), (6, .long (bm x 1)), (5, .int 1), (0, .ref m0), (1, .long x), (3, .int 2)] := hl
          refine lv_iinc (k := 2) (v := 2) hx hb d_MO_type_87 hl rfl (by decide) (by decide) rfl (fun ls hl => ?_)
          have hl : lv_has ls 8 [(5, .int 2), (4, .int 0), (6, .long (bm x 1)), (0, .ref m0), (1, .long x), (3, .int 2)] := hl
          refine lv_goto (tgt := 38) hx hb d_MO_type_90 (by decide) ?_
          refine lv_iload hx hb d_MO_type_38 (lv_at hl 1 rfl) ?_
          refine lv_if_eq (tgt := 93) hx hb d_MO_type_40 (by decide) (fun _ => ?_) (fun h9 => absurd (by decide) h9)
          refine lv_iload hx hb d_MO_type_93 (lv_at hl 1 rfl) ?_
          refine lv_if_ne (tgt := 100) hx hb d_MO_type_95 (by decide) (fun h9 => absurd (by decide) h9) (fun _ => ?_)
          refine lv_iconst (v := (-1)) hx hb d_MO_type_98 (by decide) ?_
          have hP9 := hP.sub (ws' := [(m0, .inr (9, [.int 0, .ref f_text, .int 0, .int (-1), .ref f_kinds, .ref f_places, .ref f_values, .int 0, .ref f_draftLetters, .int 0, .int 0, .int 0, .ref f_draftNumbers, .ref f_draftSigns, .int 0, .int 0, .int 0, .int 0, .ref f_letters, .ref f_numbers, .ref f_isList, .ref f_bounds, .ref f_sizes, .ref f_lists, .ref f_told, .ref f_costs, .int 0, .ref f_times, .int 0, .ref f_bestOne, .ref f_basis, .int 0, .ref f_one, .int 0, .ref f_along, .ref f_now]))]) [0] rfl
          have hD9 := hD.sub (ws' := [(m0, .inr (9, [.int 0, .ref f_text, .int 0, .int (-1), .ref f_kinds, .ref f_places, .ref f_values, .int 0, .ref f_draftLetters, .int 0, .int 0, .int 0, .ref f_draftNumbers, .ref f_draftSigns, .int 0, .int 0, .int 0, .int 0, .ref f_letters, .ref f_numbers, .ref f_isList, .ref f_bounds, .ref f_sizes, .ref f_lists, .ref f_told, .ref f_costs, .int 0, .ref f_times, .int 0, .ref f_bestOne, .ref f_basis, .int 0, .ref f_one, .int 0, .ref f_along, .ref f_now]))]) [0] (by decide) rfl
          have hK9 := hK.sub (tys' := []) [] rfl
          exact W.iret (v := (-1)) hx hb hr (fun t ht hW => ⟨⟨(-1), (), rfl, rfl, by rw [ht]; exact hP9, va_K.moved hW.alike hK9, hD9⟩, hS.F ht⟩) hS.2.2 d_MO_type_99
        · refine lv_iconst (v := 1) hx hb d_MO_type_80 (by decide) ?_
          refine lv_goto (tgt := 85) hx hb d_MO_type_81 (by decide) ?_
          refine lv_istore hx hb d_MO_type_85 hl (by decide) rfl (fun ls hl => ?_)
          have hl : lv_has ls 8 [(4, .int 1), (6, .long (bm x 1)), (5, .int 1), (0, .ref m0), (1, .long x), (3, .int 2)] := hl
          refine lv_iinc (k := 2) (v := 2) hx hb d_MO_type_87 hl rfl (by decide) (by decide) rfl (fun ls hl => ?_)
          have hl : lv_has ls 8 [(5, .int 2), (4, .int 1), (6, .long (bm x 1)), (0, .ref m0), (1, .long x), (3, .int 2)] := hl
          refine lv_goto (tgt := 38) hx hb d_MO_type_90 (by decide) ?_
          refine lv_iload hx hb d_MO_type_38 (lv_at hl 1 rfl) ?_
          refine lv_if_eq (tgt := 93) hx hb d_MO_type_40 (by decide) (fun h9 => absurd h9 (by decide)) (fun _ => ?_)
          refine lv_iload hx hb d_MO_type_43 (lv_at hl 0 rfl) ?_
          refine lv_iload_n hx hb d_MO_type_45 rfl (lv_at hl 5 rfl) ?_
          refine lv_icmp_ge (tgt := 93) hx hb d_MO_type_46 (by decide) (fun _ => ?_) (fun h9 => absurd (by decide) h9)
          refine lv_iload hx hb d_MO_type_93 (lv_at hl 1 rfl) ?_
          refine lv_if_ne (tgt := 100) hx hb d_MO_type_95 (by decide) (fun _ => ?_) (fun h9 => absurd h9 (by decide))
          exact absurd ⟨okm (d := 0) (by decide +kernel) (by decide) hc1 hc2, okm (d := 8) (by decide +kernel) (by decide) hc3 hc4⟩ g

set_option maxHeartbeats 4000000 in
set_option maxRecDepth 100000 in
theorem c_MO_type_3y (l : Launch) (dC : Nat → ClassId) (dI : Nat → Nat → Nat) (m0 : Nat) (f_text : Nat) (f_kinds : Nat) (f_places : Nat) (f_values : Nat) (f_draftLetters : Nat) (f_draftNumbers : Nat) (f_draftSigns : Nat) (f_letters : Nat) (f_numbers : Nat) (f_isList : Nat) (f_bounds : Nat) (f_sizes : Nat) (f_lists : Nat) (f_told : Nat) (f_costs : Nat) (f_times : Nat) (f_bestOne : Nat) (f_basis : Nat) (f_one : Nat) (f_along : Nat) (f_now : Nat) (th : Int32) (cX : ClassId) (x : Int64) (sz : Nat) (g : ok x 0 ∧ ok x 8 ∧ ok x 16) : Met l y_MO_type (Cond.code y_MO_type b_MO_type 8 (Option.some Jvm.ClassFile.FieldType.int) :: wd) { frames := 0, cells := 0, slots := 0, locals := 0 } (va_Pc [.ref m0, .long x, .int 3] (fun U => U.heap.size = sz ∧ va_P (dC, dI) cls [(m0, .inr (9, [.int th, .ref f_text, .int 0, .int (-1), .ref f_kinds, .ref f_places, .ref f_values, .int 0, .ref f_draftLetters, .int 0, .int 0, .int 0, .ref f_draftNumbers, .ref f_draftSigns, .int 0, .int 0, .int 0, .int 0, .ref f_letters, .ref f_numbers, .ref f_isList, .ref f_bounds, .ref f_sizes, .ref f_lists, .ref f_told, .ref f_costs, .int 0, .ref f_times, .int 0, .ref f_bestOne, .ref f_basis, .int 0, .ref f_one, .int 0, .ref f_along, .ref f_now])), (f_text, .inl (cX, 300, .inl (fun _ => (0 : Int32))))] U.heap ∧ va_K (dC, dI) cls [(cX, .int)] U ∧ va_D (fun _ => True) [(m0, .inr (9, [.int th, .ref f_text, .int 0, .int (-1), .ref f_kinds, .ref f_places, .ref f_values, .int 0, .ref f_draftLetters, .int 0, .int 0, .int 0, .ref f_draftNumbers, .ref f_draftSigns, .int 0, .int 0, .int 0, .int 0, .ref f_letters, .ref f_numbers, .ref f_isList, .ref f_bounds, .ref f_sizes, .ref f_lists, .ref f_told, .ref f_costs, .int 0, .ref f_times, .int 0, .ref f_bestOne, .ref f_basis, .int 0, .ref f_one, .int 0, .ref f_along, .ref f_now])), (f_text, .inl (cX, 300, .inl (fun _ => (0 : Int32))))] ∧ nw_ok U)) (va_Qi (fun r (_ : Unit) => r = 3) (fun (_ : Unit) t => va_P (dC, dI) cls [(m0, .inr (9, [.int 0, .ref f_text, .int 3, .int (-1), .ref f_kinds, .ref f_places, .ref f_values, .int 0, .ref f_draftLetters, .int 0, .int 0, .int 0, .ref f_draftNumbers, .ref f_draftSigns, .int 0, .int 0, .int 0, .int 0, .ref f_letters, .ref f_numbers, .ref f_isList, .ref f_bounds, .ref f_sizes, .ref f_lists, .ref f_told, .ref f_costs, .int 0, .ref f_times, .int 0, .ref f_bestOne, .ref f_basis, .int 0, .ref f_one, .int 0, .ref f_along, .ref f_now]))] t.heap ∧ va_K (dC, dI) cls [(cX, .int)] t ∧ va_D (va_A [(m0, .inr (9, [.int th, .ref f_text, .int 0, .int (-1), .ref f_kinds, .ref f_places, .ref f_values, .int 0, .ref f_draftLetters, .int 0, .int 0, .int 0, .ref f_draftNumbers, .ref f_draftSigns, .int 0, .int 0, .int 0, .int 0, .ref f_letters, .ref f_numbers, .ref f_isList, .ref f_bounds, .ref f_sizes, .ref f_lists, .ref f_told, .ref f_costs, .int 0, .ref f_times, .int 0, .ref f_bestOne, .ref f_basis, .int 0, .ref f_one, .int 0, .ref f_along, .ref f_now])), (f_text, .inl (cX, 300, .inl (fun _ => (0 : Int32))))] sz) [(m0, .inr (9, [.int 0, .ref f_text, .int 3, .int (-1), .ref f_kinds, .ref f_places, .ref f_values, .int 0, .ref f_draftLetters, .int 0, .int 0, .int 0, .ref f_draftNumbers, .ref f_draftSigns, .int 0, .int 0, .int 0, .int 0, .ref f_letters, .ref f_numbers, .ref f_isList, .ref f_bounds, .ref f_sizes, .ref f_lists, .ref f_told, .ref f_costs, .int 0, .ref f_times, .int 0, .ref f_bestOne, .ref f_basis, .int 0, .ref f_one, .int 0, .ref f_along, .ref f_now]))]) (va_A [(m0, .inr (9, [.int th, .ref f_text, .int 0, .int (-1), .ref f_kinds, .ref f_places, .ref f_values, .int 0, .ref f_draftLetters, .int 0, .int 0, .int 0, .ref f_draftNumbers, .ref f_draftSigns, .int 0, .int 0, .int 0, .int 0, .ref f_letters, .ref f_numbers, .ref f_isList, .ref f_bounds, .ref f_sizes, .ref f_lists, .ref f_told, .ref f_costs, .int 0, .ref f_times, .int 0, .ref f_bestOne, .ref f_basis, .int 0, .ref f_one, .int 0, .ref f_along, .ref f_now])), (f_text, .inl (cX, 300, .inl (fun _ => (0 : Int32))))] sz)) 0 0 (va_A [(m0, .inr (9, [.int th, .ref f_text, .int 0, .int (-1), .ref f_kinds, .ref f_places, .ref f_values, .int 0, .ref f_draftLetters, .int 0, .int 0, .int 0, .ref f_draftNumbers, .ref f_draftSigns, .int 0, .int 0, .int 0, .int 0, .ref f_letters, .ref f_numbers, .ref f_isList, .ref f_bounds, .ref f_sizes, .ref f_lists, .ref f_told, .ref f_costs, .int 0, .ref f_times, .int 0, .ref f_bestOne, .ref f_basis, .int 0, .ref f_one, .int 0, .ref f_along, .ref f_now])), (f_text, .inl (cX, 300, .inl (fun _ => (0 : Int32))))] sz) := by
  refine Met.ofW (cc := b_MO_type) (maxL := 8) (ret := (Option.some Jvm.ClassFile.FieldType.int)) (by decide) rfl ?_
  intro p e s m args below meth c s₁ B hml hv
  obtain ⟨rfl, hsz, hP, hK, hD0, hN⟩ := hv
  have hx := B.exec
  have hb := B.bytes
  have hr := B.returns
  have hlocks := B.notSynchronized
  have hts : ∀ w ∈ wd, w.before ([.ref m0, .long x, .int 3] : List Value).toArray s = true := fun w hw => atoms_spec (ws := (Cond.code y_MO_type b_MO_type 8 (Option.some Jvm.ClassFile.FieldType.int) :: wd)) B.pre w (List.mem_cons_of_mem _ hw)
  have hown : s.vm.findClass "LeastSolutionsModel" = some m.cls := findClass_of_methodNamed B.named
  subst hsz
  have hD := hD0.self (sz := s.heap.size)
  generalize hAe : va_A [(m0, .inr (9, [.int th, .ref f_text, .int 0, .int (-1), .ref f_kinds, .ref f_places, .ref f_values, .int 0, .ref f_draftLetters, .int 0, .int 0, .int 0, .ref f_draftNumbers, .ref f_draftSigns, .int 0, .int 0, .int 0, .int 0, .ref f_letters, .ref f_numbers, .ref f_isList, .ref f_bounds, .ref f_sizes, .ref f_lists, .ref f_told, .ref f_costs, .int 0, .ref f_times, .int 0, .ref f_bestOne, .ref f_basis, .int 0, .ref f_one, .int 0, .ref f_along, .ref f_now])), (f_text, .inl (cX, 300, .inl (fun _ => (0 : Int32))))] s.heap.size = A at hD ⊢
  have hA : ∀ q : Nat, s.heap.size ≤ q → A q := fun q h => by rw [← hAe]; exact Or.inr h
  have hS : va_S A s.heap s.heap [] := va_S.rf
  have hl := lv_entry ([.ref m0, .long x, .int 3]) (n := 8) (Nat.le_of_ble_eq_true rfl)
  rw [lg_entry_eq]
  generalize (lg_sl ([.ref m0, .long x, .int 3]) ++ List.replicate (8 - (lg_sl ([.ref m0, .long x, .int 3])).length) Slot.unset).toArray = ls at hl ⊢
  have hl : lv_has ls 8 [(0, .ref m0), (1, .long x), (3, .int 3)] := hl
  refine lv_aload_n hx hb d_MO_type_0 rfl (lv_at hl 0 rfl) ?_
  refine lv_iconst (v := 0) hx hb d_MO_type_1 (by decide) ?_
  refine va_put (D := (dC, dI)) (ci := 9) (v := .int 0) (ty := .int) (C := R_MO) (T := T_MO) (N := 36) hx hb hts in_MO t_MO t_MO_ok n_MO hown hK hP hD hS 0 rfl rfl 0 (by decide) (hts _ k_886) (fun _ h9 => h9) rfl (by decide +kernel) rfl rfl (Nat.le_of_ble_eq_true rfl) d_MO_type_2 (fun H1 locs hP hD hS => ?_)
  have hP : va_P (dC, dI) cls [(m0, .inr (9, [.int 0, .ref f_text, .int 0, .int (-1), .ref f_kinds, .ref f_places, .ref f_values, .int 0, .ref f_draftLetters, .int 0, .int 0, .int 0, .ref f_draftNumbers, .ref f_draftSigns, .int 0, .int 0, .int 0, .int 0, .ref f_letters, .ref f_numbers, .ref f_isList, .ref f_bounds, .ref f_sizes, .ref f_lists, .ref f_told, .ref f_costs, .int 0, .ref f_times, .int 0, .ref f_bestOne, .ref f_basis, .int 0, .ref f_one, .int 0, .ref f_along, .ref f_now])), (f_text, .inl (cX, 300, .inl (fun _ => (0 : Int32))))] H1 := hP
  have hD : va_D A [(m0, .inr (9, [.int 0, .ref f_text, .int 0, .int (-1), .ref f_kinds, .ref f_places, .ref f_values, .int 0, .ref f_draftLetters, .int 0, .int 0, .int 0, .ref f_draftNumbers, .ref f_draftSigns, .int 0, .int 0, .int 0, .int 0, .ref f_letters, .ref f_numbers, .ref f_isList, .ref f_bounds, .ref f_sizes, .ref f_lists, .ref f_told, .ref f_costs, .int 0, .ref f_times, .int 0, .ref f_bestOne, .ref f_basis, .int 0, .ref f_one, .int 0, .ref f_along, .ref f_now])), (f_text, .inl (cX, 300, .inl (fun _ => (0 : Int32))))] := hD
  refine lv_iload_n hx hb d_MO_type_5 rfl (lv_at hl 2 rfl) ?_
  refine lv_iconst (v := 1) hx hb d_MO_type_6 (by decide) ?_
  refine lv_icmp_lt (tgt := 32) hx hb d_MO_type_7 (by decide) (fun h9 => absurd h9 (by decide)) (fun _ => ?_)
  refine lv_iload_n hx hb d_MO_type_10 rfl (lv_at hl 2 rfl) ?_
  refine lv_bipush (v := 8) hx hb d_MO_type_11 (by decide) ?_
  refine lv_icmp_gt (tgt := 32) hx hb d_MO_type_13 (by decide) (fun h9 => absurd h9 (by decide)) (fun _ => ?_)
  refine lv_aload_n hx hb d_MO_type_16 rfl (lv_at hl 0 rfl) ?_
  refine va_get (D := (dC, dI)) (ci := 9) (v := .int 0) (C := R_MO) (T := T_MO) (N := 36) hx hb hts in_MO hown hK hP 0 rfl rfl 2 (by decide) (hts _ k_888) (fun _ h9 => h9) rfl d_MO_type_17 ?_
  refine lv_iload_n hx hb d_MO_type_20 rfl (lv_at hl 2 rfl) ?_
  refine lv_iadd hx hb d_MO_type_21 ?_
  refine W.eq (g2 := F0 m 22 ls [.int 3]) rfl ?_
  refine lv_sipush (v := 300) hx hb d_MO_type_22 (by decide) ?_
  refine lv_icmp_gt (tgt := 32) hx hb d_MO_type_25 (by decide) (fun h9 => absurd h9 (by decide)) (fun _ => ?_)
  refine lv_iconst (v := 1) hx hb d_MO_type_28 (by decide) ?_
  refine lv_goto (tgt := 33) hx hb d_MO_type_29 (by decide) ?_
  refine lv_istore hx hb d_MO_type_33 hl (by decide) rfl (fun ls hl => ?_)
  have hl : lv_has ls 8 [(4, .int 1), (0, .ref m0), (1, .long x), (3, .int 3)] := hl
  refine lv_iconst (v := 0) hx hb d_MO_type_35 (by decide) ?_
  refine lv_istore hx hb d_MO_type_36 hl (by decide) rfl (fun ls hl => ?_)
  have hl : lv_has ls 8 [(5, .int 0), (4, .int 1), (0, .ref m0), (1, .long x), (3, .int 3)] := hl
  refine lv_iload hx hb d_MO_type_38 (lv_at hl 1 rfl) ?_
  refine lv_if_eq (tgt := 93) hx hb d_MO_type_40 (by decide) (fun h9 => absurd h9 (by decide)) (fun _ => ?_)
  refine lv_iload hx hb d_MO_type_43 (lv_at hl 0 rfl) ?_
  refine lv_iload_n hx hb d_MO_type_45 rfl (lv_at hl 4 rfl) ?_
  refine lv_icmp_ge (tgt := 93) hx hb d_MO_type_46 (by decide) (fun h9 => absurd h9 (by decide)) (fun _ => ?_)
  refine lv_lload_n hx hb d_MO_type_49 rfl (lv_at hl 3 rfl) ?_
  refine lv_bipush (v := 8) hx hb d_MO_type_50 (by decide) ?_
  refine lv_iload hx hb d_MO_type_52 (lv_at hl 0 rfl) ?_
  refine lv_imul hx hb d_MO_type_54 ?_
  refine lv_lshr (v := (x >>> (((8 * 0) : Int32).toInt64 &&& 63))) hx hb d_MO_type_55 rfl ?_
  refine lv_ldc2 (v := 255) hx hb hown (hts _ k_1004) d_MO_type_56 ?_
  refine lv_land hx hb d_MO_type_59 ?_
  refine W.eq (g2 := F0 m 60 ls [.long (bm x 0)]) rfl ?_
  refine lv_lstore hx hb d_MO_type_60 hl (by decide) rfl (fun ls hl => ?_)
  have hl : lv_has ls 8 [(6, .long (bm x 0)), (5, .int 0), (4, .int 1), (0, .ref m0), (1, .long x), (3, .int 3)] := hl
  refine lv_lload hx hb d_MO_type_62 (lv_at hl 0 rfl) ?_
  refine lv_ldc2 (v := 32) hx hb hown (hts _ k_1005) d_MO_type_64 ?_
  refine W.lcmp hx hb d_MO_type_67 ?_
  refine lv_if_lt (tgt := 84) hx hb d_MO_type_68 (by decide) (fun h9 => absurd h9 (okm1 (d := 0) (by decide +kernel) (by decide) (g.1))) (fun _ => ?_)
  refine lv_lload hx hb d_MO_type_71 (lv_at hl 0 rfl) ?_
  refine lv_ldc2 (v := 126) hx hb hown (hts _ k_1006) d_MO_type_73 ?_
  refine W.lcmp hx hb d_MO_type_76 ?_
  refine lv_if_gt (tgt := 84) hx hb d_MO_type_77 (by decide) (fun h9 => absurd h9 (okm2 (d := 0) (by decide +kernel) (by decide) (g.1))) (fun _ => ?_)
  refine lv_iconst (v := 1) hx hb d_MO_type_80 (by decide) ?_
  refine lv_goto (tgt := 85) hx hb d_MO_type_81 (by decide) ?_
  refine lv_istore hx hb d_MO_type_85 hl (by decide) rfl (fun ls hl => ?_)
  have hl : lv_has ls 8 [(4, .int 1), (6, .long (bm x 0)), (5, .int 0), (0, .ref m0), (1, .long x), (3, .int 3)] := hl
  refine lv_iinc (k := 2) (v := 1) hx hb d_MO_type_87 hl rfl (by decide) (by decide) rfl (fun ls hl => ?_)
  have hl : lv_has ls 8 [(5, .int 1), (4, .int 1), (6, .long (bm x 0)), (0, .ref m0), (1, .long x), (3, .int 3)] := hl
  refine lv_goto (tgt := 38) hx hb d_MO_type_90 (by decide) ?_
  refine lv_iload hx hb d_MO_type_38 (lv_at hl 1 rfl) ?_
  refine lv_if_eq (tgt := 93) hx hb d_MO_type_40 (by decide) (fun h9 => absurd h9 (by decide)) (fun _ => ?_)
  refine lv_iload hx hb d_MO_type_43 (lv_at hl 0 rfl) ?_
  refine lv_iload_n hx hb d_MO_type_45 rfl (lv_at hl 5 rfl) ?_
  refine lv_icmp_ge (tgt := 93) hx hb d_MO_type_46 (by decide) (fun h9 => absurd h9 (by decide)) (fun _ => ?_)
  refine lv_lload_n hx hb d_MO_type_49 rfl (lv_at hl 4 rfl) ?_
  refine lv_bipush (v := 8) hx hb d_MO_type_50 (by decide) ?_
  refine lv_iload hx hb d_MO_type_52 (lv_at hl 0 rfl) ?_
  refine lv_imul hx hb d_MO_type_54 ?_
  refine lv_lshr (v := (x >>> (((8 * 1) : Int32).toInt64 &&& 63))) hx hb d_MO_type_55 rfl ?_
  refine lv_ldc2 (v := 255) hx hb hown (hts _ k_1004) d_MO_type_56 ?_
  refine lv_land hx hb d_MO_type_59 ?_
  refine W.eq (g2 := F0 m 60 ls [.long (bm x 1)]) rfl ?_
  refine lv_lstore hx hb d_MO_type_60 hl (by decide) rfl (fun ls hl => ?_)
  have hl : lv_has ls 8 [(6, .long (bm x 1)), (5, .int 1), (4, .int 1), (0, .ref m0), (1, .long x), (3, .int 3)] := hl
  refine lv_lload hx hb d_MO_type_62 (lv_at hl 0 rfl) ?_
  refine lv_ldc2 (v := 32) hx hb hown (hts _ k_1005) d_MO_type_64 ?_
  refine W.lcmp hx hb d_MO_type_67 ?_
  refine lv_if_lt (tgt := 84) hx hb d_MO_type_68 (by decide) (fun h9 => absurd h9 (okm1 (d := 8) (by decide +kernel) (by decide) (g.2.1))) (fun _ => ?_)
  refine lv_lload hx hb d_MO_type_71 (lv_at hl 0 rfl) ?_
  refine lv_ldc2 (v := 126) hx hb hown (hts _ k_1006) d_MO_type_73 ?_
  refine W.lcmp hx hb d_MO_type_76 ?_
  refine lv_if_gt (tgt := 84) hx hb d_MO_type_77 (by decide) (fun h9 => absurd h9 (okm2 (d := 8) (by decide +kernel) (by decide) (g.2.1))) (fun _ => ?_)
  refine lv_iconst (v := 1) hx hb d_MO_type_80 (by decide) ?_
  refine lv_goto (tgt := 85) hx hb d_MO_type_81 (by decide) ?_
  refine lv_istore hx hb d_MO_type_85 hl (by decide) rfl (fun ls hl => ?_)
  have hl : lv_has ls 8 [(4, .int 1), (6, .long (bm x 1)), (5, .int 1), (0, .ref m0), (1, .long x), (3, .int 3)] := hl
  refine lv_iinc (k := 2) (v := 2) hx hb d_MO_type_87 hl rfl (by decide) (by decide) rfl (fun ls hl => ?_)
  have hl : lv_has ls 8 [(5, .int 2), (4, .int 1), (6, .long (bm x 1)), (0, .ref m0), (1, .long x), (3, .int 3)] := hl
  refine lv_goto (tgt := 38) hx hb d_MO_type_90 (by decide) ?_
  refine lv_iload hx hb d_MO_type_38 (lv_at hl 1 rfl) ?_
  refine lv_if_eq (tgt := 93) hx hb d_MO_type_40 (by decide) (fun h9 => absurd h9 (by decide)) (fun _ => ?_)
  refine lv_iload hx hb d_MO_type_43 (lv_at hl 0 rfl) ?_
  refine lv_iload_n hx hb d_MO_type_45 rfl (lv_at hl 5 rfl) ?_
  refine lv_icmp_ge (tgt := 93) hx hb d_MO_type_46 (by decide) (fun h9 => absurd h9 (by decide)) (fun _ => ?_)
  refine lv_lload_n hx hb d_MO_type_49 rfl (lv_at hl 4 rfl) ?_
  refine lv_bipush (v := 8) hx hb d_MO_type_50 (by decide) ?_
  refine lv_iload hx hb d_MO_type_52 (lv_at hl 0 rfl) ?_
  refine lv_imul hx hb d_MO_type_54 ?_
  refine lv_lshr (v := (x >>> (((8 * 2) : Int32).toInt64 &&& 63))) hx hb d_MO_type_55 rfl ?_
  refine lv_ldc2 (v := 255) hx hb hown (hts _ k_1004) d_MO_type_56 ?_
  refine lv_land hx hb d_MO_type_59 ?_
  refine W.eq (g2 := F0 m 60 ls [.long (bm x 2)]) rfl ?_
  refine lv_lstore hx hb d_MO_type_60 hl (by decide) rfl (fun ls hl => ?_)
  have hl : lv_has ls 8 [(6, .long (bm x 2)), (5, .int 2), (4, .int 1), (0, .ref m0), (1, .long x), (3, .int 3)] := hl
  refine lv_lload hx hb d_MO_type_62 (lv_at hl 0 rfl) ?_
  refine lv_ldc2 (v := 32) hx hb hown (hts _ k_1005) d_MO_type_64 ?_
  refine W.lcmp hx hb d_MO_type_67 ?_
  refine lv_if_lt (tgt := 84) hx hb d_MO_type_68 (by decide) (fun h9 => absurd h9 (okm1 (d := 16) (by decide +kernel) (by decide) (g.2.2))) (fun _ => ?_)
  refine lv_lload hx hb d_MO_type_71 (lv_at hl 0 rfl) ?_
  refine lv_ldc2 (v := 126) hx hb hown (hts _ k_1006) d_MO_type_73 ?_
  refine W.lcmp hx hb d_MO_type_76 ?_
  refine lv_if_gt (tgt := 84) hx hb d_MO_type_77 (by decide) (fun h9 => absurd h9 (okm2 (d := 16) (by decide +kernel) (by decide) (g.2.2))) (fun _ => ?_)
  refine lv_iconst (v := 1) hx hb d_MO_type_80 (by decide) ?_
  refine lv_goto (tgt := 85) hx hb d_MO_type_81 (by decide) ?_
  refine lv_istore hx hb d_MO_type_85 hl (by decide) rfl (fun ls hl => ?_)
  have hl : lv_has ls 8 [(4, .int 1), (6, .long (bm x 2)), (5, .int 2), (0, .ref m0), (1, .long x), (3, .int 3)] := hl
  refine lv_iinc (k := 2) (v := 3) hx hb d_MO_type_87 hl rfl (by decide) (by decide) rfl (fun ls hl => ?_)
  have hl : lv_has ls 8 [(5, .int 3), (4, .int 1), (6, .long (bm x 2)), (0, .ref m0), (1, .long x), (3, .int 3)] := hl
  refine lv_goto (tgt := 38) hx hb d_MO_type_90 (by decide) ?_
  refine lv_iload hx hb d_MO_type_38 (lv_at hl 1 rfl) ?_
  refine lv_if_eq (tgt := 93) hx hb d_MO_type_40 (by decide) (fun h9 => absurd h9 (by decide)) (fun _ => ?_)
  refine lv_iload hx hb d_MO_type_43 (lv_at hl 0 rfl) ?_
  refine lv_iload_n hx hb d_MO_type_45 rfl (lv_at hl 5 rfl) ?_
  refine lv_icmp_ge (tgt := 93) hx hb d_MO_type_46 (by decide) (fun _ => ?_) (fun h9 => absurd (by decide) h9)
  refine lv_iload hx hb d_MO_type_93 (lv_at hl 1 rfl) ?_
  refine lv_if_ne (tgt := 100) hx hb d_MO_type_95 (by decide) (fun _ => ?_) (fun h9 => absurd h9 (by decide))
  refine lv_iload_n hx hb d_MO_type_100 rfl (lv_at hl 5 rfl) ?_
  refine lv_iconst (v := 1) hx hb d_MO_type_101 (by decide) ?_
  refine lv_isub hx hb d_MO_type_102 ?_
  refine W.eq (g2 := F0 m 103 ls [.int 2]) rfl ?_
  refine lv_istore hx hb d_MO_type_103 hl (by decide) rfl (fun ls hl => ?_)
  have hl : lv_has ls 8 [(5, .int 2), (4, .int 1), (6, .long (bm x 2)), (0, .ref m0), (1, .long x), (3, .int 3)] := hl
  refine lv_iload hx hb d_MO_type_105 (lv_at hl 0 rfl) ?_
  refine lv_if_lt (tgt := 147) hx hb d_MO_type_107 (by decide) (fun h9 => absurd h9 (by decide)) (fun _ => ?_)
  refine lv_aload_n hx hb d_MO_type_110 rfl (lv_at hl 3 rfl) ?_
  refine va_get (D := (dC, dI)) (ci := 9) (v := .ref f_text) (C := R_MO) (T := T_MO) (N := 36) hx hb hts in_MO hown hK hP 0 rfl rfl 1 (by decide) (hts _ k_887) (fun _ h9 => h9) rfl d_MO_type_111 ?_
  refine lv_aload_n hx hb d_MO_type_114 rfl (lv_at hl 3 rfl) ?_
  refine va_get (D := (dC, dI)) (ci := 9) (v := .int 0) (C := R_MO) (T := T_MO) (N := 36) hx hb hts in_MO hown hK hP 0 rfl rfl 2 (by decide) (hts _ k_888) (fun _ h9 => h9) rfl d_MO_type_115 ?_
  refine lv_lload_n hx hb d_MO_type_118 rfl (lv_at hl 4 rfl) ?_
  refine lv_bipush (v := 8) hx hb d_MO_type_119 (by decide) ?_
  refine lv_iload hx hb d_MO_type_121 (lv_at hl 0 rfl) ?_
  refine lv_imul hx hb d_MO_type_123 ?_
  refine lv_lshr (v := (x >>> (((8 * 2) : Int32).toInt64 &&& 63))) hx hb d_MO_type_124 rfl ?_
  refine lv_ldc2 (v := 255) hx hb hown (hts _ k_1004) d_MO_type_125 ?_
  refine lv_land hx hb d_MO_type_128 ?_
  refine W.eq (g2 := F0 m 129 ls [.long (bm x 2), .int 0, .ref f_text]) rfl ?_
  refine lv_l2i (v := (bm x 2).toInt32) hx hb d_MO_type_129 rfl ?_
  refine va_iast hx hb hK hP hD hS 1 0 rfl rfl (show ¬ ((0 : Int32) < 0 ∨ 300 ≤ (0 : Int32).toNatClampNeg) from by decide) d_MO_type_130 (fun H2 locs hP hD hS => ?_)
  have hP : va_P (dC, dI) cls [(m0, .inr (9, [.int 0, .ref f_text, .int 0, .int (-1), .ref f_kinds, .ref f_places, .ref f_values, .int 0, .ref f_draftLetters, .int 0, .int 0, .int 0, .ref f_draftNumbers, .ref f_draftSigns, .int 0, .int 0, .int 0, .int 0, .ref f_letters, .ref f_numbers, .ref f_isList, .ref f_bounds, .ref f_sizes, .ref f_lists, .ref f_told, .ref f_costs, .int 0, .ref f_times, .int 0, .ref f_bestOne, .ref f_basis, .int 0, .ref f_one, .int 0, .ref f_along, .ref f_now])), (f_text, .inl (cX, 300, .inl (upd (fun _ => (0 : Int32)) (0 : Int32).toNatClampNeg (bm x 2).toInt32)))] H2 := hP
  have hD : va_D A [(m0, .inr (9, [.int 0, .ref f_text, .int 0, .int (-1), .ref f_kinds, .ref f_places, .ref f_values, .int 0, .ref f_draftLetters, .int 0, .int 0, .int 0, .ref f_draftNumbers, .ref f_draftSigns, .int 0, .int 0, .int 0, .int 0, .ref f_letters, .ref f_numbers, .ref f_isList, .ref f_bounds, .ref f_sizes, .ref f_lists, .ref f_told, .ref f_costs, .int 0, .ref f_times, .int 0, .ref f_bestOne, .ref f_basis, .int 0, .ref f_one, .int 0, .ref f_along, .ref f_now])), (f_text, .inl (cX, 300, .inl (upd (fun _ => (0 : Int32)) (0 : Int32).toNatClampNeg (bm x 2).toInt32)))] := hD
  refine lv_aload_n hx hb d_MO_type_131 rfl (lv_at hl 3 rfl) ?_
  refine lv_dup hx hb d_MO_type_132 rfl ?_
  refine va_get (D := (dC, dI)) (ci := 9) (v := .int 0) (C := R_MO) (T := T_MO) (N := 36) hx hb hts in_MO hown hK hP 0 rfl rfl 2 (by decide) (hts _ k_888) (fun _ h9 => h9) rfl d_MO_type_133 ?_
  refine lv_iconst (v := 1) hx hb d_MO_type_136 (by decide) ?_
  refine lv_iadd hx hb d_MO_type_137 ?_
  refine W.eq (g2 := F0 m 138 ls [.int 1, .ref m0]) rfl ?_
  refine va_put (D := (dC, dI)) (ci := 9) (v := .int 1) (ty := .int) (C := R_MO) (T := T_MO) (N := 36) hx hb hts in_MO t_MO t_MO_ok n_MO hown hK hP hD hS 0 rfl rfl 2 (by decide) (hts _ k_888) (fun _ h9 => h9) rfl (by decide +kernel) rfl rfl (Nat.le_of_ble_eq_true rfl) d_MO_type_138 (fun H3 locs hP hD hS => ?_)
  have hP : va_P (dC, dI) cls [(m0, .inr (9, [.int 0, .ref f_text, .int 1, .int (-1), .ref f_kinds, .ref f_places, .ref f_values, .int 0, .ref f_draftLetters, .int 0, .int 0, .int 0, .ref f_draftNumbers, .ref f_draftSigns, .int 0, .int 0, .int 0, .int 0, .ref f_letters, .ref f_numbers, .ref f_isList, .ref f_bounds, .ref f_sizes, .ref f_lists, .ref f_told, .ref f_costs, .int 0, .ref f_times, .int 0, .ref f_bestOne, .ref f_basis, .int 0, .ref f_one, .int 0, .ref f_along, .ref f_now])), (f_text, .inl (cX, 300, .inl (upd (fun _ => (0 : Int32)) (0 : Int32).toNatClampNeg (bm x 2).toInt32)))] H3 := hP
  have hD : va_D A [(m0, .inr (9, [.int 0, .ref f_text, .int 1, .int (-1), .ref f_kinds, .ref f_places, .ref f_values, .int 0, .ref f_draftLetters, .int 0, .int 0, .int 0, .ref f_draftNumbers, .ref f_draftSigns, .int 0, .int 0, .int 0, .int 0, .ref f_letters, .ref f_numbers, .ref f_isList, .ref f_bounds, .ref f_sizes, .ref f_lists, .ref f_told, .ref f_costs, .int 0, .ref f_times, .int 0, .ref f_bestOne, .ref f_basis, .int 0, .ref f_one, .int 0, .ref f_along, .ref f_now])), (f_text, .inl (cX, 300, .inl (upd (fun _ => (0 : Int32)) (0 : Int32).toNatClampNeg (bm x 2).toInt32)))] := hD
  refine lv_iinc (k := 0) (v := 1) hx hb d_MO_type_141 hl rfl (by decide) (by decide) rfl (fun ls hl => ?_)
  have hl : lv_has ls 8 [(5, .int 1), (4, .int 1), (6, .long (bm x 2)), (0, .ref m0), (1, .long x), (3, .int 3)] := hl
  refine lv_goto (tgt := 105) hx hb d_MO_type_144 (by decide) ?_
  refine lv_iload hx hb d_MO_type_105 (lv_at hl 0 rfl) ?_
  refine lv_if_lt (tgt := 147) hx hb d_MO_type_107 (by decide) (fun h9 => absurd h9 (by decide)) (fun _ => ?_)
  refine lv_aload_n hx hb d_MO_type_110 rfl (lv_at hl 3 rfl) ?_
  refine va_get (D := (dC, dI)) (ci := 9) (v := .ref f_text) (C := R_MO) (T := T_MO) (N := 36) hx hb hts in_MO hown hK hP 0 rfl rfl 1 (by decide) (hts _ k_887) (fun _ h9 => h9) rfl d_MO_type_111 ?_
  refine lv_aload_n hx hb d_MO_type_114 rfl (lv_at hl 3 rfl) ?_
  refine va_get (D := (dC, dI)) (ci := 9) (v := .int 1) (C := R_MO) (T := T_MO) (N := 36) hx hb hts in_MO hown hK hP 0 rfl rfl 2 (by decide) (hts _ k_888) (fun _ h9 => h9) rfl d_MO_type_115 ?_
  refine lv_lload_n hx hb d_MO_type_118 rfl (lv_at hl 4 rfl) ?_
  refine lv_bipush (v := 8) hx hb d_MO_type_119 (by decide) ?_
  refine lv_iload hx hb d_MO_type_121 (lv_at hl 0 rfl) ?_
  refine lv_imul hx hb d_MO_type_123 ?_
  refine lv_lshr (v := (x >>> (((8 * 1) : Int32).toInt64 &&& 63))) hx hb d_MO_type_124 rfl ?_
  refine lv_ldc2 (v := 255) hx hb hown (hts _ k_1004) d_MO_type_125 ?_
  refine lv_land hx hb d_MO_type_128 ?_
  refine W.eq (g2 := F0 m 129 ls [.long (bm x 1), .int 1, .ref f_text]) rfl ?_
  refine lv_l2i (v := (bm x 1).toInt32) hx hb d_MO_type_129 rfl ?_
  refine va_iast hx hb hK hP hD hS 1 0 rfl rfl (show ¬ ((1 : Int32) < 0 ∨ 300 ≤ (1 : Int32).toNatClampNeg) from by decide) d_MO_type_130 (fun H4 locs hP hD hS => ?_)
  have hP : va_P (dC, dI) cls [(m0, .inr (9, [.int 0, .ref f_text, .int 1, .int (-1), .ref f_kinds, .ref f_places, .ref f_values, .int 0, .ref f_draftLetters, .int 0, .int 0, .int 0, .ref f_draftNumbers, .ref f_draftSigns, .int 0, .int 0, .int 0, .int 0, .ref f_letters, .ref f_numbers, .ref f_isList, .ref f_bounds, .ref f_sizes, .ref f_lists, .ref f_told, .ref f_costs, .int 0, .ref f_times, .int 0, .ref f_bestOne, .ref f_basis, .int 0, .ref f_one, .int 0, .ref f_along, .ref f_now])), (f_text, .inl (cX, 300, .inl (upd (upd (fun _ => (0 : Int32)) (0 : Int32).toNatClampNeg (bm x 2).toInt32) (1 : Int32).toNatClampNeg (bm x 1).toInt32)))] H4 := hP
  have hD : va_D A [(m0, .inr (9, [.int 0, .ref f_text, .int 1, .int (-1), .ref f_kinds, .ref f_places, .ref f_values, .int 0, .ref f_draftLetters, .int 0, .int 0, .int 0, .ref f_draftNumbers, .ref f_draftSigns, .int 0, .int 0, .int 0, .int 0, .ref f_letters, .ref f_numbers, .ref f_isList, .ref f_bounds, .ref f_sizes, .ref f_lists, .ref f_told, .ref f_costs, .int 0, .ref f_times, .int 0, .ref f_bestOne, .ref f_basis, .int 0, .ref f_one, .int 0, .ref f_along, .ref f_now])), (f_text, .inl (cX, 300, .inl (upd (upd (fun _ => (0 : Int32)) (0 : Int32).toNatClampNeg (bm x 2).toInt32) (1 : Int32).toNatClampNeg (bm x 1).toInt32)))] := hD
  refine lv_aload_n hx hb d_MO_type_131 rfl (lv_at hl 3 rfl) ?_
  refine lv_dup hx hb d_MO_type_132 rfl ?_
  refine va_get (D := (dC, dI)) (ci := 9) (v := .int 1) (C := R_MO) (T := T_MO) (N := 36) hx hb hts in_MO hown hK hP 0 rfl rfl 2 (by decide) (hts _ k_888) (fun _ h9 => h9) rfl d_MO_type_133 ?_
  refine lv_iconst (v := 1) hx hb d_MO_type_136 (by decide) ?_
  refine lv_iadd hx hb d_MO_type_137 ?_
  refine W.eq (g2 := F0 m 138 ls [.int 2, .ref m0]) rfl ?_
  refine va_put (D := (dC, dI)) (ci := 9) (v := .int 2) (ty := .int) (C := R_MO) (T := T_MO) (N := 36) hx hb hts in_MO t_MO t_MO_ok n_MO hown hK hP hD hS 0 rfl rfl 2 (by decide) (hts _ k_888) (fun _ h9 => h9) rfl (by decide +kernel) rfl rfl (Nat.le_of_ble_eq_true rfl) d_MO_type_138 (fun H5 locs hP hD hS => ?_)
  have hP : va_P (dC, dI) cls [(m0, .inr (9, [.int 0, .ref f_text, .int 2, .int (-1), .ref f_kinds, .ref f_places, .ref f_values, .int 0, .ref f_draftLetters, .int 0, .int 0, .int 0, .ref f_draftNumbers, .ref f_draftSigns, .int 0, .int 0, .int 0, .int 0, .ref f_letters, .ref f_numbers, .ref f_isList, .ref f_bounds, .ref f_sizes, .ref f_lists, .ref f_told, .ref f_costs, .int 0, .ref f_times, .int 0, .ref f_bestOne, .ref f_basis, .int 0, .ref f_one, .int 0, .ref f_along, .ref f_now])), (f_text, .inl (cX, 300, .inl (upd (upd (fun _ => (0 : Int32)) (0 : Int32).toNatClampNeg (bm x 2).toInt32) (1 : Int32).toNatClampNeg (bm x 1).toInt32)))] H5 := hP
  have hD : va_D A [(m0, .inr (9, [.int 0, .ref f_text, .int 2, .int (-1), .ref f_kinds, .ref f_places, .ref f_values, .int 0, .ref f_draftLetters, .int 0, .int 0, .int 0, .ref f_draftNumbers, .ref f_draftSigns, .int 0, .int 0, .int 0, .int 0, .ref f_letters, .ref f_numbers, .ref f_isList, .ref f_bounds, .ref f_sizes, .ref f_lists, .ref f_told, .ref f_costs, .int 0, .ref f_times, .int 0, .ref f_bestOne, .ref f_basis, .int 0, .ref f_one, .int 0, .ref f_along, .ref f_now])), (f_text, .inl (cX, 300, .inl (upd (upd (fun _ => (0 : Int32)) (0 : Int32).toNatClampNeg (bm x 2).toInt32) (1 : Int32).toNatClampNeg (bm x 1).toInt32)))] := hD
  refine lv_iinc (k := 0) (v := 0) hx hb d_MO_type_141 hl rfl (by decide) (by decide) rfl (fun ls hl => ?_)
  have hl : lv_has ls 8 [(5, .int 0), (4, .int 1), (6, .long (bm x 2)), (0, .ref m0), (1, .long x), (3, .int 3)] := hl
  refine lv_goto (tgt := 105) hx hb d_MO_type_144 (by decide) ?_
  refine lv_iload hx hb d_MO_type_105 (lv_at hl 0 rfl) ?_
  refine lv_if_lt (tgt := 147) hx hb d_MO_type_107 (by decide) (fun h9 => absurd h9 (by decide)) (fun _ => ?_)
  refine lv_aload_n hx hb d_MO_type_110 rfl (lv_at hl 3 rfl) ?_
  refine va_get (D := (dC, dI)) (ci := 9) (v := .ref f_text) (C := R_MO) (T := T_MO) (N := 36) hx hb hts in_MO hown hK hP 0 rfl rfl 1 (by decide) (hts _ k_887) (fun _ h9 => h9) rfl d_MO_type_111 ?_
  refine lv_aload_n hx hb d_MO_type_114 rfl (lv_at hl 3 rfl) ?_
  refine va_get (D := (dC, dI)) (ci := 9) (v := .int 2) (C := R_MO) (T := T_MO) (N := 36) hx hb hts in_MO hown hK hP 0 rfl rfl 2 (by decide) (hts _ k_888) (fun _ h9 => h9) rfl d_MO_type_115 ?_
  refine lv_lload_n hx hb d_MO_type_118 rfl (lv_at hl 4 rfl) ?_
  refine lv_bipush (v := 8) hx hb d_MO_type_119 (by decide) ?_
  refine lv_iload hx hb d_MO_type_121 (lv_at hl 0 rfl) ?_
  refine lv_imul hx hb d_MO_type_123 ?_
  refine lv_lshr (v := (x >>> (((8 * 0) : Int32).toInt64 &&& 63))) hx hb d_MO_type_124 rfl ?_
  refine lv_ldc2 (v := 255) hx hb hown (hts _ k_1004) d_MO_type_125 ?_
  refine lv_land hx hb d_MO_type_128 ?_
  refine W.eq (g2 := F0 m 129 ls [.long (bm x 0), .int 2, .ref f_text]) rfl ?_
  refine lv_l2i (v := (bm x 0).toInt32) hx hb d_MO_type_129 rfl ?_
  refine va_iast hx hb hK hP hD hS 1 0 rfl rfl (show ¬ ((2 : Int32) < 0 ∨ 300 ≤ (2 : Int32).toNatClampNeg) from by decide) d_MO_type_130 (fun H6 locs hP hD hS => ?_)
  have hP : va_P (dC, dI) cls [(m0, .inr (9, [.int 0, .ref f_text, .int 2, .int (-1), .ref f_kinds, .ref f_places, .ref f_values, .int 0, .ref f_draftLetters, .int 0, .int 0, .int 0, .ref f_draftNumbers, .ref f_draftSigns, .int 0, .int 0, .int 0, .int 0, .ref f_letters, .ref f_numbers, .ref f_isList, .ref f_bounds, .ref f_sizes, .ref f_lists, .ref f_told, .ref f_costs, .int 0, .ref f_times, .int 0, .ref f_bestOne, .ref f_basis, .int 0, .ref f_one, .int 0, .ref f_along, .ref f_now])), (f_text, .inl (cX, 300, .inl (upd (upd (upd (fun _ => (0 : Int32)) (0 : Int32).toNatClampNeg (bm x 2).toInt32) (1 : Int32).toNatClampNeg (bm x 1).toInt32) (2 : Int32).toNatClampNeg (bm x 0).toInt32)))] H6 := hP
  have hD : va_D A [(m0, .inr (9, [.int 0, .ref f_text, .int 2, .int (-1), .ref f_kinds, .ref f_places, .ref f_values, .int 0, .ref f_draftLetters, .int 0, .int 0, .int 0, .ref f_draftNumbers, .ref f_draftSigns, .int 0, .int 0, .int 0, .int 0, .ref f_letters, .ref f_numbers, .ref f_isList, .ref f_bounds, .ref f_sizes, .ref f_lists, .ref f_told, .ref f_costs, .int 0, .ref f_times, .int 0, .ref f_bestOne, .ref f_basis, .int 0, .ref f_one, .int 0, .ref f_along, .ref f_now])), (f_text, .inl (cX, 300, .inl (upd (upd (upd (fun _ => (0 : Int32)) (0 : Int32).toNatClampNeg (bm x 2).toInt32) (1 : Int32).toNatClampNeg (bm x 1).toInt32) (2 : Int32).toNatClampNeg (bm x 0).toInt32)))] := hD
  refine lv_aload_n hx hb d_MO_type_131 rfl (lv_at hl 3 rfl) ?_
  refine lv_dup hx hb d_MO_type_132 rfl ?_
  refine va_get (D := (dC, dI)) (ci := 9) (v := .int 2) (C := R_MO) (T := T_MO) (N := 36) hx hb hts in_MO hown hK hP 0 rfl rfl 2 (by decide) (hts _ k_888) (fun _ h9 => h9) rfl d_MO_type_133 ?_
  refine lv_iconst (v := 1) hx hb d_MO_type_136 (by decide) ?_
  refine lv_iadd hx hb d_MO_type_137 ?_
  refine W.eq (g2 := F0 m 138 ls [.int 3, .ref m0]) rfl ?_
  refine va_put (D := (dC, dI)) (ci := 9) (v := .int 3) (ty := .int) (C := R_MO) (T := T_MO) (N := 36) hx hb hts in_MO t_MO t_MO_ok n_MO hown hK hP hD hS 0 rfl rfl 2 (by decide) (hts _ k_888) (fun _ h9 => h9) rfl (by decide +kernel) rfl rfl (Nat.le_of_ble_eq_true rfl) d_MO_type_138 (fun H7 locs hP hD hS => ?_)
  have hP : va_P (dC, dI) cls [(m0, .inr (9, [.int 0, .ref f_text, .int 3, .int (-1), .ref f_kinds, .ref f_places, .ref f_values, .int 0, .ref f_draftLetters, .int 0, .int 0, .int 0, .ref f_draftNumbers, .ref f_draftSigns, .int 0, .int 0, .int 0, .int 0, .ref f_letters, .ref f_numbers, .ref f_isList, .ref f_bounds, .ref f_sizes, .ref f_lists, .ref f_told, .ref f_costs, .int 0, .ref f_times, .int 0, .ref f_bestOne, .ref f_basis, .int 0, .ref f_one, .int 0, .ref f_along, .ref f_now])), (f_text, .inl (cX, 300, .inl (upd (upd (upd (fun _ => (0 : Int32)) (0 : Int32).toNatClampNeg (bm x 2).toInt32) (1 : Int32).toNatClampNeg (bm x 1).toInt32) (2 : Int32).toNatClampNeg (bm x 0).toInt32)))] H7 := hP
  have hD : va_D A [(m0, .inr (9, [.int 0, .ref f_text, .int 3, .int (-1), .ref f_kinds, .ref f_places, .ref f_values, .int 0, .ref f_draftLetters, .int 0, .int 0, .int 0, .ref f_draftNumbers, .ref f_draftSigns, .int 0, .int 0, .int 0, .int 0, .ref f_letters, .ref f_numbers, .ref f_isList, .ref f_bounds, .ref f_sizes, .ref f_lists, .ref f_told, .ref f_costs, .int 0, .ref f_times, .int 0, .ref f_bestOne, .ref f_basis, .int 0, .ref f_one, .int 0, .ref f_along, .ref f_now])), (f_text, .inl (cX, 300, .inl (upd (upd (upd (fun _ => (0 : Int32)) (0 : Int32).toNatClampNeg (bm x 2).toInt32) (1 : Int32).toNatClampNeg (bm x 1).toInt32) (2 : Int32).toNatClampNeg (bm x 0).toInt32)))] := hD
  refine lv_iinc (k := 0) (v := (-1)) hx hb d_MO_type_141 hl rfl (by decide) (by decide) rfl (fun ls hl => ?_)
  have hl : lv_has ls 8 [(5, .int (-1)), (4, .int 1), (6, .long (bm x 2)), (0, .ref m0), (1, .long x), (3, .int 3)] := hl
  refine lv_goto (tgt := 105) hx hb d_MO_type_144 (by decide) ?_
  refine lv_iload hx hb d_MO_type_105 (lv_at hl 0 rfl) ?_
  refine lv_if_lt (tgt := 147) hx hb d_MO_type_107 (by decide) (fun _ => ?_) (fun h9 => absurd (by decide) h9)
  refine lv_aload_n hx hb d_MO_type_147 rfl (lv_at hl 3 rfl) ?_
  refine va_get (D := (dC, dI)) (ci := 9) (v := .int 3) (C := R_MO) (T := T_MO) (N := 36) hx hb hts in_MO hown hK hP 0 rfl rfl 2 (by decide) (hts _ k_888) (fun _ h9 => h9) rfl d_MO_type_148 ?_
  have hP9 := hP.sub (ws' := [(m0, .inr (9, [.int 0, .ref f_text, .int 3, .int (-1), .ref f_kinds, .ref f_places, .ref f_values, .int 0, .ref f_draftLetters, .int 0, .int 0, .int 0, .ref f_draftNumbers, .ref f_draftSigns, .int 0, .int 0, .int 0, .int 0, .ref f_letters, .ref f_numbers, .ref f_isList, .ref f_bounds, .ref f_sizes, .ref f_lists, .ref f_told, .ref f_costs, .int 0, .ref f_times, .int 0, .ref f_bestOne, .ref f_basis, .int 0, .ref f_one, .int 0, .ref f_along, .ref f_now]))]) [0] rfl
  have hD9 := hD.sub (ws' := [(m0, .inr (9, [.int 0, .ref f_text, .int 3, .int (-1), .ref f_kinds, .ref f_places, .ref f_values, .int 0, .ref f_draftLetters, .int 0, .int 0, .int 0, .ref f_draftNumbers, .ref f_draftSigns, .int 0, .int 0, .int 0, .int 0, .ref f_letters, .ref f_numbers, .ref f_isList, .ref f_bounds, .ref f_sizes, .ref f_lists, .ref f_told, .ref f_costs, .int 0, .ref f_times, .int 0, .ref f_bestOne, .ref f_basis, .int 0, .ref f_one, .int 0, .ref f_along, .ref f_now]))]) [0] (by decide) rfl
  have hK9 := hK.sub (tys' := [(cX, .int)]) [0] rfl
  exact W.iret (v := 3) hx hb hr (fun t ht hW => ⟨⟨3, (), rfl, rfl, by rw [ht]; exact hP9, va_K.moved hW.alike hK9, hD9⟩, hS.F ht⟩) hS.2.2 d_MO_type_151

set_option maxHeartbeats 4000000 in
set_option maxRecDepth 100000 in
theorem c_MO_type_3n (l : Launch) (dC : Nat → ClassId) (dI : Nat → Nat → Nat) (m0 : Nat) (f_text : Nat) (f_kinds : Nat) (f_places : Nat) (f_values : Nat) (f_draftLetters : Nat) (f_draftNumbers : Nat) (f_draftSigns : Nat) (f_letters : Nat) (f_numbers : Nat) (f_isList : Nat) (f_bounds : Nat) (f_sizes : Nat) (f_lists : Nat) (f_told : Nat) (f_costs : Nat) (f_times : Nat) (f_bestOne : Nat) (f_basis : Nat) (f_one : Nat) (f_along : Nat) (f_now : Nat) (th : Int32) (x : Int64) (sz : Nat) (g : ¬ (ok x 0 ∧ ok x 8 ∧ ok x 16)) : Met l y_MO_type (Cond.code y_MO_type b_MO_type 8 (Option.some Jvm.ClassFile.FieldType.int) :: wd) { frames := 0, cells := 0, slots := 0, locals := 0 } (va_Pc [.ref m0, .long x, .int 3] (fun U => U.heap.size = sz ∧ va_P (dC, dI) cls [(m0, .inr (9, [.int th, .ref f_text, .int 0, .int (-1), .ref f_kinds, .ref f_places, .ref f_values, .int 0, .ref f_draftLetters, .int 0, .int 0, .int 0, .ref f_draftNumbers, .ref f_draftSigns, .int 0, .int 0, .int 0, .int 0, .ref f_letters, .ref f_numbers, .ref f_isList, .ref f_bounds, .ref f_sizes, .ref f_lists, .ref f_told, .ref f_costs, .int 0, .ref f_times, .int 0, .ref f_bestOne, .ref f_basis, .int 0, .ref f_one, .int 0, .ref f_along, .ref f_now]))] U.heap ∧ va_K (dC, dI) cls [] U ∧ va_D (fun _ => True) [(m0, .inr (9, [.int th, .ref f_text, .int 0, .int (-1), .ref f_kinds, .ref f_places, .ref f_values, .int 0, .ref f_draftLetters, .int 0, .int 0, .int 0, .ref f_draftNumbers, .ref f_draftSigns, .int 0, .int 0, .int 0, .int 0, .ref f_letters, .ref f_numbers, .ref f_isList, .ref f_bounds, .ref f_sizes, .ref f_lists, .ref f_told, .ref f_costs, .int 0, .ref f_times, .int 0, .ref f_bestOne, .ref f_basis, .int 0, .ref f_one, .int 0, .ref f_along, .ref f_now]))] ∧ nw_ok U)) (va_Qi (fun r (_ : Unit) => r = (-1)) (fun (_ : Unit) t => va_P (dC, dI) cls [(m0, .inr (9, [.int 0, .ref f_text, .int 0, .int (-1), .ref f_kinds, .ref f_places, .ref f_values, .int 0, .ref f_draftLetters, .int 0, .int 0, .int 0, .ref f_draftNumbers, .ref f_draftSigns, .int 0, .int 0, .int 0, .int 0, .ref f_letters, .ref f_numbers, .ref f_isList, .ref f_bounds, .ref f_sizes, .ref f_lists, .ref f_told, .ref f_costs, .int 0, .ref f_times, .int 0, .ref f_bestOne, .ref f_basis, .int 0, .ref f_one, .int 0, .ref f_along, .ref f_now]))] t.heap ∧ va_K (dC, dI) cls [] t ∧ va_D (va_A [(m0, .inr (9, [.int th, .ref f_text, .int 0, .int (-1), .ref f_kinds, .ref f_places, .ref f_values, .int 0, .ref f_draftLetters, .int 0, .int 0, .int 0, .ref f_draftNumbers, .ref f_draftSigns, .int 0, .int 0, .int 0, .int 0, .ref f_letters, .ref f_numbers, .ref f_isList, .ref f_bounds, .ref f_sizes, .ref f_lists, .ref f_told, .ref f_costs, .int 0, .ref f_times, .int 0, .ref f_bestOne, .ref f_basis, .int 0, .ref f_one, .int 0, .ref f_along, .ref f_now]))] sz) [(m0, .inr (9, [.int 0, .ref f_text, .int 0, .int (-1), .ref f_kinds, .ref f_places, .ref f_values, .int 0, .ref f_draftLetters, .int 0, .int 0, .int 0, .ref f_draftNumbers, .ref f_draftSigns, .int 0, .int 0, .int 0, .int 0, .ref f_letters, .ref f_numbers, .ref f_isList, .ref f_bounds, .ref f_sizes, .ref f_lists, .ref f_told, .ref f_costs, .int 0, .ref f_times, .int 0, .ref f_bestOne, .ref f_basis, .int 0, .ref f_one, .int 0, .ref f_along, .ref f_now]))]) (va_A [(m0, .inr (9, [.int th, .ref f_text, .int 0, .int (-1), .ref f_kinds, .ref f_places, .ref f_values, .int 0, .ref f_draftLetters, .int 0, .int 0, .int 0, .ref f_draftNumbers, .ref f_draftSigns, .int 0, .int 0, .int 0, .int 0, .ref f_letters, .ref f_numbers, .ref f_isList, .ref f_bounds, .ref f_sizes, .ref f_lists, .ref f_told, .ref f_costs, .int 0, .ref f_times, .int 0, .ref f_bestOne, .ref f_basis, .int 0, .ref f_one, .int 0, .ref f_along, .ref f_now]))] sz)) 0 0 (va_A [(m0, .inr (9, [.int th, .ref f_text, .int 0, .int (-1), .ref f_kinds, .ref f_places, .ref f_values, .int 0, .ref f_draftLetters, .int 0, .int 0, .int 0, .ref f_draftNumbers, .ref f_draftSigns, .int 0, .int 0, .int 0, .int 0, .ref f_letters, .ref f_numbers, .ref f_isList, .ref f_bounds, .ref f_sizes, .ref f_lists, .ref f_told, .ref f_costs, .int 0, .ref f_times, .int 0, .ref f_bestOne, .ref f_basis, .int 0, .ref f_one, .int 0, .ref f_along, .ref f_now]))] sz) := by
  refine Met.ofW (cc := b_MO_type) (maxL := 8) (ret := (Option.some Jvm.ClassFile.FieldType.int)) (by decide) rfl ?_
  intro p e s m args below meth c s₁ B hml hv
  obtain ⟨rfl, hsz, hP, hK, hD0, hN⟩ := hv
  have hx := B.exec
  have hb := B.bytes
  have hr := B.returns
  have hlocks := B.notSynchronized
  have hts : ∀ w ∈ wd, w.before ([.ref m0, .long x, .int 3] : List Value).toArray s = true := fun w hw => atoms_spec (ws := (Cond.code y_MO_type b_MO_type 8 (Option.some Jvm.ClassFile.FieldType.int) :: wd)) B.pre w (List.mem_cons_of_mem _ hw)
  have hown : s.vm.findClass "LeastSolutionsModel" = some m.cls := findClass_of_methodNamed B.named
  subst hsz
  have hD := hD0.self (sz := s.heap.size)
  generalize hAe : va_A [(m0, .inr (9, [.int th, .ref f_text, .int 0, .int (-1), .ref f_kinds, .ref f_places, .ref f_values, .int 0, .ref f_draftLetters, .int 0, .int 0, .int 0, .ref f_draftNumbers, .ref f_draftSigns, .int 0, .int 0, .int 0, .int 0, .ref f_letters, .ref f_numbers, .ref f_isList, .ref f_bounds, .ref f_sizes, .ref f_lists, .ref f_told, .ref f_costs, .int 0, .ref f_times, .int 0, .ref f_bestOne, .ref f_basis, .int 0, .ref f_one, .int 0, .ref f_along, .ref f_now]))] s.heap.size = A at hD ⊢
  have hA : ∀ q : Nat, s.heap.size ≤ q → A q := fun q h => by rw [← hAe]; exact Or.inr h
  have hS : va_S A s.heap s.heap [] := va_S.rf
  have hl := lv_entry ([.ref m0, .long x, .int 3]) (n := 8) (Nat.le_of_ble_eq_true rfl)
  rw [lg_entry_eq]
  generalize (lg_sl ([.ref m0, .long x, .int 3]) ++ List.replicate (8 - (lg_sl ([.ref m0, .long x, .int 3])).length) Slot.unset).toArray = ls at hl ⊢
  have hl : lv_has ls 8 [(0, .ref m0), (1, .long x), (3, .int 3)] := hl
  refine lv_aload_n hx hb d_MO_type_0 rfl (lv_at hl 0 rfl) ?_
  refine lv_iconst (v := 0) hx hb d_MO_type_1 (by decide) ?_
  refine va_put (D := (dC, dI)) (ci := 9) (v := .int 0) (ty := .int) (C := R_MO) (T := T_MO) (N := 36) hx hb hts in_MO t_MO t_MO_ok n_MO hown hK hP hD hS 0 rfl rfl 0 (by decide) (hts _ k_886) (fun _ h9 => h9) rfl (by decide +kernel) rfl rfl (Nat.le_of_ble_eq_true rfl) d_MO_type_2 (fun H1 locs hP hD hS => ?_)
  have hP : va_P (dC, dI) cls [(m0, .inr (9, [.int 0, .ref f_text, .int 0, .int (-1), .ref f_kinds, .ref f_places, .ref f_values, .int 0, .ref f_draftLetters, .int 0, .int 0, .int 0, .ref f_draftNumbers, .ref f_draftSigns, .int 0, .int 0, .int 0, .int 0, .ref f_letters, .ref f_numbers, .ref f_isList, .ref f_bounds, .ref f_sizes, .ref f_lists, .ref f_told, .ref f_costs, .int 0, .ref f_times, .int 0, .ref f_bestOne, .ref f_basis, .int 0, .ref f_one, .int 0, .ref f_along, .ref f_now]))] H1 := hP
  have hD : va_D A [(m0, .inr (9, [.int 0, .ref f_text, .int 0, .int (-1), .ref f_kinds, .ref f_places, .ref f_values, .int 0, .ref f_draftLetters, .int 0, .int 0, .int 0, .ref f_draftNumbers, .ref f_draftSigns, .int 0, .int 0, .int 0, .int 0, .ref f_letters, .ref f_numbers, .ref f_isList, .ref f_bounds, .ref f_sizes, .ref f_lists, .ref f_told, .ref f_costs, .int 0, .ref f_times, .int 0, .ref f_bestOne, .ref f_basis, .int 0, .ref f_one, .int 0, .ref f_along, .ref f_now]))] := hD
  refine lv_iload_n hx hb d_MO_type_5 rfl (lv_at hl 2 rfl) ?_
  refine lv_iconst (v := 1) hx hb d_MO_type_6 (by decide) ?_
  refine lv_icmp_lt (tgt := 32) hx hb d_MO_type_7 (by decide) (fun h9 => absurd h9 (by decide)) (fun _ => ?_)
  refine lv_iload_n hx hb d_MO_type_10 rfl (lv_at hl 2 rfl) ?_
  refine lv_bipush (v := 8) hx hb d_MO_type_11 (by decide) ?_
  refine lv_icmp_gt (tgt := 32) hx hb d_MO_type_13 (by decide) (fun h9 => absurd h9 (by decide)) (fun _ => ?_)
  refine lv_aload_n hx hb d_MO_type_16 rfl (lv_at hl 0 rfl) ?_
  refine va_get (D := (dC, dI)) (ci := 9) (v := .int 0) (C := R_MO) (T := T_MO) (N := 36) hx hb hts in_MO hown hK hP 0 rfl rfl 2 (by decide) (hts _ k_888) (fun _ h9 => h9) rfl d_MO_type_17 ?_
  refine lv_iload_n hx hb d_MO_type_20 rfl (lv_at hl 2 rfl) ?_
  refine lv_iadd hx hb d_MO_type_21 ?_
  refine W.eq (g2 := F0 m 22 ls [.int 3]) rfl ?_
  refine lv_sipush (v := 300) hx hb d_MO_type_22 (by decide) ?_
  refine lv_icmp_gt (tgt := 32) hx hb d_MO_type_25 (by decide) (fun h9 => absurd h9 (by decide)) (fun _ => ?_)
  refine lv_iconst (v := 1) hx hb d_MO_type_28 (by decide) ?_
  refine lv_goto (tgt := 33) hx hb d_MO_type_29 (by decide) ?_
  refine lv_istore hx hb d_MO_type_33 hl (by decide) rfl (fun ls hl => ?_)
  have hl : lv_has ls 8 [(4, .int 1), (0, .ref m0), (1, .long x), (3, .int 3)] := hl
  refine lv_iconst (v := 0) hx hb d_MO_type_35 (by decide) ?_
  refine lv_istore hx hb d_MO_type_36 hl (by decide) rfl (fun ls hl => ?_)
  have hl : lv_has ls 8 [(5, .int 0), (4, .int 1), (0, .ref m0), (1, .long x), (3, .int 3)] := hl
  refine lv_iload hx hb d_MO_type_38 (lv_at hl 1 rfl) ?_
  refine lv_if_eq (tgt := 93) hx hb d_MO_type_40 (by decide) (fun h9 => absurd h9 (by decide)) (fun _ => ?_)
  refine lv_iload hx hb d_MO_type_43 (lv_at hl 0 rfl) ?_
  refine lv_iload_n hx hb d_MO_type_45 rfl (lv_at hl 4 rfl) ?_
  refine lv_icmp_ge (tgt := 93) hx hb d_MO_type_46 (by decide) (fun h9 => absurd h9 (by decide)) (fun _ => ?_)
  refine lv_lload_n hx hb d_MO_type_49 rfl (lv_at hl 3 rfl) ?_
  refine lv_bipush (v := 8) hx hb d_MO_type_50 (by decide) ?_
  refine lv_iload hx hb d_MO_type_52 (lv_at hl 0 rfl) ?_
  refine lv_imul hx hb d_MO_type_54 ?_
  refine lv_lshr (v := (x >>> (((8 * 0) : Int32).toInt64 &&& 63))) hx hb d_MO_type_55 rfl ?_
  refine lv_ldc2 (v := 255) hx hb hown (hts _ k_1004) d_MO_type_56 ?_
  refine lv_land hx hb d_MO_type_59 ?_
  refine W.eq (g2 := F0 m 60 ls [.long (bm x 0)]) rfl ?_
  refine lv_lstore hx hb d_MO_type_60 hl (by decide) rfl (fun ls hl => ?_)
  have hl : lv_has ls 8 [(6, .long (bm x 0)), (5, .int 0), (4, .int 1), (0, .ref m0), (1, .long x), (3, .int 3)] := hl
  refine lv_lload hx hb d_MO_type_62 (lv_at hl 0 rfl) ?_
  refine lv_ldc2 (v := 32) hx hb hown (hts _ k_1005) d_MO_type_64 ?_
  refine W.lcmp hx hb d_MO_type_67 ?_
  refine lv_if_lt (tgt := 84) hx hb d_MO_type_68 (by decide) (fun hc1 => ?_) (fun hc1 => ?_)
  · refine lv_iconst (v := 0) hx hb d_MO_type_84 (by decide) ?_
    refine lv_istore hx hb d_MO_type_85 hl (by decide) rfl (fun ls hl => ?_)
    have hl : lv_has ls 8 [(4, .int 0), (6, .long (bm x 0)), (5, .int 0), (0, .ref m0), (1, .long x), (3, .int 3)] := hl
    refine lv_iinc (k := 2) (v := 1) hx hb d_MO_type_87 hl rfl (by decide) (by decide) rfl (fun ls hl => ?_)
    have hl : lv_has ls 8 [(5, .int 1), (4, .int 0), (6, .long (bm x 0)), (0, .ref m0), (1, .long x), (3, .int 3)] := hl
    refine lv_goto (tgt := 38) hx hb d_MO_type_90 (by decide) ?_
    refine lv_iload hx hb d_MO_type_38 (lv_at hl 1 rfl) ?_
    refine lv_if_eq (tgt := 93) hx hb d_MO_type_40 (by decide) (fun _ => ?_) (fun h9 => absurd (by decide) h9)
    refine lv_iload hx hb d_MO_type_93 (lv_at hl 1 rfl) ?_
    refine lv_if_ne (tgt := 100) hx hb d_MO_type_95 (by decide) (fun h9 => absurd (by decide) h9) (fun _ => ?_)
    refine lv_iconst (v := (-1)) hx hb d_MO_type_98 (by decide) ?_
    have hP9 := hP.sub (ws' := [(m0, .inr (9, [.int 0, .ref f_text, .int 0, .int (-1), .ref f_kinds, .ref f_places, .ref f_values, .int 0, .ref f_draftLetters, .int 0, .int 0, .int 0, .ref f_draftNumbers, .ref f_draftSigns, .int 0, .int 0, .int 0, .int 0, .ref f_letters, .ref f_numbers, .ref f_isList, .ref f_bounds, .ref f_sizes, .ref f_lists, .ref f_told, .ref f_costs, .int 0, .ref f_times, .int 0, .ref f_bestOne, .ref f_basis, .int 0, .ref f_one, .int 0, .ref f_along, .ref f_now]))]) [0] rfl
    have hD9 := hD.sub (ws' := [(m0, .inr (9, [.int 0, .ref f_text, .int 0, .int (-1), .ref f_kinds, .ref f_places, .ref f_values, .int 0, .ref f_draftLetters, .int 0, .int 0, .int 0, .ref f_draftNumbers, .ref f_draftSigns, .int 0, .int 0, .int 0, .int 0, .ref f_letters, .ref f_numbers, .ref f_isList, .ref f_bounds, .ref f_sizes, .ref f_lists, .ref f_told, .ref f_costs, .int 0, .ref f_times, .int 0, .ref f_bestOne, .ref f_basis, .int 0, .ref f_one, .int 0, .ref f_along, .ref f_now]))]) [0] (by decide) rfl
    have hK9 := hK.sub (tys' := []) [] rfl
    exact W.iret (v := (-1)) hx hb hr (fun t ht hW => ⟨⟨(-1), (), rfl, rfl, by rw [ht]; exact hP9, va_K.moved hW.alike hK9, hD9⟩, hS.F ht⟩) hS.2.2 d_MO_type_99
  · refine lv_lload hx hb d_MO_type_71 (lv_at hl 0 rfl) ?_
    refine lv_ldc2 (v := 126) hx hb hown (hts _ k_1006) d_MO_type_73 ?_
    refine W.lcmp hx hb d_MO_type_76 ?_
    refine lv_if_gt (tgt := 84) hx hb d_MO_type_77 (by decide) (fun hc2 => ?_) (fun hc2 => ?_)
    · refine lv_iconst (v := 0) hx hb d_MO_type_84 (by decide) ?_
      refine lv_istore hx hb d_MO_type_85 hl (by decide) rfl (fun ls hl => ?_)
      have hl : lv_has ls 8 [(4, .int 0), (6, .long (bm x 0)), (5, .int 0), (0, .ref m0), (1, .long x), (3, .int 3)] := hl
      refine lv_iinc (k := 2) (v := 1) hx hb d_MO_type_87 hl rfl (by decide) (by decide) rfl (fun ls hl => ?_)
      have hl : lv_has ls 8 [(5, .int 1), (4, .int 0), (6, .long (bm x 0)), (0, .ref m0), (1, .long x), (3, .int 3)] := hl
      refine lv_goto (tgt := 38) hx hb d_MO_type_90 (by decide) ?_
      refine lv_iload hx hb d_MO_type_38 (lv_at hl 1 rfl) ?_
      refine lv_if_eq (tgt := 93) hx hb d_MO_type_40 (by decide) (fun _ => ?_) (fun h9 => absurd (by decide) h9)
      refine lv_iload hx hb d_MO_type_93 (lv_at hl 1 rfl) ?_
      refine lv_if_ne (tgt := 100) hx hb d_MO_type_95 (by decide) (fun h9 => absurd (by decide) h9) (fun _ => ?_)
      refine lv_iconst (v := (-1)) hx hb d_MO_type_98 (by decide) ?_
      have hP9 := hP.sub (ws' := [(m0, .inr (9, [.int 0, .ref f_text, .int 0, .int (-1), .ref f_kinds, .ref f_places, .ref f_values, .int 0, .ref f_draftLetters, .int 0, .int 0, .int 0, .ref f_draftNumbers, .ref f_draftSigns, .int 0, .int 0, .int 0, .int 0, .ref f_letters, .ref f_numbers, .ref f_isList, .ref f_bounds, .ref f_sizes, .ref f_lists, .ref f_told, .ref f_costs, .int 0, .ref f_times, .int 0, .ref f_bestOne, .ref f_basis, .int 0, .ref f_one, .int 0, .ref f_along, .ref f_now]))]) [0] rfl
      have hD9 := hD.sub (ws' := [(m0, .inr (9, [.int 0, .ref f_text, .int 0, .int (-1), .ref f_kinds, .ref f_places, .ref f_values, .int 0, .ref f_draftLetters, .int 0, .int 0, .int 0, .ref f_draftNumbers, .ref f_draftSigns, .int 0, .int 0, .int 0, .int 0, .ref f_letters, .ref f_numbers, .ref f_isList, .ref f_bounds, .ref f_sizes, .ref f_lists, .ref f_told, .ref f_costs, .int 0, .ref f_times, .int 0, .ref f_bestOne, .ref f_basis, .int 0, .ref f_one, .int 0, .ref f_along, .ref f_now]))]) [0] (by decide) rfl
      have hK9 := hK.sub (tys' := []) [] rfl
      exact W.iret (v := (-1)) hx hb hr (fun t ht hW => ⟨⟨(-1), (), rfl, rfl, by rw [ht]; exact hP9, va_K.moved hW.alike hK9, hD9⟩, hS.F ht⟩) hS.2.2 d_MO_type_99
    · refine lv_iconst (v := 1) hx hb d_MO_type_80 (by decide) ?_
      refine lv_goto (tgt := 85) hx hb d_MO_type_81 (by decide) ?_
      refine lv_istore hx hb d_MO_type_85 hl (by decide) rfl (fun ls hl => ?_)
      have hl : lv_has ls 8 [(4, .int 1), (6, .long (bm x 0)), (5, .int 0), (0, .ref m0), (1, .long x), (3, .int 3)] := hl
      refine lv_iinc (k := 2) (v := 1) hx hb d_MO_type_87 hl rfl (by decide) (by decide) rfl (fun ls hl => ?_)
      have hl : lv_has ls 8 [(5, .int 1), (4, .int 1), (6, .long (bm x 0)), (0, .ref m0), (1, .long x), (3, .int 3)] := hl
      refine lv_goto (tgt := 38) hx hb d_MO_type_90 (by decide) ?_
      refine lv_iload hx hb d_MO_type_38 (lv_at hl 1 rfl) ?_
      refine lv_if_eq (tgt := 93) hx hb d_MO_type_40 (by decide) (fun h9 => absurd h9 (by decide)) (fun _ => ?_)
      refine lv_iload hx hb d_MO_type_43 (lv_at hl 0 rfl) ?_
      refine lv_iload_n hx hb d_MO_type_45 rfl (lv_at hl 5 rfl) ?_
      refine lv_icmp_ge (tgt := 93) hx hb d_MO_type_46 (by decide) (fun h9 => absurd h9 (by decide)) (fun _ => ?_)
      refine lv_lload_n hx hb d_MO_type_49 rfl (lv_at hl 4 rfl) ?_
      refine lv_bipush (v := 8) hx hb d_MO_type_50 (by decide) ?_
      refine lv_iload hx hb d_MO_type_52 (lv_at hl 0 rfl) ?_
      refine lv_imul hx hb d_MO_type_54 ?_
      refine lv_lshr (v := (x >>> (((8 * 1) : Int32).toInt64 &&& 63))) hx hb d_MO_type_55 rfl ?_
      refine lv_ldc2 (v := 255) hx hb hown (hts _ k_1004) d_MO_type_56 ?_
      refine lv_land hx hb d_MO_type_59 ?_
      refine W.eq (g2 := F0 m 60 ls [.long (bm x 1)]) rfl ?_
      refine lv_lstore hx hb d_MO_type_60 hl (by decide) rfl (fun ls hl => ?_)
      have hl : lv_has ls 8 [(6, .long (bm x 1)), (5, .int 1), (4, .int 1), (0, .ref m0), (1, .long x), (3, .int 3)] := hl
      refine lv_lload hx hb d_MO_type_62 (lv_at hl 0 rfl) ?_
      refine lv_ldc2 (v := 32) hx hb hown (hts _ k_1005) d_MO_type_64 ?_
      refine W.lcmp hx hb d_MO_type_67 ?_
      refine lv_if_lt (tgt := 84) hx hb d_MO_type_68 (by decide) (fun hc3 => ?_) (fun hc3 => ?_)
      · refine lv_iconst (v := 0) hx hb d_MO_type_84 (by decide) ?_
        refine lv_istore hx hb d_MO_type_85 hl (by decide) rfl (fun ls hl => ?_)
        have hl : lv_has ls 8 [(4, .int 0), (6, .long (bm x 1)), (5, .int 1), (0, .ref m0), (1, .long x), (3, .int 3)] := hl
        refine lv_iinc (k := 2) (v := 2) hx hb d_MO_type_87 hl rfl (by decide) (by decide) rfl (fun ls hl => ?_)
        have hl : lv_has ls 8 [(5, .int 2), (4, .int 0), (6, .long (bm x 1)), (0, .ref m0), (1, .long x), (3, .int 3)] := hl
        refine lv_goto (tgt := 38) hx hb d_MO_type_90 (by decide) ?_
        refine lv_iload hx hb d_MO_type_38 (lv_at hl 1 rfl) ?_
        refine lv_if_eq (tgt := 93) hx hb d_MO_type_40 (by decide) (fun _ => ?_) (fun h9 => absurd (by decide) h9)
        refine lv_iload hx hb d_MO_type_93 (lv_at hl 1 rfl) ?_
        refine lv_if_ne (tgt := 100) hx hb d_MO_type_95 (by decide) (fun h9 => absurd (by decide) h9) (fun _ => ?_)
        refine lv_iconst (v := (-1)) hx hb d_MO_type_98 (by decide) ?_
        have hP9 := hP.sub (ws' := [(m0, .inr (9, [.int 0, .ref f_text, .int 0, .int (-1), .ref f_kinds, .ref f_places, .ref f_values, .int 0, .ref f_draftLetters, .int 0, .int 0, .int 0, .ref f_draftNumbers, .ref f_draftSigns, .int 0, .int 0, .int 0, .int 0, .ref f_letters, .ref f_numbers, .ref f_isList, .ref f_bounds, .ref f_sizes, .ref f_lists, .ref f_told, .ref f_costs, .int 0, .ref f_times, .int 0, .ref f_bestOne, .ref f_basis, .int 0, .ref f_one, .int 0, .ref f_along, .ref f_now]))]) [0] rfl
        have hD9 := hD.sub (ws' := [(m0, .inr (9, [.int 0, .ref f_text, .int 0, .int (-1), .ref f_kinds, .ref f_places, .ref f_values, .int 0, .ref f_draftLetters, .int 0, .int 0, .int 0, .ref f_draftNumbers, .ref f_draftSigns, .int 0, .int 0, .int 0, .int 0, .ref f_letters, .ref f_numbers, .ref f_isList, .ref f_bounds, .ref f_sizes, .ref f_lists, .ref f_told, .ref f_costs, .int 0, .ref f_times, .int 0, .ref f_bestOne, .ref f_basis, .int 0, .ref f_one, .int 0, .ref f_along, .ref f_now]))]) [0] (by decide) rfl
        have hK9 := hK.sub (tys' := []) [] rfl
        exact W.iret (v := (-1)) hx hb hr (fun t ht hW => ⟨⟨(-1), (), rfl, rfl, by rw [ht]; exact hP9, va_K.moved hW.alike hK9, hD9⟩, hS.F ht⟩) hS.2.2 d_MO_type_99
      · refine lv_lload hx hb d_MO_type_71 (lv_at hl 0 rfl) ?_
        refine lv_ldc2 (v := 126) hx hb hown (hts _ k_1006) d_MO_type_73 ?_
        refine W.lcmp hx hb d_MO_type_76 ?_
        refine lv_if_gt (tgt := 84) hx hb d_MO_type_77 (by decide) (fun hc4 => ?_) (fun hc4 => ?_)
        · refine lv_iconst (v := 0) hx hb d_MO_type_84 (by decide) ?_
          refine lv_istore hx hb d_MO_type_85 hl (by decide) rfl (fun ls hl => ?_)
          have hl : lv_has ls 8 [(4, .int 0), (6, .long (bm x 1)), (5, .int 1), (0, .ref m0), (1, .long x), (3, .int 3)] := hl
          refine lv_iinc (k := 2) (v := 2) hx hb d_MO_type_87 hl rfl (by decide) (by decide) rfl (fun ls hl => ?_)
          have hl : lv_has ls 8 [(5, .int 2), (4, .int 0), (6, .long (bm x 1)), (0, .ref m0), (1, .long x), (3, .int 3)] := hl
          refine lv_goto (tgt := 38) hx hb d_MO_type_90 (by decide) ?_
          refine lv_iload hx hb d_MO_type_38 (lv_at hl 1 rfl) ?_
          refine lv_if_eq (tgt := 93) hx hb d_MO_type_40 (by decide) (fun _ => ?_) (fun h9 => absurd (by decide) h9)
          refine lv_iload hx hb d_MO_type_93 (lv_at hl 1 rfl) ?_
          refine lv_if_ne (tgt := 100) hx hb d_MO_type_95 (by decide) (fun h9 => absurd (by decide) h9) (fun _ => ?_)
          refine lv_iconst (v := (-1)) hx hb d_MO_type_98 (by decide) ?_
          have hP9 := hP.sub (ws' := [(m0, .inr (9, [.int 0, .ref f_text, .int 0, .int (-1), .ref f_kinds, .ref f_places, .ref f_values, .int 0, .ref f_draftLetters, .int 0, .int 0, .int 0, .ref f_draftNumbers, .ref f_draftSigns, .int 0, .int 0, .int 0, .int 0, .ref f_letters, .ref f_numbers, .ref f_isList, .ref f_bounds, .ref f_sizes, .ref f_lists, .ref f_told, .ref f_costs, .int 0, .ref f_times, .int 0, .ref f_bestOne, .ref f_basis, .int 0, .ref f_one, .int 0, .ref f_along, .ref f_now]))]) [0] rfl
          have hD9 := hD.sub (ws' := [(m0, .inr (9, [.int 0, .ref f_text, .int 0, .int (-1), .ref f_kinds, .ref f_places, .ref f_values, .int 0, .ref f_draftLetters, .int 0, .int 0, .int 0, .ref f_draftNumbers, .ref f_draftSigns, .int 0, .int 0, .int 0, .int 0, .ref f_letters, .ref f_numbers, .ref f_isList, .ref f_bounds, .ref f_sizes, .ref f_lists, .ref f_told, .ref f_costs, .int 0, .ref f_times, .int 0, .ref f_bestOne, .ref f_basis, .int 0, .ref f_one, .int 0, .ref f_along, .ref f_now]))]) [0] (by decide) rfl
          have hK9 := hK.sub (tys' := []) [] rfl
          exact W.iret (v := (-1)) hx hb hr (fun t ht hW => ⟨⟨(-1), (), rfl, rfl, by rw [ht]; exact hP9, va_K.moved hW.alike hK9, hD9⟩, hS.F ht⟩) hS.2.2 d_MO_type_99
        · refine lv_iconst (v := 1) hx hb d_MO_type_80 (by decide) ?_
          refine lv_goto (tgt := 85) hx hb d_MO_type_81 (by decide) ?_
          refine lv_istore hx hb d_MO_type_85 hl (by decide) rfl (fun ls hl => ?_)
          have hl : lv_has ls 8 [(4, .int 1), (6, .long (bm x 1)), (5, .int 1), (0, .ref m0), (1, .long x), (3, .int 3)] := hl
          refine lv_iinc (k := 2) (v := 2) hx hb d_MO_type_87 hl rfl (by decide) (by decide) rfl (fun ls hl => ?_)
          have hl : lv_has ls 8 [(5, .int 2), (4, .int 1), (6, .long (bm x 1)), (0, .ref m0), (1, .long x), (3, .int 3)] := hl
          refine lv_goto (tgt := 38) hx hb d_MO_type_90 (by decide) ?_
          refine lv_iload hx hb d_MO_type_38 (lv_at hl 1 rfl) ?_
          refine lv_if_eq (tgt := 93) hx hb d_MO_type_40 (by decide) (fun h9 => absurd h9 (by decide)) (fun _ => ?_)
          refine lv_iload hx hb d_MO_type_43 (lv_at hl 0 rfl) ?_
          refine lv_iload_n hx hb d_MO_type_45 rfl (lv_at hl 5 rfl) ?_
          refine lv_icmp_ge (tgt := 93) hx hb d_MO_type_46 (by decide) (fun h9 => absurd h9 (by decide)) (fun _ => ?_)
          refine lv_lload_n hx hb d_MO_type_49 rfl (lv_at hl 4 rfl) ?_
          refine lv_bipush (v := 8) hx hb d_MO_type_50 (by decide) ?_
          refine lv_iload hx hb d_MO_type_52 (lv_at hl 0 rfl) ?_
          refine lv_imul hx hb d_MO_type_54 ?_
          refine lv_lshr (v := (x >>> (((8 * 2) : Int32).toInt64 &&& 63))) hx hb d_MO_type_55 rfl ?_
          refine lv_ldc2 (v := 255) hx hb hown (hts _ k_1004) d_MO_type_56 ?_
          refine lv_land hx hb d_MO_type_59 ?_
          refine W.eq (g2 := F0 m 60 ls [.long (bm x 2)]) rfl ?_
          refine lv_lstore hx hb d_MO_type_60 hl (by decide) rfl (fun ls hl => ?_)
          have hl : lv_has ls 8 [(6, .long (bm x 2)), (5, .int 2), (4, .int 1), (0, .ref m0), (1, .long x), (3, .int 3)] := hl
          refine lv_lload hx hb d_MO_type_62 (lv_at hl 0 rfl) ?_
          refine lv_ldc2 (v := 32) hx hb hown (hts _ k_1005) d_MO_type_64 ?_
          refine W.lcmp hx hb d_MO_type_67 ?_
          refine lv_if_lt (tgt := 84) hx hb d_MO_type_68 (by decide) (fun hc5 => ?_) (fun hc5 => ?_)
          · refine lv_iconst (v := 0) hx hb d_MO_type_84 (by decide) ?_
            refine lv_istore hx hb d_MO_type_85 hl (by decide) rfl (fun ls hl => ?_)
            have hl : lv_has ls 8 [(4, .int 0), (6, .long (bm x 2)), (5, .int 2), (0, .ref m0), (1, .long x), (3, .int 3)] := hl
            refine lv_iinc (k := 2) (v := 3) hx hb d_MO_type_87 hl rfl (by decide) (by decide) rfl (fun ls hl => ?_)
            have hl : lv_has ls 8 [(5, .int 3), (4, .int 0), (6, .long (bm x 2)), (0, .ref m0), (1, .long x), (3, .int 3)] := hl
            refine lv_goto (tgt := 38) hx hb d_MO_type_90 (by decide) ?_
            refine lv_iload hx hb d_MO_type_38 (lv_at hl 1 rfl) ?_
            refine lv_if_eq (tgt := 93) hx hb d_MO_type_40 (by decide) (fun _ => ?_) (fun h9 => absurd (by decide) h9)
            refine lv_iload hx hb d_MO_type_93 (lv_at hl 1 rfl) ?_
            refine lv_if_ne (tgt := 100) hx hb d_MO_type_95 (by decide) (fun h9 => absurd (by decide) h9) (fun _ => ?_)
            refine lv_iconst (v := (-1)) hx hb d_MO_type_98 (by decide) ?_
            have hP9 := hP.sub (ws' := [(m0, .inr (9, [.int 0, .ref f_text, .int 0, .int (-1), .ref f_kinds, .ref f_places, .ref f_values, .int 0, .ref f_draftLetters, .int 0, .int 0, .int 0, .ref f_draftNumbers, .ref f_draftSigns, .int 0, .int 0, .int 0, .int 0, .ref f_letters, .ref f_numbers, .ref f_isList, .ref f_bounds, .ref f_sizes, .ref f_lists, .ref f_told, .ref f_costs, .int 0, .ref f_times, .int 0, .ref f_bestOne, .ref f_basis, .int 0, .ref f_one, .int 0, .ref f_along, .ref f_now]))]) [0] rfl
            have hD9 := hD.sub (ws' := [(m0, .inr (9, [.int 0, .ref f_text, .int 0, .int (-1), .ref f_kinds, .ref f_places, .ref f_values, .int 0, .ref f_draftLetters, .int 0, .int 0, .int 0, .ref f_draftNumbers, .ref f_draftSigns, .int 0, .int 0, .int 0, .int 0, .ref f_letters, .ref f_numbers, .ref f_isList, .ref f_bounds, .ref f_sizes, .ref f_lists, .ref f_told, .ref f_costs, .int 0, .ref f_times, .int 0, .ref f_bestOne, .ref f_basis, .int 0, .ref f_one, .int 0, .ref f_along, .ref f_now]))]) [0] (by decide) rfl
            have hK9 := hK.sub (tys' := []) [] rfl
            exact W.iret (v := (-1)) hx hb hr (fun t ht hW => ⟨⟨(-1), (), rfl, rfl, by rw [ht]; exact hP9, va_K.moved hW.alike hK9, hD9⟩, hS.F ht⟩) hS.2.2 d_MO_type_99
          · refine lv_lload hx hb d_MO_type_71 (lv_at hl 0 rfl) ?_
            refine lv_ldc2 (v := 126) hx hb hown (hts _ k_1006) d_MO_type_73 ?_
            refine W.lcmp hx hb d_MO_type_76 ?_
            refine lv_if_gt (tgt := 84) hx hb d_MO_type_77 (by decide) (fun hc6 => ?_) (fun hc6 => ?_)
            · refine lv_iconst (v := 0) hx hb d_MO_type_84 (by decide) ?_
              refine lv_istore hx hb d_MO_type_85 hl (by decide) rfl (fun ls hl => ?_)
              have hl : lv_has ls 8 [(4, .int 0), (6, .long (bm x 2)), (5, .int 2), (0, .ref m0), (1, .long x), (3, .int 3)] := hl
              refine lv_iinc (k := 2) (v := 3) hx hb d_MO_type_87 hl rfl (by decide) (by decide) rfl (fun ls hl => ?_)
              have hl : lv_has ls 8 [(5, .int 3), (4, .int 0), (6, .long (bm x 2)), (0, .ref m0), (1, .long x), (3, .int 3)] := hl
              refine lv_goto (tgt := 38) hx hb d_MO_type_90 (by decide) ?_
              refine lv_iload hx hb d_MO_type_38 (lv_at hl 1 rfl) ?_
              refine lv_if_eq (tgt := 93) hx hb d_MO_type_40 (by decide) (fun _ => ?_) (fun h9 => absurd (by decide) h9)
              refine lv_iload hx hb d_MO_type_93 (lv_at hl 1 rfl) ?_
              refine lv_if_ne (tgt := 100) hx hb d_MO_type_95 (by decide) (fun h9 => absurd (by decide) h9) (fun _ => ?_)
              refine lv_iconst (v := (-1)) hx hb d_MO_type_98 (by decide) ?_
              have hP9 := hP.sub (ws' := [(m0, .inr (9, [.int 0, .ref f_text, .int 0, .int (-1), .ref f_kinds, .ref f_places, .ref f_values, .int 0, .ref f_draftLetters, .int 0, .int 0, .int 0, .ref f_draftNumbers, .ref f_draftSigns, .int 0, .int 0, .int 0, .int 0, .ref f_letters, .ref f_numbers, .ref f_isList, .ref f_bounds, .ref f_sizes, .ref f_lists, .ref f_told, .ref f_costs, .int 0, .ref f_times, .int 0, .ref f_bestOne, .ref f_basis, .int 0, .ref f_one, .int 0, .ref f_along, .ref f_now]))]) [0] rfl
              have hD9 := hD.sub (ws' := [(m0, .inr (9, [.int 0, .ref f_text, .int 0, .int (-1), .ref f_kinds, .ref f_places, .ref f_values, .int 0, .ref f_draftLetters, .int 0, .int 0, .int 0, .ref f_draftNumbers, .ref f_draftSigns, .int 0, .int 0, .int 0, .int 0, .ref f_letters, .ref f_numbers, .ref f_isList, .ref f_bounds, .ref f_sizes, .ref f_lists, .ref f_told, .ref f_costs, .int 0, .ref f_times, .int 0, .ref f_bestOne, .ref f_basis, .int 0, .ref f_one, .int 0, .ref f_along, .ref f_now]))]) [0] (by decide) rfl
              have hK9 := hK.sub (tys' := []) [] rfl
              exact W.iret (v := (-1)) hx hb hr (fun t ht hW => ⟨⟨(-1), (), rfl, rfl, by rw [ht]; exact hP9, va_K.moved hW.alike hK9, hD9⟩, hS.F ht⟩) hS.2.2 d_MO_type_99
            · refine lv_iconst (v := 1) hx hb d_MO_type_80 (by decide) ?_
              refine lv_goto (tgt := 85) hx hb d_MO_type_81 (by decide) ?_
              refine lv_istore hx hb d_MO_type_85 hl (by decide) rfl (fun ls hl => ?_)
              have hl : lv_has ls 8 [(4, .int 1), (6, .long (bm x 2)), (5, .int 2), (0, .ref m0), (1, .long x), (3, .int 3)] := hl
              refine lv_iinc (k := 2) (v := 3) hx hb d_MO_type_87 hl rfl (by decide) (by decide) rfl (fun ls hl => ?_)
              have hl : lv_has ls 8 [(5, .int 3), (4, .int 1), (6, .long (bm x 2)), (0, .ref m0), (1, .long x), (3, .int 3)] := hl
              refine lv_goto (tgt := 38) hx hb d_MO_type_90 (by decide) ?_
              refine lv_iload hx hb d_MO_type_38 (lv_at hl 1 rfl) ?_
              refine lv_if_eq (tgt := 93) hx hb d_MO_type_40 (by decide) (fun h9 => absurd h9 (by decide)) (fun _ => ?_)
              refine lv_iload hx hb d_MO_type_43 (lv_at hl 0 rfl) ?_
              refine lv_iload_n hx hb d_MO_type_45 rfl (lv_at hl 5 rfl) ?_
              refine lv_icmp_ge (tgt := 93) hx hb d_MO_type_46 (by decide) (fun _ => ?_) (fun h9 => absurd (by decide) h9)
              refine lv_iload hx hb d_MO_type_93 (lv_at hl 1 rfl) ?_
              refine lv_if_ne (tgt := 100) hx hb d_MO_type_95 (by decide) (fun _ => ?_) (fun h9 => absurd h9 (by decide))
              exact absurd ⟨okm (d := 0) (by decide +kernel) (by decide) hc1 hc2, okm (d := 8) (by decide +kernel) (by decide) hc3 hc4, okm (d := 16) (by decide +kernel) (by decide) hc5 hc6⟩ g

set_option maxHeartbeats 4000000 in
set_option maxRecDepth 100000 in
theorem c_MO_type_4y (l : Launch) (dC : Nat → ClassId) (dI : Nat → Nat → Nat) (m0 : Nat) (f_text : Nat) (f_kinds : Nat) (f_places : Nat) (f_values : Nat) (f_draftLetters : Nat) (f_draftNumbers : Nat) (f_draftSigns : Nat) (f_letters : Nat) (f_numbers : Nat) (f_isList : Nat) (f_bounds : Nat) (f_sizes : Nat) (f_lists : Nat) (f_told : Nat) (f_costs : Nat) (f_times : Nat) (f_bestOne : Nat) (f_basis : Nat) (f_one : Nat) (f_along : Nat) (f_now : Nat) (th : Int32) (cX : ClassId) (x : Int64) (sz : Nat) (g : ok x 0 ∧ ok x 8 ∧ ok x 16 ∧ ok x 24) : Met l y_MO_type (Cond.code y_MO_type b_MO_type 8 (Option.some Jvm.ClassFile.FieldType.int) :: wd) { frames := 0, cells := 0, slots := 0, locals := 0 } (va_Pc [.ref m0, .long x, .int 4] (fun U => U.heap.size = sz ∧ va_P (dC, dI) cls [(m0, .inr (9, [.int th, .ref f_text, .int 0, .int (-1), .ref f_kinds, .ref f_places, .ref f_values, .int 0, .ref f_draftLetters, .int 0, .int 0, .int 0, .ref f_draftNumbers, .ref f_draftSigns, .int 0, .int 0, .int 0, .int 0, .ref f_letters, .ref f_numbers, .ref f_isList, .ref f_bounds, .ref f_sizes, .ref f_lists, .ref f_told, .ref f_costs, .int 0, .ref f_times, .int 0, .ref f_bestOne, .ref f_basis, .int 0, .ref f_one, .int 0, .ref f_along, .ref f_now])), (f_text, .inl (cX, 300, .inl (fun _ => (0 : Int32))))] U.heap ∧ va_K (dC, dI) cls [(cX, .int)] U ∧ va_D (fun _ => True) [(m0, .inr (9, [.int th, .ref f_text, .int 0, .int (-1), .ref f_kinds, .ref f_places, .ref f_values, .int 0, .ref f_draftLetters, .int 0, .int 0, .int 0, .ref f_draftNumbers, .ref f_draftSigns, .int 0, .int 0, .int 0, .int 0, .ref f_letters, .ref f_numbers, .ref f_isList, .ref f_bounds, .ref f_sizes, .ref f_lists, .ref f_told, .ref f_costs, .int 0, .ref f_times, .int 0, .ref f_bestOne, .ref f_basis, .int 0, .ref f_one, .int 0, .ref f_along, .ref f_now])), (f_text, .inl (cX, 300, .inl (fun _ => (0 : Int32))))] ∧ nw_ok U)) (va_Qi (fun r (_ : Unit) => r = 4) (fun (_ : Unit) t => va_P (dC, dI) cls [(m0, .inr (9, [.int 0, .ref f_text, .int 4, .int (-1), .ref f_kinds, .ref f_places, .ref f_values, .int 0, .ref f_draftLetters, .int 0, .int 0, .int 0, .ref f_draftNumbers, .ref f_draftSigns, .int 0, .int 0, .int 0, .int 0, .ref f_letters, .ref f_numbers, .ref f_isList, .ref f_bounds, .ref f_sizes, .ref f_lists, .ref f_told, .ref f_costs, .int 0, .ref f_times, .int 0, .ref f_bestOne, .ref f_basis, .int 0, .ref f_one, .int 0, .ref f_along, .ref f_now]))] t.heap ∧ va_K (dC, dI) cls [(cX, .int)] t ∧ va_D (va_A [(m0, .inr (9, [.int th, .ref f_text, .int 0, .int (-1), .ref f_kinds, .ref f_places, .ref f_values, .int 0, .ref f_draftLetters, .int 0, .int 0, .int 0, .ref f_draftNumbers, .ref f_draftSigns, .int 0, .int 0, .int 0, .int 0, .ref f_letters, .ref f_numbers, .ref f_isList, .ref f_bounds, .ref f_sizes, .ref f_lists, .ref f_told, .ref f_costs, .int 0, .ref f_times, .int 0, .ref f_bestOne, .ref f_basis, .int 0, .ref f_one, .int 0, .ref f_along, .ref f_now])), (f_text, .inl (cX, 300, .inl (fun _ => (0 : Int32))))] sz) [(m0, .inr (9, [.int 0, .ref f_text, .int 4, .int (-1), .ref f_kinds, .ref f_places, .ref f_values, .int 0, .ref f_draftLetters, .int 0, .int 0, .int 0, .ref f_draftNumbers, .ref f_draftSigns, .int 0, .int 0, .int 0, .int 0, .ref f_letters, .ref f_numbers, .ref f_isList, .ref f_bounds, .ref f_sizes, .ref f_lists, .ref f_told, .ref f_costs, .int 0, .ref f_times, .int 0, .ref f_bestOne, .ref f_basis, .int 0, .ref f_one, .int 0, .ref f_along, .ref f_now]))]) (va_A [(m0, .inr (9, [.int th, .ref f_text, .int 0, .int (-1), .ref f_kinds, .ref f_places, .ref f_values, .int 0, .ref f_draftLetters, .int 0, .int 0, .int 0, .ref f_draftNumbers, .ref f_draftSigns, .int 0, .int 0, .int 0, .int 0, .ref f_letters, .ref f_numbers, .ref f_isList, .ref f_bounds, .ref f_sizes, .ref f_lists, .ref f_told, .ref f_costs, .int 0, .ref f_times, .int 0, .ref f_bestOne, .ref f_basis, .int 0, .ref f_one, .int 0, .ref f_along, .ref f_now])), (f_text, .inl (cX, 300, .inl (fun _ => (0 : Int32))))] sz)) 0 0 (va_A [(m0, .inr (9, [.int th, .ref f_text, .int 0, .int (-1), .ref f_kinds, .ref f_places, .ref f_values, .int 0, .ref f_draftLetters, .int 0, .int 0, .int 0, .ref f_draftNumbers, .ref f_draftSigns, .int 0, .int 0, .int 0, .int 0, .ref f_letters, .ref f_numbers, .ref f_isList, .ref f_bounds, .ref f_sizes, .ref f_lists, .ref f_told, .ref f_costs, .int 0, .ref f_times, .int 0, .ref f_bestOne, .ref f_basis, .int 0, .ref f_one, .int 0, .ref f_along, .ref f_now])), (f_text, .inl (cX, 300, .inl (fun _ => (0 : Int32))))] sz) := by
  refine Met.ofW (cc := b_MO_type) (maxL := 8) (ret := (Option.some Jvm.ClassFile.FieldType.int)) (by decide) rfl ?_
  intro p e s m args below meth c s₁ B hml hv
  obtain ⟨rfl, hsz, hP, hK, hD0, hN⟩ := hv
  have hx := B.exec
  have hb := B.bytes
  have hr := B.returns
  have hlocks := B.notSynchronized
  have hts : ∀ w ∈ wd, w.before ([.ref m0, .long x, .int 4] : List Value).toArray s = true := fun w hw => atoms_spec (ws := (Cond.code y_MO_type b_MO_type 8 (Option.some Jvm.ClassFile.FieldType.int) :: wd)) B.pre w (List.mem_cons_of_mem _ hw)
  have hown : s.vm.findClass "LeastSolutionsModel" = some m.cls := findClass_of_methodNamed B.named
  subst hsz
  have hD := hD0.self (sz := s.heap.size)
  generalize hAe : va_A [(m0, .inr (9, [.int th, .ref f_text, .int 0, .int (-1), .ref f_kinds, .ref f_places, .ref f_values, .int 0, .ref f_draftLetters, .int 0, .int 0, .int 0, .ref f_draftNumbers, .ref f_draftSigns, .int 0, .int 0, .int 0, .int 0, .ref f_letters, .ref f_numbers, .ref f_isList, .ref f_bounds, .ref f_sizes, .ref f_lists, .ref f_told, .ref f_costs, .int 0, .ref f_times, .int 0, .ref f_bestOne, .ref f_basis, .int 0, .ref f_one, .int 0, .ref f_along, .ref f_now])), (f_text, .inl (cX, 300, .inl (fun _ => (0 : Int32))))] s.heap.size = A at hD ⊢
  have hA : ∀ q : Nat, s.heap.size ≤ q → A q := fun q h => by rw [← hAe]; exact Or.inr h
  have hS : va_S A s.heap s.heap [] := va_S.rf
  have hl := lv_entry ([.ref m0, .long x, .int 4]) (n := 8) (Nat.le_of_ble_eq_true rfl)
  rw [lg_entry_eq]
  generalize (lg_sl ([.ref m0, .long x, .int 4]) ++ List.replicate (8 - (lg_sl ([.ref m0, .long x, .int 4])).length) Slot.unset).toArray = ls at hl ⊢
  have hl : lv_has ls 8 [(0, .ref m0), (1, .long x), (3, .int 4)] := hl
  refine lv_aload_n hx hb d_MO_type_0 rfl (lv_at hl 0 rfl) ?_
  refine lv_iconst (v := 0) hx hb d_MO_type_1 (by decide) ?_
  refine va_put (D := (dC, dI)) (ci := 9) (v := .int 0) (ty := .int) (C := R_MO) (T := T_MO) (N := 36) hx hb hts in_MO t_MO t_MO_ok n_MO hown hK hP hD hS 0 rfl rfl 0 (by decide) (hts _ k_886) (fun _ h9 => h9) rfl (by decide +kernel) rfl rfl (Nat.le_of_ble_eq_true rfl) d_MO_type_2 (fun H1 locs hP hD hS => ?_)
  have hP : va_P (dC, dI) cls [(m0, .inr (9, [.int 0, .ref f_text, .int 0, .int (-1), .ref f_kinds, .ref f_places, .ref f_values, .int 0, .ref f_draftLetters, .int 0, .int 0, .int 0, .ref f_draftNumbers, .ref f_draftSigns, .int 0, .int 0, .int 0, .int 0, .ref f_letters, .ref f_numbers, .ref f_isList, .ref f_bounds, .ref f_sizes, .ref f_lists, .ref f_told, .ref f_costs, .int 0, .ref f_times, .int 0, .ref f_bestOne, .ref f_basis, .int 0, .ref f_one, .int 0, .ref f_along, .ref f_now])), (f_text, .inl (cX, 300, .inl (fun _ => (0 : Int32))))] H1 := hP
  have hD : va_D A [(m0, .inr (9, [.int 0, .ref f_text, .int 0, .int (-1), .ref f_kinds, .ref f_places, .ref f_values, .int 0, .ref f_draftLetters, .int 0, .int 0, .int 0, .ref f_draftNumbers, .ref f_draftSigns, .int 0, .int 0, .int 0, .int 0, .ref f_letters, .ref f_numbers, .ref f_isList, .ref f_bounds, .ref f_sizes, .ref f_lists, .ref f_told, .ref f_costs, .int 0, .ref f_times, .int 0, .ref f_bestOne, .ref f_basis, .int 0, .ref f_one, .int 0, .ref f_along, .ref f_now])), (f_text, .inl (cX, 300, .inl (fun _ => (0 : Int32))))] := hD
  refine lv_iload_n hx hb d_MO_type_5 rfl (lv_at hl 2 rfl) ?_
  refine lv_iconst (v := 1) hx hb d_MO_type_6 (by decide) ?_
  refine lv_icmp_lt (tgt := 32) hx hb d_MO_type_7 (by decide) (fun h9 => absurd h9 (by decide)) (fun _ => ?_)
  refine lv_iload_n hx hb d_MO_type_10 rfl (lv_at hl 2 rfl) ?_
  refine lv_bipush (v := 8) hx hb d_MO_type_11 (by decide) ?_
  refine lv_icmp_gt (tgt := 32) hx hb d_MO_type_13 (by decide) (fun h9 => absurd h9 (by decide)) (fun _ => ?_)
  refine lv_aload_n hx hb d_MO_type_16 rfl (lv_at hl 0 rfl) ?_
  refine va_get (D := (dC, dI)) (ci := 9) (v := .int 0) (C := R_MO) (T := T_MO) (N := 36) hx hb hts in_MO hown hK hP 0 rfl rfl 2 (by decide) (hts _ k_888) (fun _ h9 => h9) rfl d_MO_type_17 ?_
  refine lv_iload_n hx hb d_MO_type_20 rfl (lv_at hl 2 rfl) ?_
  refine lv_iadd hx hb d_MO_type_21 ?_
  refine W.eq (g2 := F0 m 22 ls [.int 4]) rfl ?_
  refine lv_sipush (v := 300) hx hb d_MO_type_22 (by decide) ?_
  refine lv_icmp_gt (tgt := 32) hx hb d_MO_type_25 (by decide) (fun h9 => absurd h9 (by decide)) (fun _ => ?_)
  refine lv_iconst (v := 1) hx hb d_MO_type_28 (by decide) ?_
  refine lv_goto (tgt := 33) hx hb d_MO_type_29 (by decide) ?_
  refine lv_istore hx hb d_MO_type_33 hl (by decide) rfl (fun ls hl => ?_)
  have hl : lv_has ls 8 [(4, .int 1), (0, .ref m0), (1, .long x), (3, .int 4)] := hl
  refine lv_iconst (v := 0) hx hb d_MO_type_35 (by decide) ?_
  refine lv_istore hx hb d_MO_type_36 hl (by decide) rfl (fun ls hl => ?_)
  have hl : lv_has ls 8 [(5, .int 0), (4, .int 1), (0, .ref m0), (1, .long x), (3, .int 4)] := hl
  refine lv_iload hx hb d_MO_type_38 (lv_at hl 1 rfl) ?_
  refine lv_if_eq (tgt := 93) hx hb d_MO_type_40 (by decide) (fun h9 => absurd h9 (by decide)) (fun _ => ?_)
  refine lv_iload hx hb d_MO_type_43 (lv_at hl 0 rfl) ?_
  refine lv_iload_n hx hb d_MO_type_45 rfl (lv_at hl 4 rfl) ?_
  refine lv_icmp_ge (tgt := 93) hx hb d_MO_type_46 (by decide) (fun h9 => absurd h9 (by decide)) (fun _ => ?_)
  refine lv_lload_n hx hb d_MO_type_49 rfl (lv_at hl 3 rfl) ?_
  refine lv_bipush (v := 8) hx hb d_MO_type_50 (by decide) ?_
  refine lv_iload hx hb d_MO_type_52 (lv_at hl 0 rfl) ?_
  refine lv_imul hx hb d_MO_type_54 ?_
  refine lv_lshr (v := (x >>> (((8 * 0) : Int32).toInt64 &&& 63))) hx hb d_MO_type_55 rfl ?_
  refine lv_ldc2 (v := 255) hx hb hown (hts _ k_1004) d_MO_type_56 ?_
  refine lv_land hx hb d_MO_type_59 ?_
  refine W.eq (g2 := F0 m 60 ls [.long (bm x 0)]) rfl ?_
  refine lv_lstore hx hb d_MO_type_60 hl (by decide) rfl (fun ls hl => ?_)
  have hl : lv_has ls 8 [(6, .long (bm x 0)), (5, .int 0), (4, .int 1), (0, .ref m0), (1, .long x), (3, .int 4)] := hl
  refine lv_lload hx hb d_MO_type_62 (lv_at hl 0 rfl) ?_
  refine lv_ldc2 (v := 32) hx hb hown (hts _ k_1005) d_MO_type_64 ?_
  refine W.lcmp hx hb d_MO_type_67 ?_
  refine lv_if_lt (tgt := 84) hx hb d_MO_type_68 (by decide) (fun h9 => absurd h9 (okm1 (d := 0) (by decide +kernel) (by decide) (g.1))) (fun _ => ?_)
  refine lv_lload hx hb d_MO_type_71 (lv_at hl 0 rfl) ?_
  refine lv_ldc2 (v := 126) hx hb hown (hts _ k_1006) d_MO_type_73 ?_
  refine W.lcmp hx hb d_MO_type_76 ?_
  refine lv_if_gt (tgt := 84) hx hb d_MO_type_77 (by decide) (fun h9 => absurd h9 (okm2 (d := 0) (by decide +kernel) (by decide) (g.1))) (fun _ => ?_)
  refine lv_iconst (v := 1) hx hb d_MO_type_80 (by decide) ?_
  refine lv_goto (tgt := 85) hx hb d_MO_type_81 (by decide) ?_
  refine lv_istore hx hb d_MO_type_85 hl (by decide) rfl (fun ls hl => ?_)
  have hl : lv_has ls 8 [(4, .int 1), (6, .long (bm x 0)), (5, .int 0), (0, .ref m0), (1, .long x), (3, .int 4)] := hl
  refine lv_iinc (k := 2) (v := 1) hx hb d_MO_type_87 hl rfl (by decide) (by decide) rfl (fun ls hl => ?_)
  have hl : lv_has ls 8 [(5, .int 1), (4, .int 1), (6, .long (bm x 0)), (0, .ref m0), (1, .long x), (3, .int 4)] := hl
  refine lv_goto (tgt := 38) hx hb d_MO_type_90 (by decide) ?_
  refine lv_iload hx hb d_MO_type_38 (lv_at hl 1 rfl) ?_
  refine lv_if_eq (tgt := 93) hx hb d_MO_type_40 (by decide) (fun h9 => absurd h9 (by decide)) (fun _ => ?_)
  refine lv_iload hx hb d_MO_type_43 (lv_at hl 0 rfl) ?_
  refine lv_iload_n hx hb d_MO_type_45 rfl (lv_at hl 5 rfl) ?_
  refine lv_icmp_ge (tgt := 93) hx hb d_MO_type_46 (by decide) (fun h9 => absurd h9 (by decide)) (fun _ => ?_)
  refine lv_lload_n hx hb d_MO_type_49 rfl (lv_at hl 4 rfl) ?_
  refine lv_bipush (v := 8) hx hb d_MO_type_50 (by decide) ?_
  refine lv_iload hx hb d_MO_type_52 (lv_at hl 0 rfl) ?_
  refine lv_imul hx hb d_MO_type_54 ?_
  refine lv_lshr (v := (x >>> (((8 * 1) : Int32).toInt64 &&& 63))) hx hb d_MO_type_55 rfl ?_
  refine lv_ldc2 (v := 255) hx hb hown (hts _ k_1004) d_MO_type_56 ?_
  refine lv_land hx hb d_MO_type_59 ?_
  refine W.eq (g2 := F0 m 60 ls [.long (bm x 1)]) rfl ?_
  refine lv_lstore hx hb d_MO_type_60 hl (by decide) rfl (fun ls hl => ?_)
  have hl : lv_has ls 8 [(6, .long (bm x 1)), (5, .int 1), (4, .int 1), (0, .ref m0), (1, .long x), (3, .int 4)] := hl
  refine lv_lload hx hb d_MO_type_62 (lv_at hl 0 rfl) ?_
  refine lv_ldc2 (v := 32) hx hb hown (hts _ k_1005) d_MO_type_64 ?_
  refine W.lcmp hx hb d_MO_type_67 ?_
  refine lv_if_lt (tgt := 84) hx hb d_MO_type_68 (by decide) (fun h9 => absurd h9 (okm1 (d := 8) (by decide +kernel) (by decide) (g.2.1))) (fun _ => ?_)
  refine lv_lload hx hb d_MO_type_71 (lv_at hl 0 rfl) ?_
  refine lv_ldc2 (v := 126) hx hb hown (hts _ k_1006) d_MO_type_73 ?_
  refine W.lcmp hx hb d_MO_type_76 ?_
  refine lv_if_gt (tgt := 84) hx hb d_MO_type_77 (by decide) (fun h9 => absurd h9 (okm2 (d := 8) (by decide +kernel) (by decide) (g.2.1))) (fun _ => ?_)
  refine lv_iconst (v := 1) hx hb d_MO_type_80 (by decide) ?_
  refine lv_goto (tgt := 85) hx hb d_MO_type_81 (by decide) ?_
  refine lv_istore hx hb d_MO_type_85 hl (by decide) rfl (fun ls hl => ?_)
  have hl : lv_has ls 8 [(4, .int 1), (6, .long (bm x 1)), (5, .int 1), (0, .ref m0), (1, .long x), (3, .int 4)] := hl
  refine lv_iinc (k := 2) (v := 2) hx hb d_MO_type_87 hl rfl (by decide) (by decide) rfl (fun ls hl => ?_)
  have hl : lv_has ls 8 [(5, .int 2), (4, .int 1), (6, .long (bm x 1)), (0, .ref m0), (1, .long x), (3, .int 4)] := hl
  refine lv_goto (tgt := 38) hx hb d_MO_type_90 (by decide) ?_
  refine lv_iload hx hb d_MO_type_38 (lv_at hl 1 rfl) ?_
  refine lv_if_eq (tgt := 93) hx hb d_MO_type_40 (by decide) (fun h9 => absurd h9 (by decide)) (fun _ => ?_)
  refine lv_iload hx hb d_MO_type_43 (lv_at hl 0 rfl) ?_
  refine lv_iload_n hx hb d_MO_type_45 rfl (lv_at hl 5 rfl) ?_
  refine lv_icmp_ge (tgt := 93) hx hb d_MO_type_46 (by decide) (fun h9 => absurd h9 (by decide)) (fun _ => ?_)
  refine lv_lload_n hx hb d_MO_type_49 rfl (lv_at hl 4 rfl) ?_
  refine lv_bipush (v := 8) hx hb d_MO_type_50 (by decide) ?_
  refine lv_iload hx hb d_MO_type_52 (lv_at hl 0 rfl) ?_
  refine lv_imul hx hb d_MO_type_54 ?_
  refine lv_lshr (v := (x >>> (((8 * 2) : Int32).toInt64 &&& 63))) hx hb d_MO_type_55 rfl ?_
  refine lv_ldc2 (v := 255) hx hb hown (hts _ k_1004) d_MO_type_56 ?_
  refine lv_land hx hb d_MO_type_59 ?_
  refine W.eq (g2 := F0 m 60 ls [.long (bm x 2)]) rfl ?_
  refine lv_lstore hx hb d_MO_type_60 hl (by decide) rfl (fun ls hl => ?_)
  have hl : lv_has ls 8 [(6, .long (bm x 2)), (5, .int 2), (4, .int 1), (0, .ref m0), (1, .long x), (3, .int 4)] := hl
  refine lv_lload hx hb d_MO_type_62 (lv_at hl 0 rfl) ?_
  refine lv_ldc2 (v := 32) hx hb hown (hts _ k_1005) d_MO_type_64 ?_
  refine W.lcmp hx hb d_MO_type_67 ?_
  refine lv_if_lt (tgt := 84) hx hb d_MO_type_68 (by decide) (fun h9 => absurd h9 (okm1 (d := 16) (by decide +kernel) (by decide) (g.2.2.1))) (fun _ => ?_)
  refine lv_lload hx hb d_MO_type_71 (lv_at hl 0 rfl) ?_
  refine lv_ldc2 (v := 126) hx hb hown (hts _ k_1006) d_MO_type_73 ?_
  refine W.lcmp hx hb d_MO_type_76 ?_
  refine lv_if_gt (tgt := 84) hx hb d_MO_type_77 (by decide) (fun h9 => absurd h9 (okm2 (d := 16) (by decide +kernel) (by decide) (g.2.2.1))) (fun _ => ?_)
  refine lv_iconst (v := 1) hx hb d_MO_type_80 (by decide) ?_
  refine lv_goto (tgt := 85) hx hb d_MO_type_81 (by decide) ?_
  refine lv_istore hx hb d_MO_type_85 hl (by decide) rfl (fun ls hl => ?_)
  have hl : lv_has ls 8 [(4, .int 1), (6, .long (bm x 2)), (5, .int 2), (0, .ref m0), (1, .long x), (3, .int 4)] := hl
  refine lv_iinc (k := 2) (v := 3) hx hb d_MO_type_87 hl rfl (by decide) (by decide) rfl (fun ls hl => ?_)
  have hl : lv_has ls 8 [(5, .int 3), (4, .int 1), (6, .long (bm x 2)), (0, .ref m0), (1, .long x), (3, .int 4)] := hl
  refine lv_goto (tgt := 38) hx hb d_MO_type_90 (by decide) ?_
  refine lv_iload hx hb d_MO_type_38 (lv_at hl 1 rfl) ?_
  refine lv_if_eq (tgt := 93) hx hb d_MO_type_40 (by decide) (fun h9 => absurd h9 (by decide)) (fun _ => ?_)
  refine lv_iload hx hb d_MO_type_43 (lv_at hl 0 rfl) ?_
  refine lv_iload_n hx hb d_MO_type_45 rfl (lv_at hl 5 rfl) ?_
  refine lv_icmp_ge (tgt := 93) hx hb d_MO_type_46 (by decide) (fun h9 => absurd h9 (by decide)) (fun _ => ?_)
  refine lv_lload_n hx hb d_MO_type_49 rfl (lv_at hl 4 rfl) ?_
  refine lv_bipush (v := 8) hx hb d_MO_type_50 (by decide) ?_
  refine lv_iload hx hb d_MO_type_52 (lv_at hl 0 rfl) ?_
  refine lv_imul hx hb d_MO_type_54 ?_
  refine lv_lshr (v := (x >>> (((8 * 3) : Int32).toInt64 &&& 63))) hx hb d_MO_type_55 rfl ?_
  refine lv_ldc2 (v := 255) hx hb hown (hts _ k_1004) d_MO_type_56 ?_
  refine lv_land hx hb d_MO_type_59 ?_
  refine W.eq (g2 := F0 m 60 ls [.long (bm x 3)]) rfl ?_
  refine lv_lstore hx hb d_MO_type_60 hl (by decide) rfl (fun ls hl => ?_)
  have hl : lv_has ls 8 [(6, .long (bm x 3)), (5, .int 3), (4, .int 1), (0, .ref m0), (1, .long x), (3, .int 4)] := hl
  refine lv_lload hx hb d_MO_type_62 (lv_at hl 0 rfl) ?_
  refine lv_ldc2 (v := 32) hx hb hown (hts _ k_1005) d_MO_type_64 ?_
  refine W.lcmp hx hb d_MO_type_67 ?_
  refine lv_if_lt (tgt := 84) hx hb d_MO_type_68 (by decide) (fun h9 => absurd h9 (okm1 (d := 24) (by decide +kernel) (by decide) (g.2.2.2))) (fun _ => ?_)
  refine lv_lload hx hb d_MO_type_71 (lv_at hl 0 rfl) ?_
  refine lv_ldc2 (v := 126) hx hb hown (hts _ k_1006) d_MO_type_73 ?_
  refine W.lcmp hx hb d_MO_type_76 ?_
  refine lv_if_gt (tgt := 84) hx hb d_MO_type_77 (by decide) (fun h9 => absurd h9 (okm2 (d := 24) (by decide +kernel) (by decide) (g.2.2.2))) (fun _ => ?_)
  refine lv_iconst (v := 1) hx hb d_MO_type_80 (by decide) ?_
  refine lv_goto (tgt := 85) hx hb d_MO_type_81 (by decide) ?_
  refine lv_istore hx hb d_MO_type_85 hl (by decide) rfl (fun ls hl => ?_)
  have hl : lv_has ls 8 [(4, .int 1), (6, .long (bm x 3)), (5, .int 3), (0, .ref m0), (1, .long x), (3, .int 4)] := hl
  refine lv_iinc (k := 2) (v := 4) hx hb d_MO_type_87 hl rfl (by decide) (by decide) rfl (fun ls hl => ?_)
  have hl : lv_has ls 8 [(5, .int 4), (4, .int 1), (6, .long (bm x 3)), (0, .ref m0), (1, .long x), (3, .int 4)] := hl
  refine lv_goto (tgt := 38) hx hb d_MO_type_90 (by decide) ?_
  refine lv_iload hx hb d_MO_type_38 (lv_at hl 1 rfl) ?_
  refine lv_if_eq (tgt := 93) hx hb d_MO_type_40 (by decide) (fun h9 => absurd h9 (by decide)) (fun _ => ?_)
  refine lv_iload hx hb d_MO_type_43 (lv_at hl 0 rfl) ?_
  refine lv_iload_n hx hb d_MO_type_45 rfl (lv_at hl 5 rfl) ?_
  refine lv_icmp_ge (tgt := 93) hx hb d_MO_type_46 (by decide) (fun _ => ?_) (fun h9 => absurd (by decide) h9)
  refine lv_iload hx hb d_MO_type_93 (lv_at hl 1 rfl) ?_
  refine lv_if_ne (tgt := 100) hx hb d_MO_type_95 (by decide) (fun _ => ?_) (fun h9 => absurd h9 (by decide))
  refine lv_iload_n hx hb d_MO_type_100 rfl (lv_at hl 5 rfl) ?_
  refine lv_iconst (v := 1) hx hb d_MO_type_101 (by decide) ?_
  refine lv_isub hx hb d_MO_type_102 ?_
  refine W.eq (g2 := F0 m 103 ls [.int 3]) rfl ?_
  refine lv_istore hx hb d_MO_type_103 hl (by decide) rfl (fun ls hl => ?_)
  have hl : lv_has ls 8 [(5, .int 3), (4, .int 1), (6, .long (bm x 3)), (0, .ref m0), (1, .long x), (3, .int 4)] := hl
  refine lv_iload hx hb d_MO_type_105 (lv_at hl 0 rfl) ?_
  refine lv_if_lt (tgt := 147) hx hb d_MO_type_107 (by decide) (fun h9 => absurd h9 (by decide)) (fun _ => ?_)
  refine lv_aload_n hx hb d_MO_type_110 rfl (lv_at hl 3 rfl) ?_
  refine va_get (D := (dC, dI)) (ci := 9) (v := .ref f_text) (C := R_MO) (T := T_MO) (N := 36) hx hb hts in_MO hown hK hP 0 rfl rfl 1 (by decide) (hts _ k_887) (fun _ h9 => h9) rfl d_MO_type_111 ?_
  refine lv_aload_n hx hb d_MO_type_114 rfl (lv_at hl 3 rfl) ?_
  refine va_get (D := (dC, dI)) (ci := 9) (v := .int 0) (C := R_MO) (T := T_MO) (N := 36) hx hb hts in_MO hown hK hP 0 rfl rfl 2 (by decide) (hts _ k_888) (fun _ h9 => h9) rfl d_MO_type_115 ?_
  refine lv_lload_n hx hb d_MO_type_118 rfl (lv_at hl 4 rfl) ?_
  refine lv_bipush (v := 8) hx hb d_MO_type_119 (by decide) ?_
  refine lv_iload hx hb d_MO_type_121 (lv_at hl 0 rfl) ?_
  refine lv_imul hx hb d_MO_type_123 ?_
  refine lv_lshr (v := (x >>> (((8 * 3) : Int32).toInt64 &&& 63))) hx hb d_MO_type_124 rfl ?_
  refine lv_ldc2 (v := 255) hx hb hown (hts _ k_1004) d_MO_type_125 ?_
  refine lv_land hx hb d_MO_type_128 ?_
  refine W.eq (g2 := F0 m 129 ls [.long (bm x 3), .int 0, .ref f_text]) rfl ?_
  refine lv_l2i (v := (bm x 3).toInt32) hx hb d_MO_type_129 rfl ?_
  refine va_iast hx hb hK hP hD hS 1 0 rfl rfl (show ¬ ((0 : Int32) < 0 ∨ 300 ≤ (0 : Int32).toNatClampNeg) from by decide) d_MO_type_130 (fun H2 locs hP hD hS => ?_)
  have hP : va_P (dC, dI) cls [(m0, .inr (9, [.int 0, .ref f_text, .int 0, .int (-1), .ref f_kinds, .ref f_places, .ref f_values, .int 0, .ref f_draftLetters, .int 0, .int 0, .int 0, .ref f_draftNumbers, .ref f_draftSigns, .int 0, .int 0, .int 0, .int 0, .ref f_letters, .ref f_numbers, .ref f_isList, .ref f_bounds, .ref f_sizes, .ref f_lists, .ref f_told, .ref f_costs, .int 0, .ref f_times, .int 0, .ref f_bestOne, .ref f_basis, .int 0, .ref f_one, .int 0, .ref f_along, .ref f_now])), (f_text, .inl (cX, 300, .inl (upd (fun _ => (0 : Int32)) (0 : Int32).toNatClampNeg (bm x 3).toInt32)))] H2 := hP
  have hD : va_D A [(m0, .inr (9, [.int 0, .ref f_text, .int 0, .int (-1), .ref f_kinds, .ref f_places, .ref f_values, .int 0, .ref f_draftLetters, .int 0, .int 0, .int 0, .ref f_draftNumbers, .ref f_draftSigns, .int 0, .int 0, .int 0, .int 0, .ref f_letters, .ref f_numbers, .ref f_isList, .ref f_bounds, .ref f_sizes, .ref f_lists, .ref f_told, .ref f_costs, .int 0, .ref f_times, .int 0, .ref f_bestOne, .ref f_basis, .int 0, .ref f_one, .int 0, .ref f_along, .ref f_now])), (f_text, .inl (cX, 300, .inl (upd (fun _ => (0 : Int32)) (0 : Int32).toNatClampNeg (bm x 3).toInt32)))] := hD
  refine lv_aload_n hx hb d_MO_type_131 rfl (lv_at hl 3 rfl) ?_
  refine lv_dup hx hb d_MO_type_132 rfl ?_
  refine va_get (D := (dC, dI)) (ci := 9) (v := .int 0) (C := R_MO) (T := T_MO) (N := 36) hx hb hts in_MO hown hK hP 0 rfl rfl 2 (by decide) (hts _ k_888) (fun _ h9 => h9) rfl d_MO_type_133 ?_
  refine lv_iconst (v := 1) hx hb d_MO_type_136 (by decide) ?_
  refine lv_iadd hx hb d_MO_type_137 ?_
  refine W.eq (g2 := F0 m 138 ls [.int 1, .ref m0]) rfl ?_
  refine va_put (D := (dC, dI)) (ci := 9) (v := .int 1) (ty := .int) (C := R_MO) (T := T_MO) (N := 36) hx hb hts in_MO t_MO t_MO_ok n_MO hown hK hP hD hS 0 rfl rfl 2 (by decide) (hts _ k_888) (fun _ h9 => h9) rfl (by decide +kernel) rfl rfl (Nat.le_of_ble_eq_true rfl) d_MO_type_138 (fun H3 locs hP hD hS => ?_)
  have hP : va_P (dC, dI) cls [(m0, .inr (9, [.int 0, .ref f_text, .int 1, .int (-1), .ref f_kinds, .ref f_places, .ref f_values, .int 0, .ref f_draftLetters, .int 0, .int 0, .int 0, .ref f_draftNumbers, .ref f_draftSigns, .int 0, .int 0, .int 0, .int 0, .ref f_letters, .ref f_numbers, .ref f_isList, .ref f_bounds, .ref f_sizes, .ref f_lists, .ref f_told, .ref f_costs, .int 0, .ref f_times, .int 0, .ref f_bestOne, .ref f_basis, .int 0, .ref f_one, .int 0, .ref f_along, .ref f_now])), (f_text, .inl (cX, 300, .inl (upd (fun _ => (0 : Int32)) (0 : Int32).toNatClampNeg (bm x 3).toInt32)))] H3 := hP
  have hD : va_D A [(m0, .inr (9, [.int 0, .ref f_text, .int 1, .int (-1), .ref f_kinds, .ref f_places, .ref f_values, .int 0, .ref f_draftLetters, .int 0, .int 0, .int 0, .ref f_draftNumbers, .ref f_draftSigns, .int 0, .int 0, .int 0, .int 0, .ref f_letters, .ref f_numbers, .ref f_isList, .ref f_bounds, .ref f_sizes, .ref f_lists, .ref f_told, .ref f_costs, .int 0, .ref f_times, .int 0, .ref f_bestOne, .ref f_basis, .int 0, .ref f_one, .int 0, .ref f_along, .ref f_now])), (f_text, .inl (cX, 300, .inl (upd (fun _ => (0 : Int32)) (0 : Int32).toNatClampNeg (bm x 3).toInt32)))] := hD
  refine lv_iinc (k := 0) (v := 2) hx hb d_MO_type_141 hl rfl (by decide) (by decide) rfl (fun ls hl => ?_)
  have hl : lv_has ls 8 [(5, .int 2), (4, .int 1), (6, .long (bm x 3)), (0, .ref m0), (1, .long x), (3, .int 4)] := hl
  refine lv_goto (tgt := 105) hx hb d_MO_type_144 (by decide) ?_
  refine lv_iload hx hb d_MO_type_105 (lv_at hl 0 rfl) ?_
  refine lv_if_lt (tgt := 147) hx hb d_MO_type_107 (by decide) (fun h9 => absurd h9 (by decide)) (fun _ => ?_)
  refine lv_aload_n hx hb d_MO_type_110 rfl (lv_at hl 3 rfl) ?_
  refine va_get (D := (dC, dI)) (ci := 9) (v := .ref f_text) (C := R_MO) (T := T_MO) (N := 36) hx hb hts in_MO hown hK hP 0 rfl rfl 1 (by decide) (hts _ k_887) (fun _ h9 => h9) rfl d_MO_type_111 ?_
  refine lv_aload_n hx hb d_MO_type_114 rfl (lv_at hl 3 rfl) ?_
  refine va_get (D := (dC, dI)) (ci := 9) (v := .int 1) (C := R_MO) (T := T_MO) (N := 36) hx hb hts in_MO hown hK hP 0 rfl rfl 2 (by decide) (hts _ k_888) (fun _ h9 => h9) rfl d_MO_type_115 ?_
  refine lv_lload_n hx hb d_MO_type_118 rfl (lv_at hl 4 rfl) ?_
  refine lv_bipush (v := 8) hx hb d_MO_type_119 (by decide) ?_
  refine lv_iload hx hb d_MO_type_121 (lv_at hl 0 rfl) ?_
  refine lv_imul hx hb d_MO_type_123 ?_
  refine lv_lshr (v := (x >>> (((8 * 2) : Int32).toInt64 &&& 63))) hx hb d_MO_type_124 rfl ?_
  refine lv_ldc2 (v := 255) hx hb hown (hts _ k_1004) d_MO_type_125 ?_
  refine lv_land hx hb d_MO_type_128 ?_
  refine W.eq (g2 := F0 m 129 ls [.long (bm x 2), .int 1, .ref f_text]) rfl ?_
  refine lv_l2i (v := (bm x 2).toInt32) hx hb d_MO_type_129 rfl ?_
  refine va_iast hx hb hK hP hD hS 1 0 rfl rfl (show ¬ ((1 : Int32) < 0 ∨ 300 ≤ (1 : Int32).toNatClampNeg) from by decide) d_MO_type_130 (fun H4 locs hP hD hS => ?_)
  have hP : va_P (dC, dI) cls [(m0, .inr (9, [.int 0, .ref f_text, .int 1, .int (-1), .ref f_kinds, .ref f_places, .ref f_values, .int 0, .ref f_draftLetters, .int 0, .int 0, .int 0, .ref f_draftNumbers, .ref f_draftSigns, .int 0, .int 0, .int 0, .int 0, .ref f_letters, .ref f_numbers, .ref f_isList, .ref f_bounds, .ref f_sizes, .ref f_lists, .ref f_told, .ref f_costs, .int 0, .ref f_times, .int 0, .ref f_bestOne, .ref f_basis, .int 0, .ref f_one, .int 0, .ref f_along, .ref f_now])), (f_text, .inl (cX, 300, .inl (upd (upd (fun _ => (0 : Int32)) (0 : Int32).toNatClampNeg (bm x 3).toInt32) (1 : Int32).toNatClampNeg (bm x 2).toInt32)))] H4 := hP
  have hD : va_D A [(m0, .inr (9, [.int 0, .ref f_text, .int 1, .int (-1), .ref f_kinds, .ref f_places, .ref f_values, .int 0, .ref f_draftLetters, .int 0, .int 0, .int 0, .ref f_draftNumbers, .ref f_draftSigns, .int 0, .int 0, .int 0, .int 0, .ref f_letters, .ref f_numbers, .ref f_isList, .ref f_bounds, .ref f_sizes, .ref f_lists, .ref f_told, .ref f_costs, .int 0, .ref f_times, .int 0, .ref f_bestOne, .ref f_basis, .int 0, .ref f_one, .int 0, .ref f_along, .ref f_now])), (f_text, .inl (cX, 300, .inl (upd (upd (fun _ => (0 : Int32)) (0 : Int32).toNatClampNeg (bm x 3).toInt32) (1 : Int32).toNatClampNeg (bm x 2).toInt32)))] := hD
  refine lv_aload_n hx hb d_MO_type_131 rfl (lv_at hl 3 rfl) ?_
  refine lv_dup hx hb d_MO_type_132 rfl ?_
  refine va_get (D := (dC, dI)) (ci := 9) (v := .int 1) (C := R_MO) (T := T_MO) (N := 36) hx hb hts in_MO hown hK hP 0 rfl rfl 2 (by decide) (hts _ k_888) (fun _ h9 => h9) rfl d_MO_type_133 ?_
  refine lv_iconst (v := 1) hx hb d_MO_type_136 (by decide) ?_
  refine lv_iadd hx hb d_MO_type_137 ?_
  refine W.eq (g2 := F0 m 138 ls [.int 2, .ref m0]) rfl ?_
  refine va_put (D := (dC, dI)) (ci := 9) (v := .int 2) (ty := .int) (C := R_MO) (T := T_MO) (N := 36) hx hb hts in_MO t_MO t_MO_ok n_MO hown hK hP hD hS 0 rfl rfl 2 (by decide) (hts _ k_888) (fun _ h9 => h9) rfl (by decide +kernel) rfl rfl (Nat.le_of_ble_eq_true rfl) d_MO_type_138 (fun H5 locs hP hD hS => ?_)
  have hP : va_P (dC, dI) cls [(m0, .inr (9, [.int 0, .ref f_text, .int 2, .int (-1), .ref f_kinds, .ref f_places, .ref f_values, .int 0, .ref f_draftLetters, .int 0, .int 0, .int 0, .ref f_draftNumbers, .ref f_draftSigns, .int 0, .int 0, .int 0, .int 0, .ref f_letters, .ref f_numbers, .ref f_isList, .ref f_bounds, .ref f_sizes, .ref f_lists, .ref f_told, .ref f_costs, .int 0, .ref f_times, .int 0, .ref f_bestOne, .ref f_basis, .int 0, .ref f_one, .int 0, .ref f_along, .ref f_now])), (f_text, .inl (cX, 300, .inl (upd (upd (fun _ => (0 : Int32)) (0 : Int32).toNatClampNeg (bm x 3).toInt32) (1 : Int32).toNatClampNeg (bm x 2).toInt32)))] H5 := hP
  have hD : va_D A [(m0, .inr (9, [.int 0, .ref f_text, .int 2, .int (-1), .ref f_kinds, .ref f_places, .ref f_values, .int 0, .ref f_draftLetters, .int 0, .int 0, .int 0, .ref f_draftNumbers, .ref f_draftSigns, .int 0, .int 0, .int 0, .int 0, .ref f_letters, .ref f_numbers, .ref f_isList, .ref f_bounds, .ref f_sizes, .ref f_lists, .ref f_told, .ref f_costs, .int 0, .ref f_times, .int 0, .ref f_bestOne, .ref f_basis, .int 0, .ref f_one, .int 0, .ref f_along, .ref f_now])), (f_text, .inl (cX, 300, .inl (upd (upd (fun _ => (0 : Int32)) (0 : Int32).toNatClampNeg (bm x 3).toInt32) (1 : Int32).toNatClampNeg (bm x 2).toInt32)))] := hD
  refine lv_iinc (k := 0) (v := 1) hx hb d_MO_type_141 hl rfl (by decide) (by decide) rfl (fun ls hl => ?_)
  have hl : lv_has ls 8 [(5, .int 1), (4, .int 1), (6, .long (bm x 3)), (0, .ref m0), (1, .long x), (3, .int 4)] := hl
  refine lv_goto (tgt := 105) hx hb d_MO_type_144 (by decide) ?_
  refine lv_iload hx hb d_MO_type_105 (lv_at hl 0 rfl) ?_
  refine lv_if_lt (tgt := 147) hx hb d_MO_type_107 (by decide) (fun h9 => absurd h9 (by decide)) (fun _ => ?_)
  refine lv_aload_n hx hb d_MO_type_110 rfl (lv_at hl 3 rfl) ?_
  refine va_get (D := (dC, dI)) (ci := 9) (v := .ref f_text) (C := R_MO) (T := T_MO) (N := 36) hx hb hts in_MO hown hK hP 0 rfl rfl 1 (by decide) (hts _ k_887) (fun _ h9 => h9) rfl d_MO_type_111 ?_
  refine lv_aload_n hx hb d_MO_type_114 rfl (lv_at hl 3 rfl) ?_
  refine va_get (D := (dC, dI)) (ci := 9) (v := .int 2) (C := R_MO) (T := T_MO) (N := 36) hx hb hts in_MO hown hK hP 0 rfl rfl 2 (by decide) (hts _ k_888) (fun _ h9 => h9) rfl d_MO_type_115 ?_
  refine lv_lload_n hx hb d_MO_type_118 rfl (lv_at hl 4 rfl) ?_
  refine lv_bipush (v := 8) hx hb d_MO_type_119 (by decide) ?_
  refine lv_iload hx hb d_MO_type_121 (lv_at hl 0 rfl) ?_
  refine lv_imul hx hb d_MO_type_123 ?_
  refine lv_lshr (v := (x >>> (((8 * 1) : Int32).toInt64 &&& 63))) hx hb d_MO_type_124 rfl ?_
  refine lv_ldc2 (v := 255) hx hb hown (hts _ k_1004) d_MO_type_125 ?_
  refine lv_land hx hb d_MO_type_128 ?_
  refine W.eq (g2 := F0 m 129 ls [.long (bm x 1), .int 2, .ref f_text]) rfl ?_
  refine lv_l2i (v := (bm x 1).toInt32) hx hb d_MO_type_129 rfl ?_
  refine va_iast hx hb hK hP hD hS 1 0 rfl rfl (show ¬ ((2 : Int32) < 0 ∨ 300 ≤ (2 : Int32).toNatClampNeg) from by decide) d_MO_type_130 (fun H6 locs hP hD hS => ?_)
  have hP : va_P (dC, dI) cls [(m0, .inr (9, [.int 0, .ref f_text, .int 2, .int (-1), .ref f_kinds, .ref f_places, .ref f_values, .int 0, .ref f_draftLetters, .int 0, .int 0, .int 0, .ref f_draftNumbers, .ref f_draftSigns, .int 0, .int 0, .int 0, .int 0, .ref f_letters, .ref f_numbers, .ref f_isList, .ref f_bounds, .ref f_sizes, .ref f_lists, .ref f_told, .ref f_costs, .int 0, .ref f_times, .int 0, .ref f_bestOne, .ref f_basis, .int 0, .ref f_one, .int 0, .ref f_along, .ref f_now])), (f_text, .inl (cX, 300, .inl (upd (upd (upd (fun _ => (0 : Int32)) (0 : Int32).toNatClampNeg (bm x 3).toInt32) (1 : Int32).toNatClampNeg (bm x 2).toInt32) (2 : Int32).toNatClampNeg (bm x 1).toInt32)))] H6 := hP
  have hD : va_D A [(m0, .inr (9, [.int 0, .ref f_text, .int 2, .int (-1), .ref f_kinds, .ref f_places, .ref f_values, .int 0, .ref f_draftLetters, .int 0, .int 0, .int 0, .ref f_draftNumbers, .ref f_draftSigns, .int 0, .int 0, .int 0, .int 0, .ref f_letters, .ref f_numbers, .ref f_isList, .ref f_bounds, .ref f_sizes, .ref f_lists, .ref f_told, .ref f_costs, .int 0, .ref f_times, .int 0, .ref f_bestOne, .ref f_basis, .int 0, .ref f_one, .int 0, .ref f_along, .ref f_now])), (f_text, .inl (cX, 300, .inl (upd (upd (upd (fun _ => (0 : Int32)) (0 : Int32).toNatClampNeg (bm x 3).toInt32) (1 : Int32).toNatClampNeg (bm x 2).toInt32) (2 : Int32).toNatClampNeg (bm x 1).toInt32)))] := hD
  refine lv_aload_n hx hb d_MO_type_131 rfl (lv_at hl 3 rfl) ?_
  refine lv_dup hx hb d_MO_type_132 rfl ?_
  refine va_get (D := (dC, dI)) (ci := 9) (v := .int 2) (C := R_MO) (T := T_MO) (N := 36) hx hb hts in_MO hown hK hP 0 rfl rfl 2 (by decide) (hts _ k_888) (fun _ h9 => h9) rfl d_MO_type_133 ?_
  refine lv_iconst (v := 1) hx hb d_MO_type_136 (by decide) ?_
  refine lv_iadd hx hb d_MO_type_137 ?_
  refine W.eq (g2 := F0 m 138 ls [.int 3, .ref m0]) rfl ?_
  refine va_put (D := (dC, dI)) (ci := 9) (v := .int 3) (ty := .int) (C := R_MO) (T := T_MO) (N := 36) hx hb hts in_MO t_MO t_MO_ok n_MO hown hK hP hD hS 0 rfl rfl 2 (by decide) (hts _ k_888) (fun _ h9 => h9) rfl (by decide +kernel) rfl rfl (Nat.le_of_ble_eq_true rfl) d_MO_type_138 (fun H7 locs hP hD hS => ?_)
  have hP : va_P (dC, dI) cls [(m0, .inr (9, [.int 0, .ref f_text, .int 3, .int (-1), .ref f_kinds, .ref f_places, .ref f_values, .int 0, .ref f_draftLetters, .int 0, .int 0, .int 0, .ref f_draftNumbers, .ref f_draftSigns, .int 0, .int 0, .int 0, .int 0, .ref f_letters, .ref f_numbers, .ref f_isList, .ref f_bounds, .ref f_sizes, .ref f_lists, .ref f_told, .ref f_costs, .int 0, .ref f_times, .int 0, .ref f_bestOne, .ref f_basis, .int 0, .ref f_one, .int 0, .ref f_along, .ref f_now])), (f_text, .inl (cX, 300, .inl (upd (upd (upd (fun _ => (0 : Int32)) (0 : Int32).toNatClampNeg (bm x 3).toInt32) (1 : Int32).toNatClampNeg (bm x 2).toInt32) (2 : Int32).toNatClampNeg (bm x 1).toInt32)))] H7 := hP
  have hD : va_D A [(m0, .inr (9, [.int 0, .ref f_text, .int 3, .int (-1), .ref f_kinds, .ref f_places, .ref f_values, .int 0, .ref f_draftLetters, .int 0, .int 0, .int 0, .ref f_draftNumbers, .ref f_draftSigns, .int 0, .int 0, .int 0, .int 0, .ref f_letters, .ref f_numbers, .ref f_isList, .ref f_bounds, .ref f_sizes, .ref f_lists, .ref f_told, .ref f_costs, .int 0, .ref f_times, .int 0, .ref f_bestOne, .ref f_basis, .int 0, .ref f_one, .int 0, .ref f_along, .ref f_now])), (f_text, .inl (cX, 300, .inl (upd (upd (upd (fun _ => (0 : Int32)) (0 : Int32).toNatClampNeg (bm x 3).toInt32) (1 : Int32).toNatClampNeg (bm x 2).toInt32) (2 : Int32).toNatClampNeg (bm x 1).toInt32)))] := hD
  refine lv_iinc (k := 0) (v := 0) hx hb d_MO_type_141 hl rfl (by decide) (by decide) rfl (fun ls hl => ?_)
  have hl : lv_has ls 8 [(5, .int 0), (4, .int 1), (6, .long (bm x 3)), (0, .ref m0), (1, .long x), (3, .int 4)] := hl
  refine lv_goto (tgt := 105) hx hb d_MO_type_144 (by decide) ?_
  refine lv_iload hx hb d_MO_type_105 (lv_at hl 0 rfl) ?_
  refine lv_if_lt (tgt := 147) hx hb d_MO_type_107 (by decide) (fun h9 => absurd h9 (by decide)) (fun _ => ?_)
  refine lv_aload_n hx hb d_MO_type_110 rfl (lv_at hl 3 rfl) ?_
  refine va_get (D := (dC, dI)) (ci := 9) (v := .ref f_text) (C := R_MO) (T := T_MO) (N := 36) hx hb hts in_MO hown hK hP 0 rfl rfl 1 (by decide) (hts _ k_887) (fun _ h9 => h9) rfl d_MO_type_111 ?_
  refine lv_aload_n hx hb d_MO_type_114 rfl (lv_at hl 3 rfl) ?_
  refine va_get (D := (dC, dI)) (ci := 9) (v := .int 3) (C := R_MO) (T := T_MO) (N := 36) hx hb hts in_MO hown hK hP 0 rfl rfl 2 (by decide) (hts _ k_888) (fun _ h9 => h9) rfl d_MO_type_115 ?_
  refine lv_lload_n hx hb d_MO_type_118 rfl (lv_at hl 4 rfl) ?_
  refine lv_bipush (v := 8) hx hb d_MO_type_119 (by decide) ?_
  refine lv_iload hx hb d_MO_type_121 (lv_at hl 0 rfl) ?_
  refine lv_imul hx hb d_MO_type_123 ?_
  refine lv_lshr (v := (x >>> (((8 * 0) : Int32).toInt64 &&& 63))) hx hb d_MO_type_124 rfl ?_
  refine lv_ldc2 (v := 255) hx hb hown (hts _ k_1004) d_MO_type_125 ?_
  refine lv_land hx hb d_MO_type_128 ?_
  refine W.eq (g2 := F0 m 129 ls [.long (bm x 0), .int 3, .ref f_text]) rfl ?_
  refine lv_l2i (v := (bm x 0).toInt32) hx hb d_MO_type_129 rfl ?_
  refine va_iast hx hb hK hP hD hS 1 0 rfl rfl (show ¬ ((3 : Int32) < 0 ∨ 300 ≤ (3 : Int32).toNatClampNeg) from by decide) d_MO_type_130 (fun H8 locs hP hD hS => ?_)
  have hP : va_P (dC, dI) cls [(m0, .inr (9, [.int 0, .ref f_text, .int 3, .int (-1), .ref f_kinds, .ref f_places, .ref f_values, .int 0, .ref f_draftLetters, .int 0, .int 0, .int 0, .ref f_draftNumbers, .ref f_draftSigns, .int 0, .int 0, .int 0, .int 0, .ref f_letters, .ref f_numbers, .ref f_isList, .ref f_bounds, .ref f_sizes, .ref f_lists, .ref f_told, .ref f_costs, .int 0, .ref f_times, .int 0, .ref f_bestOne, .ref f_basis, .int 0, .ref f_one, .int 0, .ref f_along, .ref f_now])), (f_text, .inl (cX, 300, .inl (upd (upd (upd (upd (fun _ => (0 : Int32)) (0 : Int32).toNatClampNeg (bm x 3).toInt32) (1 : Int32).toNatClampNeg (bm x 2).toInt32) (2 : Int32).toNatClampNeg (bm x 1).toInt32) (3 : Int32).toNatClampNeg (bm x 0).toInt32)))] H8 := hP
  have hD : va_D A [(m0, .inr (9, [.int 0, .ref f_text, .int 3, .int (-1), .ref f_kinds, .ref f_places, .ref f_values, .int 0, .ref f_draftLetters, .int 0, .int 0, .int 0, .ref f_draftNumbers, .ref f_draftSigns, .int 0, .int 0, .int 0, .int 0, .ref f_letters, .ref f_numbers, .ref f_isList, .ref f_bounds, .ref f_sizes, .ref f_lists, .ref f_told, .ref f_costs, .int 0, .ref f_times, .int 0, .ref f_bestOne, .ref f_basis, .int 0, .ref f_one, .int 0, .ref f_along, .ref f_now])), (f_text, .inl (cX, 300, .inl (upd (upd (upd (upd (fun _ => (0 : Int32)) (0 : Int32).toNatClampNeg (bm x 3).toInt32) (1 : Int32).toNatClampNeg (bm x 2).toInt32) (2 : Int32).toNatClampNeg (bm x 1).toInt32) (3 : Int32).toNatClampNeg (bm x 0).toInt32)))] := hD
  refine lv_aload_n hx hb d_MO_type_131 rfl (lv_at hl 3 rfl) ?_
  refine lv_dup hx hb d_MO_type_132 rfl ?_
  refine va_get (D := (dC, dI)) (ci := 9) (v := .int 3) (C := R_MO) (T := T_MO) (N := 36) hx hb hts in_MO hown hK hP 0 rfl rfl 2 (by decide) (hts _ k_888) (fun _ h9 => h9) rfl d_MO_type_133 ?_
  refine lv_iconst (v := 1) hx hb d_MO_type_136 (by decide) ?_
  refine lv_iadd hx hb d_MO_type_137 ?_
  refine W.eq (g2 := F0 m 138 ls [.int 4, .ref m0]) rfl ?_
  refine va_put (D := (dC, dI)) (ci := 9) (v := .int 4) (ty := .int) (C := R_MO) (T := T_MO) (N := 36) hx hb hts in_MO t_MO t_MO_ok n_MO hown hK hP hD hS 0 rfl rfl 2 (by decide) (hts _ k_888) (fun _ h9 => h9) rfl (by decide +kernel) rfl rfl (Nat.le_of_ble_eq_true rfl) d_MO_type_138 (fun H9 locs hP hD hS => ?_)
  have hP : va_P (dC, dI) cls [(m0, .inr (9, [.int 0, .ref f_text, .int 4, .int (-1), .ref f_kinds, .ref f_places, .ref f_values, .int 0, .ref f_draftLetters, .int 0, .int 0, .int 0, .ref f_draftNumbers, .ref f_draftSigns, .int 0, .int 0, .int 0, .int 0, .ref f_letters, .ref f_numbers, .ref f_isList, .ref f_bounds, .ref f_sizes, .ref f_lists, .ref f_told, .ref f_costs, .int 0, .ref f_times, .int 0, .ref f_bestOne, .ref f_basis, .int 0, .ref f_one, .int 0, .ref f_along, .ref f_now])), (f_text, .inl (cX, 300, .inl (upd (upd (upd (upd (fun _ => (0 : Int32)) (0 : Int32).toNatClampNeg (bm x 3).toInt32) (1 : Int32).toNatClampNeg (bm x 2).toInt32) (2 : Int32).toNatClampNeg (bm x 1).toInt32) (3 : Int32).toNatClampNeg (bm x 0).toInt32)))] H9 := hP
  have hD : va_D A [(m0, .inr (9, [.int 0, .ref f_text, .int 4, .int (-1), .ref f_kinds, .ref f_places, .ref f_values, .int 0, .ref f_draftLetters, .int 0, .int 0, .int 0, .ref f_draftNumbers, .ref f_draftSigns, .int 0, .int 0, .int 0, .int 0, .ref f_letters, .ref f_numbers, .ref f_isList, .ref f_bounds, .ref f_sizes, .ref f_lists, .ref f_told, .ref f_costs, .int 0, .ref f_times, .int 0, .ref f_bestOne, .ref f_basis, .int 0, .ref f_one, .int 0, .ref f_along, .ref f_now])), (f_text, .inl (cX, 300, .inl (upd (upd (upd (upd (fun _ => (0 : Int32)) (0 : Int32).toNatClampNeg (bm x 3).toInt32) (1 : Int32).toNatClampNeg (bm x 2).toInt32) (2 : Int32).toNatClampNeg (bm x 1).toInt32) (3 : Int32).toNatClampNeg (bm x 0).toInt32)))] := hD
  refine lv_iinc (k := 0) (v := (-1)) hx hb d_MO_type_141 hl rfl (by decide) (by decide) rfl (fun ls hl => ?_)
  have hl : lv_has ls 8 [(5, .int (-1)), (4, .int 1), (6, .long (bm x 3)), (0, .ref m0), (1, .long x), (3, .int 4)] := hl
  refine lv_goto (tgt := 105) hx hb d_MO_type_144 (by decide) ?_
  refine lv_iload hx hb d_MO_type_105 (lv_at hl 0 rfl) ?_
  refine lv_if_lt (tgt := 147) hx hb d_MO_type_107 (by decide) (fun _ => ?_) (fun h9 => absurd (by decide) h9)
  refine lv_aload_n hx hb d_MO_type_147 rfl (lv_at hl 3 rfl) ?_
  refine va_get (D := (dC, dI)) (ci := 9) (v := .int 4) (C := R_MO) (T := T_MO) (N := 36) hx hb hts in_MO hown hK hP 0 rfl rfl 2 (by decide) (hts _ k_888) (fun _ h9 => h9) rfl d_MO_type_148 ?_
  have hP9 := hP.sub (ws' := [(m0, .inr (9, [.int 0, .ref f_text, .int 4, .int (-1), .ref f_kinds, .ref f_places, .ref f_values, .int 0, .ref f_draftLetters, .int 0, .int 0, .int 0, .ref f_draftNumbers, .ref f_draftSigns, .int 0, .int 0, .int 0, .int 0, .ref f_letters, .ref f_numbers, .ref f_isList, .ref f_bounds, .ref f_sizes, .ref f_lists, .ref f_told, .ref f_costs, .int 0, .ref f_times, .int 0, .ref f_bestOne, .ref f_basis, .int 0, .ref f_one, .int 0, .ref f_along, .ref f_now]))]) [0] rfl
  have hD9 := hD.sub (ws' := [(m0, .inr (9, [.int 0, .ref f_text, .int 4, .int (-1), .ref f_kinds, .ref f_places, .ref f_values, .int 0, .ref f_draftLetters, .int 0, .int 0, .int 0, .ref f_draftNumbers, .ref f_draftSigns, .int 0, .int 0, .int 0, .int 0, .ref f_letters, .ref f_numbers, .ref f_isList, .ref f_bounds, .ref f_sizes, .ref f_lists, .ref f_told, .ref f_costs, .int 0, .ref f_times, .int 0, .ref f_bestOne, .ref f_basis, .int 0, .ref f_one, .int 0, .ref f_along, .ref f_now]))]) [0] (by decide) rfl
  have hK9 := hK.sub (tys' := [(cX, .int)]) [0] rfl
  exact W.iret (v := 4) hx hb hr (fun t ht hW => ⟨⟨4, (), rfl, rfl, by rw [ht]; exact hP9, va_K.moved hW.alike hK9, hD9⟩, hS.F ht⟩) hS.2.2 d_MO_type_151

set_option maxHeartbeats 4000000 in
set_option maxRecDepth 100000 in
theorem c_MO_type_4n (l : Launch) (dC : Nat → ClassId) (dI : Nat → Nat → Nat) (m0 : Nat) (f_text : Nat) (f_kinds : Nat) (f_places : Nat) (f_values : Nat) (f_draftLetters : Nat) (f_draftNumbers : Nat) (f_draftSigns : Nat) (f_letters : Nat) (f_numbers : Nat) (f_isList : Nat) (f_bounds : Nat) (f_sizes : Nat) (f_lists : Nat) (f_told : Nat) (f_costs : Nat) (f_times : Nat) (f_bestOne : Nat) (f_basis : Nat) (f_one : Nat) (f_along : Nat) (f_now : Nat) (th : Int32) (x : Int64) (sz : Nat) (g : ¬ (ok x 0 ∧ ok x 8 ∧ ok x 16 ∧ ok x 24)) : Met l y_MO_type (Cond.code y_MO_type b_MO_type 8 (Option.some Jvm.ClassFile.FieldType.int) :: wd) { frames := 0, cells := 0, slots := 0, locals := 0 } (va_Pc [.ref m0, .long x, .int 4] (fun U => U.heap.size = sz ∧ va_P (dC, dI) cls [(m0, .inr (9, [.int th, .ref f_text, .int 0, .int (-1), .ref f_kinds, .ref f_places, .ref f_values, .int 0, .ref f_draftLetters, .int 0, .int 0, .int 0, .ref f_draftNumbers, .ref f_draftSigns, .int 0, .int 0, .int 0, .int 0, .ref f_letters, .ref f_numbers, .ref f_isList, .ref f_bounds, .ref f_sizes, .ref f_lists, .ref f_told, .ref f_costs, .int 0, .ref f_times, .int 0, .ref f_bestOne, .ref f_basis, .int 0, .ref f_one, .int 0, .ref f_along, .ref f_now]))] U.heap ∧ va_K (dC, dI) cls [] U ∧ va_D (fun _ => True) [(m0, .inr (9, [.int th, .ref f_text, .int 0, .int (-1), .ref f_kinds, .ref f_places, .ref f_values, .int 0, .ref f_draftLetters, .int 0, .int 0, .int 0, .ref f_draftNumbers, .ref f_draftSigns, .int 0, .int 0, .int 0, .int 0, .ref f_letters, .ref f_numbers, .ref f_isList, .ref f_bounds, .ref f_sizes, .ref f_lists, .ref f_told, .ref f_costs, .int 0, .ref f_times, .int 0, .ref f_bestOne, .ref f_basis, .int 0, .ref f_one, .int 0, .ref f_along, .ref f_now]))] ∧ nw_ok U)) (va_Qi (fun r (_ : Unit) => r = (-1)) (fun (_ : Unit) t => va_P (dC, dI) cls [(m0, .inr (9, [.int 0, .ref f_text, .int 0, .int (-1), .ref f_kinds, .ref f_places, .ref f_values, .int 0, .ref f_draftLetters, .int 0, .int 0, .int 0, .ref f_draftNumbers, .ref f_draftSigns, .int 0, .int 0, .int 0, .int 0, .ref f_letters, .ref f_numbers, .ref f_isList, .ref f_bounds, .ref f_sizes, .ref f_lists, .ref f_told, .ref f_costs, .int 0, .ref f_times, .int 0, .ref f_bestOne, .ref f_basis, .int 0, .ref f_one, .int 0, .ref f_along, .ref f_now]))] t.heap ∧ va_K (dC, dI) cls [] t ∧ va_D (va_A [(m0, .inr (9, [.int th, .ref f_text, .int 0, .int (-1), .ref f_kinds, .ref f_places, .ref f_values, .int 0, .ref f_draftLetters, .int 0, .int 0, .int 0, .ref f_draftNumbers, .ref f_draftSigns, .int 0, .int 0, .int 0, .int 0, .ref f_letters, .ref f_numbers, .ref f_isList, .ref f_bounds, .ref f_sizes, .ref f_lists, .ref f_told, .ref f_costs, .int 0, .ref f_times, .int 0, .ref f_bestOne, .ref f_basis, .int 0, .ref f_one, .int 0, .ref f_along, .ref f_now]))] sz) [(m0, .inr (9, [.int 0, .ref f_text, .int 0, .int (-1), .ref f_kinds, .ref f_places, .ref f_values, .int 0, .ref f_draftLetters, .int 0, .int 0, .int 0, .ref f_draftNumbers, .ref f_draftSigns, .int 0, .int 0, .int 0, .int 0, .ref f_letters, .ref f_numbers, .ref f_isList, .ref f_bounds, .ref f_sizes, .ref f_lists, .ref f_told, .ref f_costs, .int 0, .ref f_times, .int 0, .ref f_bestOne, .ref f_basis, .int 0, .ref f_one, .int 0, .ref f_along, .ref f_now]))]) (va_A [(m0, .inr (9, [.int th, .ref f_text, .int 0, .int (-1), .ref f_kinds, .ref f_places, .ref f_values, .int 0, .ref f_draftLetters, .int 0, .int 0, .int 0, .ref f_draftNumbers, .ref f_draftSigns, .int 0, .int 0, .int 0, .int 0, .ref f_letters, .ref f_numbers, .ref f_isList, .ref f_bounds, .ref f_sizes, .ref f_lists, .ref f_told, .ref f_costs, .int 0, .ref f_times, .int 0, .ref f_bestOne, .ref f_basis, .int 0, .ref f_one, .int 0, .ref f_along, .ref f_now]))] sz)) 0 0 (va_A [(m0, .inr (9, [.int th, .ref f_text, .int 0, .int (-1), .ref f_kinds, .ref f_places, .ref f_values, .int 0, .ref f_draftLetters, .int 0, .int 0, .int 0, .ref f_draftNumbers, .ref f_draftSigns, .int 0, .int 0, .int 0, .int 0, .ref f_letters, .ref f_numbers, .ref f_isList, .ref f_bounds, .ref f_sizes, .ref f_lists, .ref f_told, .ref f_costs, .int 0, .ref f_times, .int 0, .ref f_bestOne, .ref f_basis, .int 0, .ref f_one, .int 0, .ref f_along, .ref f_now]))] sz) := by
  refine Met.ofW (cc := b_MO_type) (maxL := 8) (ret := (Option.some Jvm.ClassFile.FieldType.int)) (by decide) rfl ?_
  intro p e s m args below meth c s₁ B hml hv
  obtain ⟨rfl, hsz, hP, hK, hD0, hN⟩ := hv
  have hx := B.exec
  have hb := B.bytes
  have hr := B.returns
  have hlocks := B.notSynchronized
  have hts : ∀ w ∈ wd, w.before ([.ref m0, .long x, .int 4] : List Value).toArray s = true := fun w hw => atoms_spec (ws := (Cond.code y_MO_type b_MO_type 8 (Option.some Jvm.ClassFile.FieldType.int) :: wd)) B.pre w (List.mem_cons_of_mem _ hw)
  have hown : s.vm.findClass "LeastSolutionsModel" = some m.cls := findClass_of_methodNamed B.named
  subst hsz
  have hD := hD0.self (sz := s.heap.size)
  generalize hAe : va_A [(m0, .inr (9, [.int th, .ref f_text, .int 0, .int (-1), .ref f_kinds, .ref f_places, .ref f_values, .int 0, .ref f_draftLetters, .int 0, .int 0, .int 0, .ref f_draftNumbers, .ref f_draftSigns, .int 0, .int 0, .int 0, .int 0, .ref f_letters, .ref f_numbers, .ref f_isList, .ref f_bounds, .ref f_sizes, .ref f_lists, .ref f_told, .ref f_costs, .int 0, .ref f_times, .int 0, .ref f_bestOne, .ref f_basis, .int 0, .ref f_one, .int 0, .ref f_along, .ref f_now]))] s.heap.size = A at hD ⊢
  have hA : ∀ q : Nat, s.heap.size ≤ q → A q := fun q h => by rw [← hAe]; exact Or.inr h
  have hS : va_S A s.heap s.heap [] := va_S.rf
  have hl := lv_entry ([.ref m0, .long x, .int 4]) (n := 8) (Nat.le_of_ble_eq_true rfl)
  rw [lg_entry_eq]
  generalize (lg_sl ([.ref m0, .long x, .int 4]) ++ List.replicate (8 - (lg_sl ([.ref m0, .long x, .int 4])).length) Slot.unset).toArray = ls at hl ⊢
  have hl : lv_has ls 8 [(0, .ref m0), (1, .long x), (3, .int 4)] := hl
  refine lv_aload_n hx hb d_MO_type_0 rfl (lv_at hl 0 rfl) ?_
  refine lv_iconst (v := 0) hx hb d_MO_type_1 (by decide) ?_
  refine va_put (D := (dC, dI)) (ci := 9) (v := .int 0) (ty := .int) (C := R_MO) (T := T_MO) (N := 36) hx hb hts in_MO t_MO t_MO_ok n_MO hown hK hP hD hS 0 rfl rfl 0 (by decide) (hts _ k_886) (fun _ h9 => h9) rfl (by decide +kernel) rfl rfl (Nat.le_of_ble_eq_true rfl) d_MO_type_2 (fun H1 locs hP hD hS => ?_)
  have hP : va_P (dC, dI) cls [(m0, .inr (9, [.int 0, .ref f_text, .int 0, .int (-1), .ref f_kinds, .ref f_places, .ref f_values, .int 0, .ref f_draftLetters, .int 0, .int 0, .int 0, .ref f_draftNumbers, .ref f_draftSigns, .int 0, .int 0, .int 0, .int 0, .ref f_letters, .ref f_numbers, .ref f_isList, .ref f_bounds, .ref f_sizes, .ref f_lists, .ref f_told, .ref f_costs, .int 0, .ref f_times, .int 0, .ref f_bestOne, .ref f_basis, .int 0, .ref f_one, .int 0, .ref f_along, .ref f_now]))] H1 := hP
  have hD : va_D A [(m0, .inr (9, [.int 0, .ref f_text, .int 0, .int (-1), .ref f_kinds, .ref f_places, .ref f_values, .int 0, .ref f_draftLetters, .int 0, .int 0, .int 0, .ref f_draftNumbers, .ref f_draftSigns, .int 0, .int 0, .int 0, .int 0, .ref f_letters, .ref f_numbers, .ref f_isList, .ref f_bounds, .ref f_sizes, .ref f_lists, .ref f_told, .ref f_costs, .int 0, .ref f_times, .int 0, .ref f_bestOne, .ref f_basis, .int 0, .ref f_one, .int 0, .ref f_along, .ref f_now]))] := hD
  refine lv_iload_n hx hb d_MO_type_5 rfl (lv_at hl 2 rfl) ?_
  refine lv_iconst (v := 1) hx hb d_MO_type_6 (by decide) ?_
  refine lv_icmp_lt (tgt := 32) hx hb d_MO_type_7 (by decide) (fun h9 => absurd h9 (by decide)) (fun _ => ?_)
  refine lv_iload_n hx hb d_MO_type_10 rfl (lv_at hl 2 rfl) ?_
  refine lv_bipush (v := 8) hx hb d_MO_type_11 (by decide) ?_
  refine lv_icmp_gt (tgt := 32) hx hb d_MO_type_13 (by decide) (fun h9 => absurd h9 (by decide)) (fun _ => ?_)
  refine lv_aload_n hx hb d_MO_type_16 rfl (lv_at hl 0 rfl) ?_
  refine va_get (D := (dC, dI)) (ci := 9) (v := .int 0) (C := R_MO) (T := T_MO) (N := 36) hx hb hts in_MO hown hK hP 0 rfl rfl 2 (by decide) (hts _ k_888) (fun _ h9 => h9) rfl d_MO_type_17 ?_
  refine lv_iload_n hx hb d_MO_type_20 rfl (lv_at hl 2 rfl) ?_
  refine lv_iadd hx hb d_MO_type_21 ?_
  refine W.eq (g2 := F0 m 22 ls [.int 4]) rfl ?_
  refine lv_sipush (v := 300) hx hb d_MO_type_22 (by decide) ?_
  refine lv_icmp_gt (tgt := 32) hx hb d_MO_type_25 (by decide) (fun h9 => absurd h9 (by decide)) (fun _ => ?_)
  refine lv_iconst (v := 1) hx hb d_MO_type_28 (by decide) ?_
  refine lv_goto (tgt := 33) hx hb d_MO_type_29 (by decide) ?_
  refine lv_istore hx hb d_MO_type_33 hl (by decide) rfl (fun ls hl => ?_)
  have hl : lv_has ls 8 [(4, .int 1), (0, .ref m0), (1, .long x), (3, .int 4)] := hl
  refine lv_iconst (v := 0) hx hb d_MO_type_35 (by decide) ?_
  refine lv_istore hx hb d_MO_type_36 hl (by decide) rfl (fun ls hl => ?_)
  have hl : lv_has ls 8 [(5, .int 0), (4, .int 1), (0, .ref m0), (1, .long x), (3, .int 4)] := hl
  refine lv_iload hx hb d_MO_type_38 (lv_at hl 1 rfl) ?_
  refine lv_if_eq (tgt := 93) hx hb d_MO_type_40 (by decide) (fun h9 => absurd h9 (by decide)) (fun _ => ?_)
  refine lv_iload hx hb d_MO_type_43 (lv_at hl 0 rfl) ?_
  refine lv_iload_n hx hb d_MO_type_45 rfl (lv_at hl 4 rfl) ?_
  refine lv_icmp_ge (tgt := 93) hx hb d_MO_type_46 (by decide) (fun h9 => absurd h9 (by decide)) (fun _ => ?_)
  refine lv_lload_n hx hb d_MO_type_49 rfl (lv_at hl 3 rfl) ?_
  refine lv_bipush (v := 8) hx hb d_MO_type_50 (by decide) ?_
  refine lv_iload hx hb d_MO_type_52 (lv_at hl 0 rfl) ?_
  refine lv_imul hx hb d_MO_type_54 ?_
  refine lv_lshr (v := (x >>> (((8 * 0) : Int32).toInt64 &&& 63))) hx hb d_MO_type_55 rfl ?_
  refine lv_ldc2 (v := 255) hx hb hown (hts _ k_1004) d_MO_type_56 ?_
  refine lv_land hx hb d_MO_type_59 ?_
  refine W.eq (g2 := F0 m 60 ls [.long (bm x 0)]) rfl ?_
  refine lv_lstore hx hb d_MO_type_60 hl (by decide) rfl (fun ls hl => ?_)
  have hl : lv_has ls 8 [(6, .long (bm x 0)), (5, .int 0), (4, .int 1), (0, .ref m0), (1, .long x), (3, .int 4)] := hl
  refine lv_lload hx hb d_MO_type_62 (lv_at hl 0 rfl) ?_
  refine lv_ldc2 (v := 32) hx hb hown (hts _ k_1005) d_MO_type_64 ?_
  refine W.lcmp hx hb d_MO_type_67 ?_
  refine lv_if_lt (tgt := 84) hx hb d_MO_type_68 (by decide) (fun hc1 => ?_) (fun hc1 => ?_)
  · refine lv_iconst (v := 0) hx hb d_MO_type_84 (by decide) ?_
    refine lv_istore hx hb d_MO_type_85 hl (by decide) rfl (fun ls hl => ?_)
    have hl : lv_has ls 8 [(4, .int 0), (6, .long (bm x 0)), (5, .int 0), (0, .ref m0), (1, .long x), (3, .int 4)] := hl
    refine lv_iinc (k := 2) (v := 1) hx hb d_MO_type_87 hl rfl (by decide) (by decide) rfl (fun ls hl => ?_)
    have hl : lv_has ls 8 [(5, .int 1), (4, .int 0), (6, .long (bm x 0)), (0, .ref m0), (1, .long x), (3, .int 4)] := hl
    refine lv_goto (tgt := 38) hx hb d_MO_type_90 (by decide) ?_
    refine lv_iload hx hb d_MO_type_38 (lv_at hl 1 rfl) ?_
    refine lv_if_eq (tgt := 93) hx hb d_MO_type_40 (by decide) (fun _ => ?_) (fun h9 => absurd (by decide) h9)
    refine lv_iload hx hb d_MO_type_93 (lv_at hl 1 rfl) ?_
    refine lv_if_ne (tgt := 100) hx hb d_MO_type_95 (by decide) (fun h9 => absurd (by decide) h9) (fun _ => ?_)
    refine lv_iconst (v := (-1)) hx hb d_MO_type_98 (by decide) ?_
    have hP9 := hP.sub (ws' := [(m0, .inr (9, [.int 0, .ref f_text, .int 0, .int (-1), .ref f_kinds, .ref f_places, .ref f_values, .int 0, .ref f_draftLetters, .int 0, .int 0, .int 0, .ref f_draftNumbers, .ref f_draftSigns, .int 0, .int 0, .int 0, .int 0, .ref f_letters, .ref f_numbers, .ref f_isList, .ref f_bounds, .ref f_sizes, .ref f_lists, .ref f_told, .ref f_costs, .int 0, .ref f_times, .int 0, .ref f_bestOne, .ref f_basis, .int 0, .ref f_one, .int 0, .ref f_along, .ref f_now]))]) [0] rfl
    have hD9 := hD.sub (ws' := [(m0, .inr (9, [.int 0, .ref f_text, .int 0, .int (-1), .ref f_kinds, .ref f_places, .ref f_values, .int 0, .ref f_draftLetters, .int 0, .int 0, .int 0, .ref f_draftNumbers, .ref f_draftSigns, .int 0, .int 0, .int 0, .int 0, .ref f_letters, .ref f_numbers, .ref f_isList, .ref f_bounds, .ref f_sizes, .ref f_lists, .ref f_told, .ref f_costs, .int 0, .ref f_times, .int 0, .ref f_bestOne, .ref f_basis, .int 0, .ref f_one, .int 0, .ref f_along, .ref f_now]))]) [0] (by decide) rfl
    have hK9 := hK.sub (tys' := []) [] rfl
    exact W.iret (v := (-1)) hx hb hr (fun t ht hW => ⟨⟨(-1), (), rfl, rfl, by rw [ht]; exact hP9, va_K.moved hW.alike hK9, hD9⟩, hS.F ht⟩) hS.2.2 d_MO_type_99
  · refine lv_lload hx hb d_MO_type_71 (lv_at hl 0 rfl) ?_
    refine lv_ldc2 (v := 126) hx hb hown (hts _ k_1006) d_MO_type_73 ?_
    refine W.lcmp hx hb d_MO_type_76 ?_
    refine lv_if_gt (tgt := 84) hx hb d_MO_type_77 (by decide) (fun hc2 => ?_) (fun hc2 => ?_)
    · refine lv_iconst (v := 0) hx hb d_MO_type_84 (by decide) ?_
      refine lv_istore hx hb d_MO_type_85 hl (by decide) rfl (fun ls hl => ?_)
      have hl : lv_has ls 8 [(4, .int 0), (6, .long (bm x 0)), (5, .int 0), (0, .ref m0), (1, .long x), (3, .int 4)] := hl
      refine lv_iinc (k := 2) (v := 1) hx hb d_MO_type_87 hl rfl (by decide) (by decide) rfl (fun ls hl => ?_)
      have hl : lv_has ls 8 [(5, .int 1), (4, .int 0), (6, .long (bm x 0)), (0, .ref m0), (1, .long x), (3, .int 4)] := hl
      refine lv_goto (tgt := 38) hx hb d_MO_type_90 (by decide) ?_
      refine lv_iload hx hb d_MO_type_38 (lv_at hl 1 rfl) ?_
      refine lv_if_eq (tgt := 93) hx hb d_MO_type_40 (by decide) (fun _ => ?_) (fun h9 => absurd (by decide) h9)
      refine lv_iload hx hb d_MO_type_93 (lv_at hl 1 rfl) ?_
      refine lv_if_ne (tgt := 100) hx hb d_MO_type_95 (by decide) (fun h9 => absurd (by decide) h9) (fun _ => ?_)
      refine lv_iconst (v := (-1)) hx hb d_MO_type_98 (by decide) ?_
      have hP9 := hP.sub (ws' := [(m0, .inr (9, [.int 0, .ref f_text, .int 0, .int (-1), .ref f_kinds, .ref f_places, .ref f_values, .int 0, .ref f_draftLetters, .int 0, .int 0, .int 0, .ref f_draftNumbers, .ref f_draftSigns, .int 0, .int 0, .int 0, .int 0, .ref f_letters, .ref f_numbers, .ref f_isList, .ref f_bounds, .ref f_sizes, .ref f_lists, .ref f_told, .ref f_costs, .int 0, .ref f_times, .int 0, .ref f_bestOne, .ref f_basis, .int 0, .ref f_one, .int 0, .ref f_along, .ref f_now]))]) [0] rfl
      have hD9 := hD.sub (ws' := [(m0, .inr (9, [.int 0, .ref f_text, .int 0, .int (-1), .ref f_kinds, .ref f_places, .ref f_values, .int 0, .ref f_draftLetters, .int 0, .int 0, .int 0, .ref f_draftNumbers, .ref f_draftSigns, .int 0, .int 0, .int 0, .int 0, .ref f_letters, .ref f_numbers, .ref f_isList, .ref f_bounds, .ref f_sizes, .ref f_lists, .ref f_told, .ref f_costs, .int 0, .ref f_times, .int 0, .ref f_bestOne, .ref f_basis, .int 0, .ref f_one, .int 0, .ref f_along, .ref f_now]))]) [0] (by decide) rfl
      have hK9 := hK.sub (tys' := []) [] rfl
      exact W.iret (v := (-1)) hx hb hr (fun t ht hW => ⟨⟨(-1), (), rfl, rfl, by rw [ht]; exact hP9, va_K.moved hW.alike hK9, hD9⟩, hS.F ht⟩) hS.2.2 d_MO_type_99
    · refine lv_iconst (v := 1) hx hb d_MO_type_80 (by decide) ?_
      refine lv_goto (tgt := 85) hx hb d_MO_type_81 (by decide) ?_
      refine lv_istore hx hb d_MO_type_85 hl (by decide) rfl (fun ls hl => ?_)
      have hl : lv_has ls 8 [(4, .int 1), (6, .long (bm x 0)), (5, .int 0), (0, .ref m0), (1, .long x), (3, .int 4)] := hl
      refine lv_iinc (k := 2) (v := 1) hx hb d_MO_type_87 hl rfl (by decide) (by decide) rfl (fun ls hl => ?_)
      have hl : lv_has ls 8 [(5, .int 1), (4, .int 1), (6, .long (bm x 0)), (0, .ref m0), (1, .long x), (3, .int 4)] := hl
      refine lv_goto (tgt := 38) hx hb d_MO_type_90 (by decide) ?_
      refine lv_iload hx hb d_MO_type_38 (lv_at hl 1 rfl) ?_
      refine lv_if_eq (tgt := 93) hx hb d_MO_type_40 (by decide) (fun h9 => absurd h9 (by decide)) (fun _ => ?_)
      refine lv_iload hx hb d_MO_type_43 (lv_at hl 0 rfl) ?_
      refine lv_iload_n hx hb d_MO_type_45 rfl (lv_at hl 5 rfl) ?_
      refine lv_icmp_ge (tgt := 93) hx hb d_MO_type_46 (by decide) (fun h9 => absurd h9 (by decide)) (fun _ => ?_)
      refine lv_lload_n hx hb d_MO_type_49 rfl (lv_at hl 4 rfl) ?_
      refine lv_bipush (v := 8) hx hb d_MO_type_50 (by decide) ?_
      refine lv_iload hx hb d_MO_type_52 (lv_at hl 0 rfl) ?_
      refine lv_imul hx hb d_MO_type_54 ?_
      refine lv_lshr (v := (x >>> (((8 * 1) : Int32).toInt64 &&& 63))) hx hb d_MO_type_55 rfl ?_
      refine lv_ldc2 (v := 255) hx hb hown (hts _ k_1004) d_MO_type_56 ?_
      refine lv_land hx hb d_MO_type_59 ?_
      refine W.eq (g2 := F0 m 60 ls [.long (bm x 1)]) rfl ?_
      refine lv_lstore hx hb d_MO_type_60 hl (by decide) rfl (fun ls hl => ?_)
      have hl : lv_has ls 8 [(6, .long (bm x 1)), (5, .int 1), (4, .int 1), (0, .ref m0), (1, .long x), (3, .int 4)] := hl
      refine lv_lload hx hb d_MO_type_62 (lv_at hl 0 rfl) ?_
      refine lv_ldc2 (v := 32) hx hb hown (hts _ k_1005) d_MO_type_64 ?_
      refine W.lcmp hx hb d_MO_type_67 ?_
      refine lv_if_lt (tgt := 84) hx hb d_MO_type_68 (by decide) (fun hc3 => ?_) (fun hc3 => ?_)
      · refine lv_iconst (v := 0) hx hb d_MO_type_84 (by decide) ?_
        refine lv_istore hx hb d_MO_type_85 hl (by decide) rfl (fun ls hl => ?_)
        have hl : lv_has ls 8 [(4, .int 0), (6, .long (bm x 1)), (5, .int 1), (0, .ref m0), (1, .long x), (3, .int 4)] := hl
        refine lv_iinc (k := 2) (v := 2) hx hb d_MO_type_87 hl rfl (by decide) (by decide) rfl (fun ls hl => ?_)
        have hl : lv_has ls 8 [(5, .int 2), (4, .int 0), (6, .long (bm x 1)), (0, .ref m0), (1, .long x), (3, .int 4)] := hl
        refine lv_goto (tgt := 38) hx hb d_MO_type_90 (by decide) ?_
        refine lv_iload hx hb d_MO_type_38 (lv_at hl 1 rfl) ?_
        refine lv_if_eq (tgt := 93) hx hb d_MO_type_40 (by decide) (fun _ => ?_) (fun h9 => absurd (by decide) h9)
        refine lv_iload hx hb d_MO_type_93 (lv_at hl 1 rfl) ?_
        refine lv_if_ne (tgt := 100) hx hb d_MO_type_95 (by decide) (fun h9 => absurd (by decide) h9) (fun _ => ?_)
        refine lv_iconst (v := (-1)) hx hb d_MO_type_98 (by decide) ?_
        have hP9 := hP.sub (ws' := [(m0, .inr (9, [.int 0, .ref f_text, .int 0, .int (-1), .ref f_kinds, .ref f_places, .ref f_values, .int 0, .ref f_draftLetters, .int 0, .int 0, .int 0, .ref f_draftNumbers, .ref f_draftSigns, .int 0, .int 0, .int 0, .int 0, .ref f_letters, .ref f_numbers, .ref f_isList, .ref f_bounds, .ref f_sizes, .ref f_lists, .ref f_told, .ref f_costs, .int 0, .ref f_times, .int 0, .ref f_bestOne, .ref f_basis, .int 0, .ref f_one, .int 0, .ref f_along, .ref f_now]))]) [0] rfl
        have hD9 := hD.sub (ws' := [(m0, .inr (9, [.int 0, .ref f_text, .int 0, .int (-1), .ref f_kinds, .ref f_places, .ref f_values, .int 0, .ref f_draftLetters, .int 0, .int 0, .int 0, .ref f_draftNumbers, .ref f_draftSigns, .int 0, .int 0, .int 0, .int 0, .ref f_letters, .ref f_numbers, .ref f_isList, .ref f_bounds, .ref f_sizes, .ref f_lists, .ref f_told, .ref f_costs, .int 0, .ref f_times, .int 0, .ref f_bestOne, .ref f_basis, .int 0, .ref f_one, .int 0, .ref f_along, .ref f_now]))]) [0] (by decide) rfl
        have hK9 := hK.sub (tys' := []) [] rfl
        exact W.iret (v := (-1)) hx hb hr (fun t ht hW => ⟨⟨(-1), (), rfl, rfl, by rw [ht]; exact hP9, va_K.moved hW.alike hK9, hD9⟩, hS.F ht⟩) hS.2.2 d_MO_type_99
      · refine lv_lload hx hb d_MO_type_71 (lv_at hl 0 rfl) ?_
        refine lv_ldc2 (v := 126) hx hb hown (hts _ k_1006) d_MO_type_73 ?_
        refine W.lcmp hx hb d_MO_type_76 ?_
        refine lv_if_gt (tgt := 84) hx hb d_MO_type_77 (by decide) (fun hc4 => ?_) (fun hc4 => ?_)
        · refine lv_iconst (v := 0) hx hb d_MO_type_84 (by decide) ?_
          refine lv_istore hx hb d_MO_type_85 hl (by decide) rfl (fun ls hl => ?_)
          have hl : lv_has ls 8 [(4, .int 0), (6, .long (bm x 1)), (5, .int 1), (0, .ref m0), (1, .long x), (3, .int 4)] := hl
          refine lv_iinc (k := 2) (v := 2) hx hb d_MO_type_87 hl rfl (by decide) (by decide) rfl (fun ls hl => ?_)
          have hl : lv_has ls 8 [(5, .int 2), (4, .int 0), (6, .long (bm x 1)), (0, .ref m0), (1, .long x), (3, .int 4)] := hl
          refine lv_goto (tgt := 38) hx hb d_MO_type_90 (by decide) ?_
          refine lv_iload hx hb d_MO_type_38 (lv_at hl 1 rfl) ?_
          refine lv_if_eq (tgt := 93) hx hb d_MO_type_40 (by decide) (fun _ => ?_) (fun h9 => absurd (by decide) h9)
          refine lv_iload hx hb d_MO_type_93 (lv_at hl 1 rfl) ?_
          refine lv_if_ne (tgt := 100) hx hb d_MO_type_95 (by decide) (fun h9 => absurd (by decide) h9) (fun _ => ?_)
          refine lv_iconst (v := (-1)) hx hb d_MO_type_98 (by decide) ?_
          have hP9 := hP.sub (ws' := [(m0, .inr (9, [.int 0, .ref f_text, .int 0, .int (-1), .ref f_kinds, .ref f_places, .ref f_values, .int 0, .ref f_draftLetters, .int 0, .int 0, .int 0, .ref f_draftNumbers, .ref f_draftSigns, .int 0, .int 0, .int 0, .int 0, .ref f_letters, .ref f_numbers, .ref f_isList, .ref f_bounds, .ref f_sizes, .ref f_lists, .ref f_told, .ref f_costs, .int 0, .ref f_times, .int 0, .ref f_bestOne, .ref f_basis, .int 0, .ref f_one, .int 0, .ref f_along, .ref f_now]))]) [0] rfl
          have hD9 := hD.sub (ws' := [(m0, .inr (9, [.int 0, .ref f_text, .int 0, .int (-1), .ref f_kinds, .ref f_places, .ref f_values, .int 0, .ref f_draftLetters, .int 0, .int 0, .int 0, .ref f_draftNumbers, .ref f_draftSigns, .int 0, .int 0, .int 0, .int 0, .ref f_letters, .ref f_numbers, .ref f_isList, .ref f_bounds, .ref f_sizes, .ref f_lists, .ref f_told, .ref f_costs, .int 0, .ref f_times, .int 0, .ref f_bestOne, .ref f_basis, .int 0, .ref f_one, .int 0, .ref f_along, .ref f_now]))]) [0] (by decide) rfl
          have hK9 := hK.sub (tys' := []) [] rfl
          exact W.iret (v := (-1)) hx hb hr (fun t ht hW => ⟨⟨(-1), (), rfl, rfl, by rw [ht]; exact hP9, va_K.moved hW.alike hK9, hD9⟩, hS.F ht⟩) hS.2.2 d_MO_type_99
        · refine lv_iconst (v := 1) hx hb d_MO_type_80 (by decide) ?_
          refine lv_goto (tgt := 85) hx hb d_MO_type_81 (by decide) ?_
          refine lv_istore hx hb d_MO_type_85 hl (by decide) rfl (fun ls hl => ?_)
          have hl : lv_has ls 8 [(4, .int 1), (6, .long (bm x 1)), (5, .int 1), (0, .ref m0), (1, .long x), (3, .int 4)] := hl
          refine lv_iinc (k := 2) (v := 2) hx hb d_MO_type_87 hl rfl (by decide) (by decide) rfl (fun ls hl => ?_)
          have hl : lv_has ls 8 [(5, .int 2), (4, .int 1), (6, .long (bm x 1)), (0, .ref m0), (1, .long x), (3, .int 4)] := hl
          refine lv_goto (tgt := 38) hx hb d_MO_type_90 (by decide) ?_
          refine lv_iload hx hb d_MO_type_38 (lv_at hl 1 rfl) ?_
          refine lv_if_eq (tgt := 93) hx hb d_MO_type_40 (by decide) (fun h9 => absurd h9 (by decide)) (fun _ => ?_)
          refine lv_iload hx hb d_MO_type_43 (lv_at hl 0 rfl) ?_
          refine lv_iload_n hx hb d_MO_type_45 rfl (lv_at hl 5 rfl) ?_
          refine lv_icmp_ge (tgt := 93) hx hb d_MO_type_46 (by decide) (fun h9 => absurd h9 (by decide)) (fun _ => ?_)
          refine lv_lload_n hx hb d_MO_type_49 rfl (lv_at hl 4 rfl) ?_
          refine lv_bipush (v := 8) hx hb d_MO_type_50 (by decide) ?_
          refine lv_iload hx hb d_MO_type_52 (lv_at hl 0 rfl) ?_
          refine lv_imul hx hb d_MO_type_54 ?_
          refine lv_lshr (v := (x >>> (((8 * 2) : Int32).toInt64 &&& 63))) hx hb d_MO_type_55 rfl ?_
          refine lv_ldc2 (v := 255) hx hb hown (hts _ k_1004) d_MO_type_56 ?_
          refine lv_land hx hb d_MO_type_59 ?_
          refine W.eq (g2 := F0 m 60 ls [.long (bm x 2)]) rfl ?_
          refine lv_lstore hx hb d_MO_type_60 hl (by decide) rfl (fun ls hl => ?_)
          have hl : lv_has ls 8 [(6, .long (bm x 2)), (5, .int 2), (4, .int 1), (0, .ref m0), (1, .long x), (3, .int 4)] := hl
          refine lv_lload hx hb d_MO_type_62 (lv_at hl 0 rfl) ?_
          refine lv_ldc2 (v := 32) hx hb hown (hts _ k_1005) d_MO_type_64 ?_
          refine W.lcmp hx hb d_MO_type_67 ?_
          refine lv_if_lt (tgt := 84) hx hb d_MO_type_68 (by decide) (fun hc5 => ?_) (fun hc5 => ?_)
          · refine lv_iconst (v := 0) hx hb d_MO_type_84 (by decide) ?_
            refine lv_istore hx hb d_MO_type_85 hl (by decide) rfl (fun ls hl => ?_)
            have hl : lv_has ls 8 [(4, .int 0), (6, .long (bm x 2)), (5, .int 2), (0, .ref m0), (1, .long x), (3, .int 4)] := hl
            refine lv_iinc (k := 2) (v := 3) hx hb d_MO_type_87 hl rfl (by decide) (by decide) rfl (fun ls hl => ?_)
            have hl : lv_has ls 8 [(5, .int 3), (4, .int 0), (6, .long (bm x 2)), (0, .ref m0), (1, .long x), (3, .int 4)] := hl
            refine lv_goto (tgt := 38) hx hb d_MO_type_90 (by decide) ?_
            refine lv_iload hx hb d_MO_type_38 (lv_at hl 1 rfl) ?_
            refine lv_if_eq (tgt := 93) hx hb d_MO_type_40 (by decide) (fun _ => ?_) (fun h9 => absurd (by decide) h9)
            refine lv_iload hx hb d_MO_type_93 (lv_at hl 1 rfl) ?_
            refine lv_if_ne (tgt := 100) hx hb d_MO_type_95 (by decide) (fun h9 => absurd (by decide) h9) (fun _ => ?_)
            refine lv_iconst (v := (-1)) hx hb d_MO_type_98 (by decide) ?_
            have hP9 := hP.sub (ws' := [(m0, .inr (9, [.int 0, .ref f_text, .int 0, .int (-1), .ref f_kinds, .ref f_places, .ref f_values, .int 0, .ref f_draftLetters, .int 0, .int 0, .int 0, .ref f_draftNumbers, .ref f_draftSigns, .int 0, .int 0, .int 0, .int 0, .ref f_letters, .ref f_numbers, .ref f_isList, .ref f_bounds, .ref f_sizes, .ref f_lists, .ref f_told, .ref f_costs, .int 0, .ref f_times, .int 0, .ref f_bestOne, .ref f_basis, .int 0, .ref f_one, .int 0, .ref f_along, .ref f_now]))]) [0] rfl
            have hD9 := hD.sub (ws' := [(m0, .inr (9, [.int 0, .ref f_text, .int 0, .int (-1), .ref f_kinds, .ref f_places, .ref f_values, .int 0, .ref f_draftLetters, .int 0, .int 0, .int 0, .ref f_draftNumbers, .ref f_draftSigns, .int 0, .int 0, .int 0, .int 0, .ref f_letters, .ref f_numbers, .ref f_isList, .ref f_bounds, .ref f_sizes, .ref f_lists, .ref f_told, .ref f_costs, .int 0, .ref f_times, .int 0, .ref f_bestOne, .ref f_basis, .int 0, .ref f_one, .int 0, .ref f_along, .ref f_now]))]) [0] (by decide) rfl
            have hK9 := hK.sub (tys' := []) [] rfl
            exact W.iret (v := (-1)) hx hb hr (fun t ht hW => ⟨⟨(-1), (), rfl, rfl, by rw [ht]; exact hP9, va_K.moved hW.alike hK9, hD9⟩, hS.F ht⟩) hS.2.2 d_MO_type_99
          · refine lv_lload hx hb d_MO_type_71 (lv_at hl 0 rfl) ?_
            refine lv_ldc2 (v := 126) hx hb hown (hts _ k_1006) d_MO_type_73 ?_
            refine W.lcmp hx hb d_MO_type_76 ?_
            refine lv_if_gt (tgt := 84) hx hb d_MO_type_77 (by decide) (fun hc6 => ?_) (fun hc6 => ?_)
            · refine lv_iconst (v := 0) hx hb d_MO_type_84 (by decide) ?_
              refine lv_istore hx hb d_MO_type_85 hl (by decide) rfl (fun ls hl => ?_)
              have hl : lv_has ls 8 [(4, .int 0), (6, .long (bm x 2)), (5, .int 2), (0, .ref m0), (1, .long x), (3, .int 4)] := hl
              refine lv_iinc (k := 2) (v := 3) hx hb d_MO_type_87 hl rfl (by decide) (by decide) rfl (fun ls hl => ?_)
              have hl : lv_has ls 8 [(5, .int 3), (4, .int 0), (6, .long (bm x 2)), (0, .ref m0), (1, .long x), (3, .int 4)] := hl
              refine lv_goto (tgt := 38) hx hb d_MO_type_90 (by decide) ?_
              refine lv_iload hx hb d_MO_type_38 (lv_at hl 1 rfl) ?_
              refine lv_if_eq (tgt := 93) hx hb d_MO_type_40 (by decide) (fun _ => ?_) (fun h9 => absurd (by decide) h9)
              refine lv_iload hx hb d_MO_type_93 (lv_at hl 1 rfl) ?_
              refine lv_if_ne (tgt := 100) hx hb d_MO_type_95 (by decide) (fun h9 => absurd (by decide) h9) (fun _ => ?_)
              refine lv_iconst (v := (-1)) hx hb d_MO_type_98 (by decide) ?_
              have hP9 := hP.sub (ws' := [(m0, .inr (9, [.int 0, .ref f_text, .int 0, .int (-1), .ref f_kinds, .ref f_places, .ref f_values, .int 0, .ref f_draftLetters, .int 0, .int 0, .int 0, .ref f_draftNumbers, .ref f_draftSigns, .int 0, .int 0, .int 0, .int 0, .ref f_letters, .ref f_numbers, .ref f_isList, .ref f_bounds, .ref f_sizes, .ref f_lists, .ref f_told, .ref f_costs, .int 0, .ref f_times, .int 0, .ref f_bestOne, .ref f_basis, .int 0, .ref f_one, .int 0, .ref f_along, .ref f_now]))]) [0] rfl
              have hD9 := hD.sub (ws' := [(m0, .inr (9, [.int 0, .ref f_text, .int 0, .int (-1), .ref f_kinds, .ref f_places, .ref f_values, .int 0, .ref f_draftLetters, .int 0, .int 0, .int 0, .ref f_draftNumbers, .ref f_draftSigns, .int 0, .int 0, .int 0, .int 0, .ref f_letters, .ref f_numbers, .ref f_isList, .ref f_bounds, .ref f_sizes, .ref f_lists, .ref f_told, .ref f_costs, .int 0, .ref f_times, .int 0, .ref f_bestOne, .ref f_basis, .int 0, .ref f_one, .int 0, .ref f_along, .ref f_now]))]) [0] (by decide) rfl
              have hK9 := hK.sub (tys' := []) [] rfl
              exact W.iret (v := (-1)) hx hb hr (fun t ht hW => ⟨⟨(-1), (), rfl, rfl, by rw [ht]; exact hP9, va_K.moved hW.alike hK9, hD9⟩, hS.F ht⟩) hS.2.2 d_MO_type_99
            · refine lv_iconst (v := 1) hx hb d_MO_type_80 (by decide) ?_
              refine lv_goto (tgt := 85) hx hb d_MO_type_81 (by decide) ?_
              refine lv_istore hx hb d_MO_type_85 hl (by decide) rfl (fun ls hl => ?_)
              have hl : lv_has ls 8 [(4, .int 1), (6, .long (bm x 2)), (5, .int 2), (0, .ref m0), (1, .long x), (3, .int 4)] := hl
              refine lv_iinc (k := 2) (v := 3) hx hb d_MO_type_87 hl rfl (by decide) (by decide) rfl (fun ls hl => ?_)
              have hl : lv_has ls 8 [(5, .int 3), (4, .int 1), (6, .long (bm x 2)), (0, .ref m0), (1, .long x), (3, .int 4)] := hl
              refine lv_goto (tgt := 38) hx hb d_MO_type_90 (by decide) ?_
              refine lv_iload hx hb d_MO_type_38 (lv_at hl 1 rfl) ?_
              refine lv_if_eq (tgt := 93) hx hb d_MO_type_40 (by decide) (fun h9 => absurd h9 (by decide)) (fun _ => ?_)
              refine lv_iload hx hb d_MO_type_43 (lv_at hl 0 rfl) ?_
              refine lv_iload_n hx hb d_MO_type_45 rfl (lv_at hl 5 rfl) ?_
              refine lv_icmp_ge (tgt := 93) hx hb d_MO_type_46 (by decide) (fun h9 => absurd h9 (by decide)) (fun _ => ?_)
              refine lv_lload_n hx hb d_MO_type_49 rfl (lv_at hl 4 rfl) ?_
              refine lv_bipush (v := 8) hx hb d_MO_type_50 (by decide) ?_
              refine lv_iload hx hb d_MO_type_52 (lv_at hl 0 rfl) ?_
              refine lv_imul hx hb d_MO_type_54 ?_
              refine lv_lshr (v := (x >>> (((8 * 3) : Int32).toInt64 &&& 63))) hx hb d_MO_type_55 rfl ?_
              refine lv_ldc2 (v := 255) hx hb hown (hts _ k_1004) d_MO_type_56 ?_
              refine lv_land hx hb d_MO_type_59 ?_
              refine W.eq (g2 := F0 m 60 ls [.long (bm x 3)]) rfl ?_
              refine lv_lstore hx hb d_MO_type_60 hl (by decide) rfl (fun ls hl => ?_)
              have hl : lv_has ls 8 [(6, .long (bm x 3)), (5, .int 3), (4, .int 1), (0, .ref m0), (1, .long x), (3, .int 4)] := hl
              refine lv_lload hx hb d_MO_type_62 (lv_at hl 0 rfl) ?_
              refine lv_ldc2 (v := 32) hx hb hown (hts _ k_1005) d_MO_type_64 ?_
              refine W.lcmp hx hb d_MO_type_67 ?_
              refine lv_if_lt (tgt := 84) hx hb d_MO_type_68 (by decide) (fun hc7 => ?_) (fun hc7 => ?_)
              · refine lv_iconst (v := 0) hx hb d_MO_type_84 (by decide) ?_
                refine lv_istore hx hb d_MO_type_85 hl (by decide) rfl (fun ls hl => ?_)
                have hl : lv_has ls 8 [(4, .int 0), (6, .long (bm x 3)), (5, .int 3), (0, .ref m0), (1, .long x), (3, .int 4)] := hl
                refine lv_iinc (k := 2) (v := 4) hx hb d_MO_type_87 hl rfl (by decide) (by decide) rfl (fun ls hl => ?_)
                have hl : lv_has ls 8 [(5, .int 4), (4, .int 0), (6, .long (bm x 3)), (0, .ref m0), (1, .long x), (3, .int 4)] := hl
                refine lv_goto (tgt := 38) hx hb d_MO_type_90 (by decide) ?_
                refine lv_iload hx hb d_MO_type_38 (lv_at hl 1 rfl) ?_
                refine lv_if_eq (tgt := 93) hx hb d_MO_type_40 (by decide) (fun _ => ?_) (fun h9 => absurd (by decide) h9)
                refine lv_iload hx hb d_MO_type_93 (lv_at hl 1 rfl) ?_
                refine lv_if_ne (tgt := 100) hx hb d_MO_type_95 (by decide) (fun h9 => absurd (by decide) h9) (fun _ => ?_)
                refine lv_iconst (v := (-1)) hx hb d_MO_type_98 (by decide) ?_
                have hP9 := hP.sub (ws' := [(m0, .inr (9, [.int 0, .ref f_text, .int 0, .int (-1), .ref f_kinds, .ref f_places, .ref f_values, .int 0, .ref f_draftLetters, .int 0, .int 0, .int 0, .ref f_draftNumbers, .ref f_draftSigns, .int 0, .int 0, .int 0, .int 0, .ref f_letters, .ref f_numbers, .ref f_isList, .ref f_bounds, .ref f_sizes, .ref f_lists, .ref f_told, .ref f_costs, .int 0, .ref f_times, .int 0, .ref f_bestOne, .ref f_basis, .int 0, .ref f_one, .int 0, .ref f_along, .ref f_now]))]) [0] rfl
                have hD9 := hD.sub (ws' := [(m0, .inr (9, [.int 0, .ref f_text, .int 0, .int (-1), .ref f_kinds, .ref f_places, .ref f_values, .int 0, .ref f_draftLetters, .int 0, .int 0, .int 0, .ref f_draftNumbers, .ref f_draftSigns, .int 0, .int 0, .int 0, .int 0, .ref f_letters, .ref f_numbers, .ref f_isList, .ref f_bounds, .ref f_sizes, .ref f_lists, .ref f_told, .ref f_costs, .int 0, .ref f_times, .int 0, .ref f_bestOne, .ref f_basis, .int 0, .ref f_one, .int 0, .ref f_along, .ref f_now]))]) [0] (by decide) rfl
                have hK9 := hK.sub (tys' := []) [] rfl
                exact W.iret (v := (-1)) hx hb hr (fun t ht hW => ⟨⟨(-1), (), rfl, rfl, by rw [ht]; exact hP9, va_K.moved hW.alike hK9, hD9⟩, hS.F ht⟩) hS.2.2 d_MO_type_99
              · refine lv_lload hx hb d_MO_type_71 (lv_at hl 0 rfl) ?_
                refine lv_ldc2 (v := 126) hx hb hown (hts _ k_1006) d_MO_type_73 ?_
                refine W.lcmp hx hb d_MO_type_76 ?_
                refine lv_if_gt (tgt := 84) hx hb d_MO_type_77 (by decide) (fun hc8 => ?_) (fun hc8 => ?_)
                · refine lv_iconst (v := 0) hx hb d_MO_type_84 (by decide) ?_
                  refine lv_istore hx hb d_MO_type_85 hl (by decide) rfl (fun ls hl => ?_)
                  have hl : lv_has ls 8 [(4, .int 0), (6, .long (bm x 3)), (5, .int 3), (0, .ref m0), (1, .long x), (3, .int 4)] := hl
                  refine lv_iinc (k := 2) (v := 4) hx hb d_MO_type_87 hl rfl (by decide) (by decide) rfl (fun ls hl => ?_)
                  have hl : lv_has ls 8 [(5, .int 4), (4, .int 0), (6, .long (bm x 3)), (0, .ref m0), (1, .long x), (3, .int 4)] := hl
                  refine lv_goto (tgt := 38) hx hb d_MO_type_90 (by decide) ?_
                  refine lv_iload hx hb d_MO_type_38 (lv_at hl 1 rfl) ?_
                  refine lv_if_eq (tgt := 93) hx hb d_MO_type_40 (by decide) (fun _ => ?_) (fun h9 => absurd (by decide) h9)
                  refine lv_iload hx hb d_MO_type_93 (lv_at hl 1 rfl) ?_
                  refine lv_if_ne (tgt := 100) hx hb d_MO_type_95 (by decide) (fun h9 => absurd (by decide) h9) (fun _ => ?_)
                  refine lv_iconst (v := (-1)) hx hb d_MO_type_98 (by decide) ?_
                  have hP9 := hP.sub (ws' := [(m0, .inr (9, [.int 0, .ref f_text, .int 0, .int (-1), .ref f_kinds, .ref f_places, .ref f_values, .int 0, .ref f_draftLetters, .int 0, .int 0, .int 0, .ref f_draftNumbers, .ref f_draftSigns, .int 0, .int 0, .int 0, .int 0, .ref f_letters, .ref f_numbers, .ref f_isList, .ref f_bounds, .ref f_sizes, .ref f_lists, .ref f_told, .ref f_costs, .int 0, .ref f_times, .int 0, .ref f_bestOne, .ref f_basis, .int 0, .ref f_one, .int 0, .ref f_along, .ref f_now]))]) [0] rfl
                  have hD9 := hD.sub (ws' := [(m0, .inr (9, [.int 0, .ref f_text, .int 0, .int (-1), .ref f_kinds, .ref f_places, .ref f_values, .int 0, .ref f_draftLetters, .int 0, .int 0, .int 0, .ref f_draftNumbers, .ref f_draftSigns, .int 0, .int 0, .int 0, .int 0, .ref f_letters, .ref f_numbers, .ref f_isList, .ref f_bounds, .ref f_sizes, .ref f_lists, .ref f_told, .ref f_costs, .int 0, .ref f_times, .int 0, .ref f_bestOne, .ref f_basis, .int 0, .ref f_one, .int 0, .ref f_along, .ref f_now]))]) [0] (by decide) rfl
                  have hK9 := hK.sub (tys' := []) [] rfl
                  exact W.iret (v := (-1)) hx hb hr (fun t ht hW => ⟨⟨(-1), (), rfl, rfl, by rw [ht]; exact hP9, va_K.moved hW.alike hK9, hD9⟩, hS.F ht⟩) hS.2.2 d_MO_type_99
                · refine lv_iconst (v := 1) hx hb d_MO_type_80 (by decide) ?_
                  refine lv_goto (tgt := 85) hx hb d_MO_type_81 (by decide) ?_
                  refine lv_istore hx hb d_MO_type_85 hl (by decide) rfl (fun ls hl => ?_)
                  have hl : lv_has ls 8 [(4, .int 1), (6, .long (bm x 3)), (5, .int 3), (0, .ref m0), (1, .long x), (3, .int 4)] := hl
                  refine lv_iinc (k := 2) (v := 4) hx hb d_MO_type_87 hl rfl (by decide) (by decide) rfl (fun ls hl => ?_)
                  have hl : lv_has ls 8 [(5, .int 4), (4, .int 1), (6, .long (bm x 3)), (0, .ref m0), (1, .long x), (3, .int 4)] := hl
                  refine lv_goto (tgt := 38) hx hb d_MO_type_90 (by decide) ?_
                  refine lv_iload hx hb d_MO_type_38 (lv_at hl 1 rfl) ?_
                  refine lv_if_eq (tgt := 93) hx hb d_MO_type_40 (by decide) (fun h9 => absurd h9 (by decide)) (fun _ => ?_)
                  refine lv_iload hx hb d_MO_type_43 (lv_at hl 0 rfl) ?_
                  refine lv_iload_n hx hb d_MO_type_45 rfl (lv_at hl 5 rfl) ?_
                  refine lv_icmp_ge (tgt := 93) hx hb d_MO_type_46 (by decide) (fun _ => ?_) (fun h9 => absurd (by decide) h9)
                  refine lv_iload hx hb d_MO_type_93 (lv_at hl 1 rfl) ?_
                  refine lv_if_ne (tgt := 100) hx hb d_MO_type_95 (by decide) (fun _ => ?_) (fun h9 => absurd h9 (by decide))
                  exact absurd ⟨okm (d := 0) (by decide +kernel) (by decide) hc1 hc2, okm (d := 8) (by decide +kernel) (by decide) hc3 hc4, okm (d := 16) (by decide +kernel) (by decide) hc5 hc6, okm (d := 24) (by decide +kernel) (by decide) hc7 hc8⟩ g

set_option maxHeartbeats 4000000 in
set_option maxRecDepth 100000 in
theorem c_MO_type_5y (l : Launch) (dC : Nat → ClassId) (dI : Nat → Nat → Nat) (m0 : Nat) (f_text : Nat) (f_kinds : Nat) (f_places : Nat) (f_values : Nat) (f_draftLetters : Nat) (f_draftNumbers : Nat) (f_draftSigns : Nat) (f_letters : Nat) (f_numbers : Nat) (f_isList : Nat) (f_bounds : Nat) (f_sizes : Nat) (f_lists : Nat) (f_told : Nat) (f_costs : Nat) (f_times : Nat) (f_bestOne : Nat) (f_basis : Nat) (f_one : Nat) (f_along : Nat) (f_now : Nat) (th : Int32) (cX : ClassId) (x : Int64) (sz : Nat) (g : ok x 0 ∧ ok x 8 ∧ ok x 16 ∧ ok x 24 ∧ ok x 32) : Met l y_MO_type (Cond.code y_MO_type b_MO_type 8 (Option.some Jvm.ClassFile.FieldType.int) :: wd) { frames := 0, cells := 0, slots := 0, locals := 0 } (va_Pc [.ref m0, .long x, .int 5] (fun U => U.heap.size = sz ∧ va_P (dC, dI) cls [(m0, .inr (9, [.int th, .ref f_text, .int 0, .int (-1), .ref f_kinds, .ref f_places, .ref f_values, .int 0, .ref f_draftLetters, .int 0, .int 0, .int 0, .ref f_draftNumbers, .ref f_draftSigns, .int 0, .int 0, .int 0, .int 0, .ref f_letters, .ref f_numbers, .ref f_isList, .ref f_bounds, .ref f_sizes, .ref f_lists, .ref f_told, .ref f_costs, .int 0, .ref f_times, .int 0, .ref f_bestOne, .ref f_basis, .int 0, .ref f_one, .int 0, .ref f_along, .ref f_now])), (f_text, .inl (cX, 300, .inl (fun _ => (0 : Int32))))] U.heap ∧ va_K (dC, dI) cls [(cX, .int)] U ∧ va_D (fun _ => True) [(m0, .inr (9, [.int th, .ref f_text, .int 0, .int (-1), .ref f_kinds, .ref f_places, .ref f_values, .int 0, .ref f_draftLetters, .int 0, .int 0, .int 0, .ref f_draftNumbers, .ref f_draftSigns, .int 0, .int 0, .int 0, .int 0, .ref f_letters, .ref f_numbers, .ref f_isList, .ref f_bounds, .ref f_sizes, .ref f_lists, .ref f_told, .ref f_costs, .int 0, .ref f_times, .int 0, .ref f_bestOne, .ref f_basis, .int 0, .ref f_one, .int 0, .ref f_along, .ref f_now])), (f_text, .inl (cX, 300, .inl (fun _ => (0 : Int32))))] ∧ nw_ok U)) (va_Qi (fun r (_ : Unit) => r = 5) (fun (_ : Unit) t => va_P (dC, dI) cls [(m0, .inr (9, [.int 0, .ref f_text, .int 5, .int (-1), .ref f_kinds, .ref f_places, .ref f_values, .int 0, .ref f_draftLetters, .int 0, .int 0, .int 0, .ref f_draftNumbers, .ref f_draftSigns, .int 0, .int 0, .int 0, .int 0, .ref f_letters, .ref f_numbers, .ref f_isList, .ref f_bounds, .ref f_sizes, .ref f_lists, .ref f_told, .ref f_costs, .int 0, .ref f_times, .int 0, .ref f_bestOne, .ref f_basis, .int 0, .ref f_one, .int 0, .ref f_along, .ref f_now]))] t.heap ∧ va_K (dC, dI) cls [(cX, .int)] t ∧ va_D (va_A [(m0, .inr (9, [.int th, .ref f_text, .int 0, .int (-1), .ref f_kinds, .ref f_places, .ref f_values, .int 0, .ref f_draftLetters, .int 0, .int 0, .int 0, .ref f_draftNumbers, .ref f_draftSigns, .int 0, .int 0, .int 0, .int 0, .ref f_letters, .ref f_numbers, .ref f_isList, .ref f_bounds, .ref f_sizes, .ref f_lists, .ref f_told, .ref f_costs, .int 0, .ref f_times, .int 0, .ref f_bestOne, .ref f_basis, .int 0, .ref f_one, .int 0, .ref f_along, .ref f_now])), (f_text, .inl (cX, 300, .inl (fun _ => (0 : Int32))))] sz) [(m0, .inr (9, [.int 0, .ref f_text, .int 5, .int (-1), .ref f_kinds, .ref f_places, .ref f_values, .int 0, .ref f_draftLetters, .int 0, .int 0, .int 0, .ref f_draftNumbers, .ref f_draftSigns, .int 0, .int 0, .int 0, .int 0, .ref f_letters, .ref f_numbers, .ref f_isList, .ref f_bounds, .ref f_sizes, .ref f_lists, .ref f_told, .ref f_costs, .int 0, .ref f_times, .int 0, .ref f_bestOne, .ref f_basis, .int 0, .ref f_one, .int 0, .ref f_along, .ref f_now]))]) (va_A [(m0, .inr (9, [.int th, .ref f_text, .int 0, .int (-1), .ref f_kinds, .ref f_places, .ref f_values, .int 0, .ref f_draftLetters, .int 0, .int 0, .int 0, .ref f_draftNumbers, .ref f_draftSigns, .int 0, .int 0, .int 0, .int 0, .ref f_letters, .ref f_numbers, .ref f_isList, .ref f_bounds, .ref f_sizes, .ref f_lists, .ref f_told, .ref f_costs, .int 0, .ref f_times, .int 0, .ref f_bestOne, .ref f_basis, .int 0, .ref f_one, .int 0, .ref f_along, .ref f_now])), (f_text, .inl (cX, 300, .inl (fun _ => (0 : Int32))))] sz)) 0 0 (va_A [(m0, .inr (9, [.int th, .ref f_text, .int 0, .int (-1), .ref f_kinds, .ref f_places, .ref f_values, .int 0, .ref f_draftLetters, .int 0, .int 0, .int 0, .ref f_draftNumbers, .ref f_draftSigns, .int 0, .int 0, .int 0, .int 0, .ref f_letters, .ref f_numbers, .ref f_isList, .ref f_bounds, .ref f_sizes, .ref f_lists, .ref f_told, .ref f_costs, .int 0, .ref f_times, .int 0, .ref f_bestOne, .ref f_basis, .int 0, .ref f_one, .int 0, .ref f_along, .ref f_now])), (f_text, .inl (cX, 300, .inl (fun _ => (0 : Int32))))] sz) := by
  refine Met.ofW (cc := b_MO_type) (maxL := 8) (ret := (Option.some Jvm.ClassFile.FieldType.int)) (by decide) rfl ?_
  intro p e s m args below meth c s₁ B hml hv
  obtain ⟨rfl, hsz, hP, hK, hD0, hN⟩ := hv
  have hx := B.exec
  have hb := B.bytes
  have hr := B.returns
  have hlocks := B.notSynchronized
  have hts : ∀ w ∈ wd, w.before ([.ref m0, .long x, .int 5] : List Value).toArray s = true := fun w hw => atoms_spec (ws := (Cond.code y_MO_type b_MO_type 8 (Option.some Jvm.ClassFile.FieldType.int) :: wd)) B.pre w (List.mem_cons_of_mem _ hw)
  have hown : s.vm.findClass "LeastSolutionsModel" = some m.cls := findClass_of_methodNamed B.named
  subst hsz
  have hD := hD0.self (sz := s.heap.size)
  generalize hAe : va_A [(m0, .inr (9, [.int th, .ref f_text, .int 0, .int (-1), .ref f_kinds, .ref f_places, .ref f_values, .int 0, .ref f_draftLetters, .int 0, .int 0, .int 0, .ref f_draftNumbers, .ref f_draftSigns, .int 0, .int 0, .int 0, .int 0, .ref f_letters, .ref f_numbers, .ref f_isList, .ref f_bounds, .ref f_sizes, .ref f_lists, .ref f_told, .ref f_costs, .int 0, .ref f_times, .int 0, .ref f_bestOne, .ref f_basis, .int 0, .ref f_one, .int 0, .ref f_along, .ref f_now])), (f_text, .inl (cX, 300, .inl (fun _ => (0 : Int32))))] s.heap.size = A at hD ⊢
  have hA : ∀ q : Nat, s.heap.size ≤ q → A q := fun q h => by rw [← hAe]; exact Or.inr h
  have hS : va_S A s.heap s.heap [] := va_S.rf
  have hl := lv_entry ([.ref m0, .long x, .int 5]) (n := 8) (Nat.le_of_ble_eq_true rfl)
  rw [lg_entry_eq]
  generalize (lg_sl ([.ref m0, .long x, .int 5]) ++ List.replicate (8 - (lg_sl ([.ref m0, .long x, .int 5])).length) Slot.unset).toArray = ls at hl ⊢
  have hl : lv_has ls 8 [(0, .ref m0), (1, .long x), (3, .int 5)] := hl
  refine lv_aload_n hx hb d_MO_type_0 rfl (lv_at hl 0 rfl) ?_
  refine lv_iconst (v := 0) hx hb d_MO_type_1 (by decide) ?_
  refine va_put (D := (dC, dI)) (ci := 9) (v := .int 0) (ty := .int) (C := R_MO) (T := T_MO) (N := 36) hx hb hts in_MO t_MO t_MO_ok n_MO hown hK hP hD hS 0 rfl rfl 0 (by decide) (hts _ k_886) (fun _ h9 => h9) rfl (by decide +kernel) rfl rfl (Nat.le_of_ble_eq_true rfl) d_MO_type_2 (fun H1 locs hP hD hS => ?_)
  have hP : va_P (dC, dI) cls [(m0, .inr (9, [.int 0, .ref f_text, .int 0, .int (-1), .ref f_kinds, .ref f_places, .ref f_values, .int 0, .ref f_draftLetters, .int 0, .int 0, .int 0, .ref f_draftNumbers, .ref f_draftSigns, .int 0, .int 0, .int 0, .int 0, .ref f_letters, .ref f_numbers, .ref f_isList, .ref f_bounds, .ref f_sizes, .ref f_lists, .ref f_told, .ref f_costs, .int 0, .ref f_times, .int 0, .ref f_bestOne, .ref f_basis, .int 0, .ref f_one, .int 0, .ref f_along, .ref f_now])), (f_text, .inl (cX, 300, .inl (fun _ => (0 : Int32))))] H1 := hP
  have hD : va_D A [(m0, .inr (9, [.int 0, .ref f_text, .int 0, .int (-1), .ref f_kinds, .ref f_places, .ref f_values, .int 0, .ref f_draftLetters, .int 0, .int 0, .int 0, .ref f_draftNumbers, .ref f_draftSigns, .int 0, .int 0, .int 0, .int 0, .ref f_letters, .ref f_numbers, .ref f_isList, .ref f_bounds, .ref f_sizes, .ref f_lists, .ref f_told, .ref f_costs, .int 0, .ref f_times, .int 0, .ref f_bestOne, .ref f_basis, .int 0, .ref f_one, .int 0, .ref f_along, .ref f_now])), (f_text, .inl (cX, 300, .inl (fun _ => (0 : Int32))))] := hD
  refine lv_iload_n hx hb d_MO_type_5 rfl (lv_at hl 2 rfl) ?_
  refine lv_iconst (v := 1) hx hb d_MO_type_6 (by decide) ?_
  refine lv_icmp_lt (tgt := 32) hx hb d_MO_type_7 (by decide) (fun h9 => absurd h9 (by decide)) (fun _ => ?_)
  refine lv_iload_n hx hb d_MO_type_10 rfl (lv_at hl 2 rfl) ?_
  refine lv_bipush (v := 8) hx hb d_MO_type_11 (by decide) ?_
  refine lv_icmp_gt (tgt := 32) hx hb d_MO_type_13 (by decide) (fun h9 => absurd h9 (by decide)) (fun _ => ?_)
  refine lv_aload_n hx hb d_MO_type_16 rfl (lv_at hl 0 rfl) ?_
  refine va_get (D := (dC, dI)) (ci := 9) (v := .int 0) (C := R_MO) (T := T_MO) (N := 36) hx hb hts in_MO hown hK hP 0 rfl rfl 2 (by decide) (hts _ k_888) (fun _ h9 => h9) rfl d_MO_type_17 ?_
  refine lv_iload_n hx hb d_MO_type_20 rfl (lv_at hl 2 rfl) ?_
  refine lv_iadd hx hb d_MO_type_21 ?_
  refine W.eq (g2 := F0 m 22 ls [.int 5]) rfl ?_
  refine lv_sipush (v := 300) hx hb d_MO_type_22 (by decide) ?_
  refine lv_icmp_gt (tgt := 32) hx hb d_MO_type_25 (by decide) (fun h9 => absurd h9 (by decide)) (fun _ => ?_)
  refine lv_iconst (v := 1) hx hb d_MO_type_28 (by decide) ?_
  refine lv_goto (tgt := 33) hx hb d_MO_type_29 (by decide) ?_
  refine lv_istore hx hb d_MO_type_33 hl (by decide) rfl (fun ls hl => ?_)
  have hl : lv_has ls 8 [(4, .int 1), (0, .ref m0), (1, .long x), (3, .int 5)] := hl
  refine lv_iconst (v := 0) hx hb d_MO_type_35 (by decide) ?_
  refine lv_istore hx hb d_MO_type_36 hl (by decide) rfl (fun ls hl => ?_)
  have hl : lv_has ls 8 [(5, .int 0), (4, .int 1), (0, .ref m0), (1, .long x), (3, .int 5)] := hl
  refine lv_iload hx hb d_MO_type_38 (lv_at hl 1 rfl) ?_
  refine lv_if_eq (tgt := 93) hx hb d_MO_type_40 (by decide) (fun h9 => absurd h9 (by decide)) (fun _ => ?_)
  refine lv_iload hx hb d_MO_type_43 (lv_at hl 0 rfl) ?_
  refine lv_iload_n hx hb d_MO_type_45 rfl (lv_at hl 4 rfl) ?_
  refine lv_icmp_ge (tgt := 93) hx hb d_MO_type_46 (by decide) (fun h9 => absurd h9 (by decide)) (fun _ => ?_)
  refine lv_lload_n hx hb d_MO_type_49 rfl (lv_at hl 3 rfl) ?_
  refine lv_bipush (v := 8) hx hb d_MO_type_50 (by decide) ?_
  refine lv_iload hx hb d_MO_type_52 (lv_at hl 0 rfl) ?_
  refine lv_imul hx hb d_MO_type_54 ?_
  refine lv_lshr (v := (x >>> (((8 * 0) : Int32).toInt64 &&& 63))) hx hb d_MO_type_55 rfl ?_
  refine lv_ldc2 (v := 255) hx hb hown (hts _ k_1004) d_MO_type_56 ?_
  refine lv_land hx hb d_MO_type_59 ?_
  refine W.eq (g2 := F0 m 60 ls [.long (bm x 0)]) rfl ?_
  refine lv_lstore hx hb d_MO_type_60 hl (by decide) rfl (fun ls hl => ?_)
  have hl : lv_has ls 8 [(6, .long (bm x 0)), (5, .int 0), (4, .int 1), (0, .ref m0), (1, .long x), (3, .int 5)] := hl
  refine lv_lload hx hb d_MO_type_62 (lv_at hl 0 rfl) ?_
  refine lv_ldc2 (v := 32) hx hb hown (hts _ k_1005) d_MO_type_64 ?_
  refine W.lcmp hx hb d_MO_type_67 ?_
  refine lv_if_lt (tgt := 84) hx hb d_MO_type_68 (by decide) (fun h9 => absurd h9 (okm1 (d := 0) (by decide +kernel) (by decide) (g.1))) (fun _ => ?_)
  refine lv_lload hx hb d_MO_type_71 (lv_at hl 0 rfl) ?_
  refine lv_ldc2 (v := 126) hx hb hown (hts _ k_1006) d_MO_type_73 ?_
  refine W.lcmp hx hb d_MO_type_76 ?_
  refine lv_if_gt (tgt := 84) hx hb d_MO_type_77 (by decide) (fun h9 => absurd h9 (okm2 (d := 0) (by decide +kernel) (by decide) (g.1))) (fun _ => ?_)
  refine lv_iconst (v := 1) hx hb d_MO_type_80 (by decide) ?_
  refine lv_goto (tgt := 85) hx hb d_MO_type_81 (by decide) ?_
  refine lv_istore hx hb d_MO_type_85 hl (by decide) rfl (fun ls hl => ?_)
  have hl : lv_has ls 8 [(4, .int 1), (6, .long (bm x 0)), (5, .int 0), (0, .ref m0), (1, .long x), (3, .int 5)] := hl
  refine lv_iinc (k := 2) (v := 1) hx hb d_MO_type_87 hl rfl (by decide) (by decide) rfl (fun ls hl => ?_)
  have hl : lv_has ls 8 [(5, .int 1), (4, .int 1), (6, .long (bm x 0)), (0, .ref m0), (1, .long x), (3, .int 5)] := hl
  refine lv_goto (tgt := 38) hx hb d_MO_type_90 (by decide) ?_
  refine lv_iload hx hb d_MO_type_38 (lv_at hl 1 rfl) ?_
  refine lv_if_eq (tgt := 93) hx hb d_MO_type_40 (by decide) (fun h9 => absurd h9 (by decide)) (fun _ => ?_)
  refine lv_iload hx hb d_MO_type_43 (lv_at hl 0 rfl) ?_
  refine lv_iload_n hx hb d_MO_type_45 rfl (lv_at hl 5 rfl) ?_
  refine lv_icmp_ge (tgt := 93) hx hb d_MO_type_46 (by decide) (fun h9 => absurd h9 (by decide)) (fun _ => ?_)
  refine lv_lload_n hx hb d_MO_type_49 rfl (lv_at hl 4 rfl) ?_
  refine lv_bipush (v := 8) hx hb d_MO_type_50 (by decide) ?_
  refine lv_iload hx hb d_MO_type_52 (lv_at hl 0 rfl) ?_
  refine lv_imul hx hb d_MO_type_54 ?_
  refine lv_lshr (v := (x >>> (((8 * 1) : Int32).toInt64 &&& 63))) hx hb d_MO_type_55 rfl ?_
  refine lv_ldc2 (v := 255) hx hb hown (hts _ k_1004) d_MO_type_56 ?_
  refine lv_land hx hb d_MO_type_59 ?_
  refine W.eq (g2 := F0 m 60 ls [.long (bm x 1)]) rfl ?_
  refine lv_lstore hx hb d_MO_type_60 hl (by decide) rfl (fun ls hl => ?_)
  have hl : lv_has ls 8 [(6, .long (bm x 1)), (5, .int 1), (4, .int 1), (0, .ref m0), (1, .long x), (3, .int 5)] := hl
  refine lv_lload hx hb d_MO_type_62 (lv_at hl 0 rfl) ?_
  refine lv_ldc2 (v := 32) hx hb hown (hts _ k_1005) d_MO_type_64 ?_
  refine W.lcmp hx hb d_MO_type_67 ?_
  refine lv_if_lt (tgt := 84) hx hb d_MO_type_68 (by decide) (fun h9 => absurd h9 (okm1 (d := 8) (by decide +kernel) (by decide) (g.2.1))) (fun _ => ?_)
  refine lv_lload hx hb d_MO_type_71 (lv_at hl 0 rfl) ?_
  refine lv_ldc2 (v := 126) hx hb hown (hts _ k_1006) d_MO_type_73 ?_
  refine W.lcmp hx hb d_MO_type_76 ?_
  refine lv_if_gt (tgt := 84) hx hb d_MO_type_77 (by decide) (fun h9 => absurd h9 (okm2 (d := 8) (by decide +kernel) (by decide) (g.2.1))) (fun _ => ?_)
  refine lv_iconst (v := 1) hx hb d_MO_type_80 (by decide) ?_
  refine lv_goto (tgt := 85) hx hb d_MO_type_81 (by decide) ?_
  refine lv_istore hx hb d_MO_type_85 hl (by decide) rfl (fun ls hl => ?_)
  have hl : lv_has ls 8 [(4, .int 1), (6, .long (bm x 1)), (5, .int 1), (0, .ref m0), (1, .long x), (3, .int 5)] := hl
  refine lv_iinc (k := 2) (v := 2) hx hb d_MO_type_87 hl rfl (by decide) (by decide) rfl (fun ls hl => ?_)
  have hl : lv_has ls 8 [(5, .int 2), (4, .int 1), (6, .long (bm x 1)), (0, .ref m0), (1, .long x), (3, .int 5)] := hl
  refine lv_goto (tgt := 38) hx hb d_MO_type_90 (by decide) ?_
  refine lv_iload hx hb d_MO_type_38 (lv_at hl 1 rfl) ?_
  refine lv_if_eq (tgt := 93) hx hb d_MO_type_40 (by decide) (fun h9 => absurd h9 (by decide)) (fun _ => ?_)
  refine lv_iload hx hb d_MO_type_43 (lv_at hl 0 rfl) ?_
  refine lv_iload_n hx hb d_MO_type_45 rfl (lv_at hl 5 rfl) ?_
  refine lv_icmp_ge (tgt := 93) hx hb d_MO_type_46 (by decide) (fun h9 => absurd h9 (by decide)) (fun _ => ?_)
  refine lv_lload_n hx hb d_MO_type_49 rfl (lv_at hl 4 rfl) ?_
  refine lv_bipush (v := 8) hx hb d_MO_type_50 (by decide) ?_
  refine lv_iload hx hb d_MO_type_52 (lv_at hl 0 rfl) ?_
  refine lv_imul hx hb d_MO_type_54 ?_
  refine lv_lshr (v := (x >>> (((8 * 2) : Int32).toInt64 &&& 63))) hx hb d_MO_type_55 rfl ?_
  refine lv_ldc2 (v := 255) hx hb hown (hts _ k_1004) d_MO_type_56 ?_
  refine lv_land hx hb d_MO_type_59 ?_
  refine W.eq (g2 := F0 m 60 ls [.long (bm x 2)]) rfl ?_
  refine lv_lstore hx hb d_MO_type_60 hl (by decide) rfl (fun ls hl => ?_)
  have hl : lv_has ls 8 [(6, .long (bm x 2)), (5, .int 2), (4, .int 1), (0, .ref m0), (1, .long x), (3, .int 5)] := hl
  refine lv_lload hx hb d_MO_type_62 (lv_at hl 0 rfl) ?_
  refine lv_ldc2 (v := 32) hx hb hown (hts _ k_1005) d_MO_type_64 ?_
  refine W.lcmp hx hb d_MO_type_67 ?_
  refine lv_if_lt (tgt := 84) hx hb d_MO_type_68 (by decide) (fun h9 => absurd h9 (okm1 (d := 16) (by decide +kernel) (by decide) (g.2.2.1))) (fun _ => ?_)
  refine lv_lload hx hb d_MO_type_71 (lv_at hl 0 rfl) ?_
  refine lv_ldc2 (v := 126) hx hb hown (hts _ k_1006) d_MO_type_73 ?_
  refine W.lcmp hx hb d_MO_type_76 ?_
  refine lv_if_gt (tgt := 84) hx hb d_MO_type_77 (by decide) (fun h9 => absurd h9 (okm2 (d := 16) (by decide +kernel) (by decide) (g.2.2.1))) (fun _ => ?_)
  refine lv_iconst (v := 1) hx hb d_MO_type_80 (by decide) ?_
  refine lv_goto (tgt := 85) hx hb d_MO_type_81 (by decide) ?_
  refine lv_istore hx hb d_MO_type_85 hl (by decide) rfl (fun ls hl => ?_)
  have hl : lv_has ls 8 [(4, .int 1), (6, .long (bm x 2)), (5, .int 2), (0, .ref m0), (1, .long x), (3, .int 5)] := hl
  refine lv_iinc (k := 2) (v := 3) hx hb d_MO_type_87 hl rfl (by decide) (by decide) rfl (fun ls hl => ?_)
  have hl : lv_has ls 8 [(5, .int 3), (4, .int 1), (6, .long (bm x 2)), (0, .ref m0), (1, .long x), (3, .int 5)] := hl
  refine lv_goto (tgt := 38) hx hb d_MO_type_90 (by decide) ?_
  refine lv_iload hx hb d_MO_type_38 (lv_at hl 1 rfl) ?_
  refine lv_if_eq (tgt := 93) hx hb d_MO_type_40 (by decide) (fun h9 => absurd h9 (by decide)) (fun _ => ?_)
  refine lv_iload hx hb d_MO_type_43 (lv_at hl 0 rfl) ?_
  refine lv_iload_n hx hb d_MO_type_45 rfl (lv_at hl 5 rfl) ?_
  refine lv_icmp_ge (tgt := 93) hx hb d_MO_type_46 (by decide) (fun h9 => absurd h9 (by decide)) (fun _ => ?_)
  refine lv_lload_n hx hb d_MO_type_49 rfl (lv_at hl 4 rfl) ?_
  refine lv_bipush (v := 8) hx hb d_MO_type_50 (by decide) ?_
  refine lv_iload hx hb d_MO_type_52 (lv_at hl 0 rfl) ?_
  refine lv_imul hx hb d_MO_type_54 ?_
  refine lv_lshr (v := (x >>> (((8 * 3) : Int32).toInt64 &&& 63))) hx hb d_MO_type_55 rfl ?_
  refine lv_ldc2 (v := 255) hx hb hown (hts _ k_1004) d_MO_type_56 ?_
  refine lv_land hx hb d_MO_type_59 ?_
  refine W.eq (g2 := F0 m 60 ls [.long (bm x 3)]) rfl ?_
  refine lv_lstore hx hb d_MO_type_60 hl (by decide) rfl (fun ls hl => ?_)
  have hl : lv_has ls 8 [(6, .long (bm x 3)), (5, .int 3), (4, .int 1), (0, .ref m0), (1, .long x), (3, .int 5)] := hl
  refine lv_lload hx hb d_MO_type_62 (lv_at hl 0 rfl) ?_
  refine lv_ldc2 (v := 32) hx hb hown (hts _ k_1005) d_MO_type_64 ?_
  refine W.lcmp hx hb d_MO_type_67 ?_
  refine lv_if_lt (tgt := 84) hx hb d_MO_type_68 (by decide) (fun h9 => absurd h9 (okm1 (d := 24) (by decide +kernel) (by decide) (g.2.2.2.1))) (fun _ => ?_)
  refine lv_lload hx hb d_MO_type_71 (lv_at hl 0 rfl) ?_
  refine lv_ldc2 (v := 126) hx hb hown (hts _ k_1006) d_MO_type_73 ?_
  refine W.lcmp hx hb d_MO_type_76 ?_
  refine lv_if_gt (tgt := 84) hx hb d_MO_type_77 (by decide) (fun h9 => absurd h9 (okm2 (d := 24) (by decide +kernel) (by decide) (g.2.2.2.1))) (fun _ => ?_)
  refine lv_iconst (v := 1) hx hb d_MO_type_80 (by decide) ?_
  refine lv_goto (tgt := 85) hx hb d_MO_type_81 (by decide) ?_
  refine lv_istore hx hb d_MO_type_85 hl (by decide) rfl (fun ls hl => ?_)
  have hl : lv_has ls 8 [(4, .int 1), (6, .long (bm x 3)), (5, .int 3), (0, .ref m0), (1, .long x), (3, .int 5)] := hl
  refine lv_iinc (k := 2) (v := 4) hx hb d_MO_type_87 hl rfl (by decide) (by decide) rfl (fun ls hl => ?_)
  have hl : lv_has ls 8 [(5, .int 4), (4, .int 1), (6, .long (bm x 3)), (0, .ref m0), (1, .long x), (3, .int 5)] := hl
  refine lv_goto (tgt := 38) hx hb d_MO_type_90 (by decide) ?_
  refine lv_iload hx hb d_MO_type_38 (lv_at hl 1 rfl) ?_
  refine lv_if_eq (tgt := 93) hx hb d_MO_type_40 (by decide) (fun h9 => absurd h9 (by decide)) (fun _ => ?_)
  refine lv_iload hx hb d_MO_type_43 (lv_at hl 0 rfl) ?_
  refine lv_iload_n hx hb d_MO_type_45 rfl (lv_at hl 5 rfl) ?_
  refine lv_icmp_ge (tgt := 93) hx hb d_MO_type_46 (by decide) (fun h9 => absurd h9 (by decide)) (fun _ => ?_)
  refine lv_lload_n hx hb d_MO_type_49 rfl (lv_at hl 4 rfl) ?_
  refine lv_bipush (v := 8) hx hb d_MO_type_50 (by decide) ?_
  refine lv_iload hx hb d_MO_type_52 (lv_at hl 0 rfl) ?_
  refine lv_imul hx hb d_MO_type_54 ?_
  refine lv_lshr (v := (x >>> (((8 * 4) : Int32).toInt64 &&& 63))) hx hb d_MO_type_55 rfl ?_
  refine lv_ldc2 (v := 255) hx hb hown (hts _ k_1004) d_MO_type_56 ?_
  refine lv_land hx hb d_MO_type_59 ?_
  refine W.eq (g2 := F0 m 60 ls [.long (bm x 4)]) rfl ?_
  refine lv_lstore hx hb d_MO_type_60 hl (by decide) rfl (fun ls hl => ?_)
  have hl : lv_has ls 8 [(6, .long (bm x 4)), (5, .int 4), (4, .int 1), (0, .ref m0), (1, .long x), (3, .int 5)] := hl
  refine lv_lload hx hb d_MO_type_62 (lv_at hl 0 rfl) ?_
  refine lv_ldc2 (v := 32) hx hb hown (hts _ k_1005) d_MO_type_64 ?_
  refine W.lcmp hx hb d_MO_type_67 ?_
  refine lv_if_lt (tgt := 84) hx hb d_MO_type_68 (by decide) (fun h9 => absurd h9 (okm1 (d := 32) (by decide +kernel) (by decide) (g.2.2.2.2))) (fun _ => ?_)
  refine lv_lload hx hb d_MO_type_71 (lv_at hl 0 rfl) ?_
  refine lv_ldc2 (v := 126) hx hb hown (hts _ k_1006) d_MO_type_73 ?_
  refine W.lcmp hx hb d_MO_type_76 ?_
  refine lv_if_gt (tgt := 84) hx hb d_MO_type_77 (by decide) (fun h9 => absurd h9 (okm2 (d := 32) (by decide +kernel) (by decide) (g.2.2.2.2))) (fun _ => ?_)
  refine lv_iconst (v := 1) hx hb d_MO_type_80 (by decide) ?_
  refine lv_goto (tgt := 85) hx hb d_MO_type_81 (by decide) ?_
  refine lv_istore hx hb d_MO_type_85 hl (by decide) rfl (fun ls hl => ?_)
  have hl : lv_has ls 8 [(4, .int 1), (6, .long (bm x 4)), (5, .int 4), (0, .ref m0), (1, .long x), (3, .int 5)] := hl
  refine lv_iinc (k := 2) (v := 5) hx hb d_MO_type_87 hl rfl (by decide) (by decide) rfl (fun ls hl => ?_)
  have hl : lv_has ls 8 [(5, .int 5), (4, .int 1), (6, .long (bm x 4)), (0, .ref m0), (1, .long x), (3, .int 5)] := hl
  refine lv_goto (tgt := 38) hx hb d_MO_type_90 (by decide) ?_
  refine lv_iload hx hb d_MO_type_38 (lv_at hl 1 rfl) ?_
  refine lv_if_eq (tgt := 93) hx hb d_MO_type_40 (by decide) (fun h9 => absurd h9 (by decide)) (fun _ => ?_)
  refine lv_iload hx hb d_MO_type_43 (lv_at hl 0 rfl) ?_
  refine lv_iload_n hx hb d_MO_type_45 rfl (lv_at hl 5 rfl) ?_
  refine lv_icmp_ge (tgt := 93) hx hb d_MO_type_46 (by decide) (fun _ => ?_) (fun h9 => absurd (by decide) h9)
  refine lv_iload hx hb d_MO_type_93 (lv_at hl 1 rfl) ?_
  refine lv_if_ne (tgt := 100) hx hb d_MO_type_95 (by decide) (fun _ => ?_) (fun h9 => absurd h9 (by decide))
  refine lv_iload_n hx hb d_MO_type_100 rfl (lv_at hl 5 rfl) ?_
  refine lv_iconst (v := 1) hx hb d_MO_type_101 (by decide) ?_
  refine lv_isub hx hb d_MO_type_102 ?_
  refine W.eq (g2 := F0 m 103 ls [.int 4]) rfl ?_
  refine lv_istore hx hb d_MO_type_103 hl (by decide) rfl (fun ls hl => ?_)
  have hl : lv_has ls 8 [(5, .int 4), (4, .int 1), (6, .long (bm x 4)), (0, .ref m0), (1, .long x), (3, .int 5)] := hl
  refine lv_iload hx hb d_MO_type_105 (lv_at hl 0 rfl) ?_
  refine lv_if_lt (tgt := 147) hx hb d_MO_type_107 (by decide) (fun h9 => absurd h9 (by decide)) (fun _ => ?_)
  refine lv_aload_n hx hb d_MO_type_110 rfl (lv_at hl 3 rfl) ?_
  refine va_get (D := (dC, dI)) (ci := 9) (v := .ref f_text) (C := R_MO) (T := T_MO) (N := 36) hx hb hts in_MO hown hK hP 0 rfl rfl 1 (by decide) (hts _ k_887) (fun _ h9 => h9) rfl d_MO_type_111 ?_
  refine lv_aload_n hx hb d_MO_type_114 rfl (lv_at hl 3 rfl) ?_
  refine va_get (D := (dC, dI)) (ci := 9) (v := .int 0) (C := R_MO) (T := T_MO) (N := 36) hx hb hts in_MO hown hK hP 0 rfl rfl 2 (by decide) (hts _ k_888) (fun _ h9 => h9) rfl d_MO_type_115 ?_
  refine lv_lload_n hx hb d_MO_type_118 rfl (lv_at hl 4 rfl) ?_
  refine lv_bipush (v := 8) hx hb d_MO_type_119 (by decide) ?_
  refine lv_iload hx hb d_MO_type_121 (lv_at hl 0 rfl) ?_
  refine lv_imul hx hb d_MO_type_123 ?_
  refine lv_lshr (v := (x >>> (((8 * 4) : Int32).toInt64 &&& 63))) hx hb d_MO_type_124 rfl ?_
  refine lv_ldc2 (v := 255) hx hb hown (hts _ k_1004) d_MO_type_125 ?_
  refine lv_land hx hb d_MO_type_128 ?_
  refine W.eq (g2 := F0 m 129 ls [.long (bm x 4), .int 0, .ref f_text]) rfl ?_
  refine lv_l2i (v := (bm x 4).toInt32) hx hb d_MO_type_129 rfl ?_
  refine va_iast hx hb hK hP hD hS 1 0 rfl rfl (show ¬ ((0 : Int32) < 0 ∨ 300 ≤ (0 : Int32).toNatClampNeg) from by decide) d_MO_type_130 (fun H2 locs hP hD hS => ?_)
  have hP : va_P (dC, dI) cls [(m0, .inr (9, [.int 0, .ref f_text, .int 0, .int (-1), .ref f_kinds, .ref f_places, .ref f_values, .int 0, .ref f_draftLetters, .int 0, .int 0, .int 0, .ref f_draftNumbers, .ref f_draftSigns, .int 0, .int 0, .int 0, .int 0, .ref f_letters, .ref f_numbers, .ref f_isList, .ref f_bounds, .ref f_sizes, .ref f_lists, .ref f_told, .ref f_costs, .int 0, .ref f_times, .int 0, .ref f_bestOne, .ref f_basis, .int 0, .ref f_one, .int 0, .ref f_along, .ref f_now])), (f_text, .inl (cX, 300, .inl (upd (fun _ => (0 : Int32)) (0 : Int32).toNatClampNeg (bm x 4).toInt32)))] H2 := hP
  have hD : va_D A [(m0, .inr (9, [.int 0, .ref f_text, .int 0, .int (-1), .ref f_kinds, .ref f_places, .ref f_values, .int 0, .ref f_draftLetters, .int 0, .int 0, .int 0, .ref f_draftNumbers, .ref f_draftSigns, .int 0, .int 0, .int 0, .int 0, .ref f_letters, .ref f_numbers, .ref f_isList, .ref f_bounds, .ref f_sizes, .ref f_lists, .ref f_told, .ref f_costs, .int 0, .ref f_times, .int 0, .ref f_bestOne, .ref f_basis, .int 0, .ref f_one, .int 0, .ref f_along, .ref f_now])), (f_text, .inl (cX, 300, .inl (upd (fun _ => (0 : Int32)) (0 : Int32).toNatClampNeg (bm x 4).toInt32)))] := hD
  refine lv_aload_n hx hb d_MO_type_131 rfl (lv_at hl 3 rfl) ?_
  refine lv_dup hx hb d_MO_type_132 rfl ?_
  refine va_get (D := (dC, dI)) (ci := 9) (v := .int 0) (C := R_MO) (T := T_MO) (N := 36) hx hb hts in_MO hown hK hP 0 rfl rfl 2 (by decide) (hts _ k_888) (fun _ h9 => h9) rfl d_MO_type_133 ?_
  refine lv_iconst (v := 1) hx hb d_MO_type_136 (by decide) ?_
  refine lv_iadd hx hb d_MO_type_137 ?_
  refine W.eq (g2 := F0 m 138 ls [.int 1, .ref m0]) rfl ?_
  refine va_put (D := (dC, dI)) (ci := 9) (v := .int 1) (ty := .int) (C := R_MO) (T := T_MO) (N := 36) hx hb hts in_MO t_MO t_MO_ok n_MO hown hK hP hD hS 0 rfl rfl 2 (by decide) (hts _ k_888) (fun _ h9 => h9) rfl (by decide +kernel) rfl rfl (Nat.le_of_ble_eq_true rfl) d_MO_type_138 (fun H3 locs hP hD hS => ?_)
  have hP : va_P (dC, dI) cls [(m0, .inr (9, [.int 0, .ref f_text, .int 1, .int (-1), .ref f_kinds, .ref f_places, .ref f_values, .int 0, .ref f_draftLetters, .int 0, .int 0, .int 0, .ref f_draftNumbers, .ref f_draftSigns, .int 0, .int 0, .int 0, .int 0, .ref f_letters, .ref f_numbers, .ref f_isList, .ref f_bounds, .ref f_sizes, .ref f_lists, .ref f_told, .ref f_costs, .int 0, .ref f_times, .int 0, .ref f_bestOne, .ref f_basis, .int 0, .ref f_one, .int 0, .ref f_along, .ref f_now])), (f_text, .inl (cX, 300, .inl (upd (fun _ => (0 : Int32)) (0 : Int32).toNatClampNeg (bm x 4).toInt32)))] H3 := hP
  have hD : va_D A [(m0, .inr (9, [.int 0, .ref f_text, .int 1, .int (-1), .ref f_kinds, .ref f_places, .ref f_values, .int 0, .ref f_draftLetters, .int 0, .int 0, .int 0, .ref f_draftNumbers, .ref f_draftSigns, .int 0, .int 0, .int 0, .int 0, .ref f_letters, .ref f_numbers, .ref f_isList, .ref f_bounds, .ref f_sizes, .ref f_lists, .ref f_told, .ref f_costs, .int 0, .ref f_times, .int 0, .ref f_bestOne, .ref f_basis, .int 0, .ref f_one, .int 0, .ref f_along, .ref f_now])), (f_text, .inl (cX, 300, .inl (upd (fun _ => (0 : Int32)) (0 : Int32).toNatClampNeg (bm x 4).toInt32)))] := hD
  refine lv_iinc (k := 0) (v := 3) hx hb d_MO_type_141 hl rfl (by decide) (by decide) rfl (fun ls hl => ?_)
  have hl : lv_has ls 8 [(5, .int 3), (4, .int 1), (6, .long (bm x 4)), (0, .ref m0), (1, .long x), (3, .int 5)] := hl
  refine lv_goto (tgt := 105) hx hb d_MO_type_144 (by decide) ?_
  refine lv_iload hx hb d_MO_type_105 (lv_at hl 0 rfl) ?_
  refine lv_if_lt (tgt := 147) hx hb d_MO_type_107 (by decide) (fun h9 => absurd h9 (by decide)) (fun _ => ?_)
  refine lv_aload_n hx hb d_MO_type_110 rfl (lv_at hl 3 rfl) ?_
  refine va_get (D := (dC, dI)) (ci := 9) (v := .ref f_text) (C := R_MO) (T := T_MO) (N := 36) hx hb hts in_MO hown hK hP 0 rfl rfl 1 (by decide) (hts _ k_887) (fun _ h9 => h9) rfl d_MO_type_111 ?_
  refine lv_aload_n hx hb d_MO_type_114 rfl (lv_at hl 3 rfl) ?_
  refine va_get (D := (dC, dI)) (ci := 9) (v := .int 1) (C := R_MO) (T := T_MO) (N := 36) hx hb hts in_MO hown hK hP 0 rfl rfl 2 (by decide) (hts _ k_888) (fun _ h9 => h9) rfl d_MO_type_115 ?_
  refine lv_lload_n hx hb d_MO_type_118 rfl (lv_at hl 4 rfl) ?_
  refine lv_bipush (v := 8) hx hb d_MO_type_119 (by decide) ?_
  refine lv_iload hx hb d_MO_type_121 (lv_at hl 0 rfl) ?_
  refine lv_imul hx hb d_MO_type_123 ?_
  refine lv_lshr (v := (x >>> (((8 * 3) : Int32).toInt64 &&& 63))) hx hb d_MO_type_124 rfl ?_
  refine lv_ldc2 (v := 255) hx hb hown (hts _ k_1004) d_MO_type_125 ?_
  refine lv_land hx hb d_MO_type_128 ?_
  refine W.eq (g2 := F0 m 129 ls [.long (bm x 3), .int 1, .ref f_text]) rfl ?_
  refine lv_l2i (v := (bm x 3).toInt32) hx hb d_MO_type_129 rfl ?_
  refine va_iast hx hb hK hP hD hS 1 0 rfl rfl (show ¬ ((1 : Int32) < 0 ∨ 300 ≤ (1 : Int32).toNatClampNeg) from by decide) d_MO_type_130 (fun H4 locs hP hD hS => ?_)
  have hP : va_P (dC, dI) cls [(m0, .inr (9, [.int 0, .ref f_text, .int 1, .int (-1), .ref f_kinds, .ref f_places, .ref f_values, .int 0, .ref f_draftLetters, .int 0, .int 0, .int 0, .ref f_draftNumbers, .ref f_draftSigns, .int 0, .int 0, .int 0, .int 0, .ref f_letters, .ref f_numbers, .ref f_isList, .ref f_bounds, .ref f_sizes, .ref f_lists, .ref f_told, .ref f_costs, .int 0, .ref f_times, .int 0, .ref f_bestOne, .ref f_basis, .int 0, .ref f_one, .int 0, .ref f_along, .ref f_now])), (f_text, .inl (cX, 300, .inl (upd (upd (fun _ => (0 : Int32)) (0 : Int32).toNatClampNeg (bm x 4).toInt32) (1 : Int32).toNatClampNeg (bm x 3).toInt32)))] H4 := hP
  have hD : va_D A [(m0, .inr (9, [.int 0, .ref f_text, .int 1, .int (-1), .ref f_kinds, .ref f_places, .ref f_values, .int 0, .ref f_draftLetters, .int 0, .int 0, .int 0, .ref f_draftNumbers, .ref f_draftSigns, .int 0, .int 0, .int 0, .int 0, .ref f_letters, .ref f_numbers, .ref f_isList, .ref f_bounds, .ref f_sizes, .ref f_lists, .ref f_told, .ref f_costs, .int 0, .ref f_times, .int 0, .ref f_bestOne, .ref f_basis, .int 0, .ref f_one, .int 0, .ref f_along, .ref f_now])), (f_text, .inl (cX, 300, .inl (upd (upd (fun _ => (0 : Int32)) (0 : Int32).toNatClampNeg (bm x 4).toInt32) (1 : Int32).toNatClampNeg (bm x 3).toInt32)))] := hD
  refine lv_aload_n hx hb d_MO_type_131 rfl (lv_at hl 3 rfl) ?_
  refine lv_dup hx hb d_MO_type_132 rfl ?_
  refine va_get (D := (dC, dI)) (ci := 9) (v := .int 1) (C := R_MO) (T := T_MO) (N := 36) hx hb hts in_MO hown hK hP 0 rfl rfl 2 (by decide) (hts _ k_888) (fun _ h9 => h9) rfl d_MO_type_133 ?_
  refine lv_iconst (v := 1) hx hb d_MO_type_136 (by decide) ?_
  refine lv_iadd hx hb d_MO_type_137 ?_
  refine W.eq (g2 := F0 m 138 ls [.int 2, .ref m0]) rfl ?_
  refine va_put (D := (dC, dI)) (ci := 9) (v := .int 2) (ty := .int) (C := R_MO) (T := T_MO) (N := 36) hx hb hts in_MO t_MO t_MO_ok n_MO hown hK hP hD hS 0 rfl rfl 2 (by decide) (hts _ k_888) (fun _ h9 => h9) rfl (by decide +kernel) rfl rfl (Nat.le_of_ble_eq_true rfl) d_MO_type_138 (fun H5 locs hP hD hS => ?_)
  have hP : va_P (dC, dI) cls [(m0, .inr (9, [.int 0, .ref f_text, .int 2, .int (-1), .ref f_kinds, .ref f_places, .ref f_values, .int 0, .ref f_draftLetters, .int 0, .int 0, .int 0, .ref f_draftNumbers, .ref f_draftSigns, .int 0, .int 0, .int 0, .int 0, .ref f_letters, .ref f_numbers, .ref f_isList, .ref f_bounds, .ref f_sizes, .ref f_lists, .ref f_told, .ref f_costs, .int 0, .ref f_times, .int 0, .ref f_bestOne, .ref f_basis, .int 0, .ref f_one, .int 0, .ref f_along, .ref f_now])), (f_text, .inl (cX, 300, .inl (upd (upd (fun _ => (0 : Int32)) (0 : Int32).toNatClampNeg (bm x 4).toInt32) (1 : Int32).toNatClampNeg (bm x 3).toInt32)))] H5 := hP
  have hD : va_D A [(m0, .inr (9, [.int 0, .ref f_text, .int 2, .int (-1), .ref f_kinds, .ref f_places, .ref f_values, .int 0, .ref f_draftLetters, .int 0, .int 0, .int 0, .ref f_draftNumbers, .ref f_draftSigns, .int 0, .int 0, .int 0, .int 0, .ref f_letters, .ref f_numbers, .ref f_isList, .ref f_bounds, .ref f_sizes, .ref f_lists, .ref f_told, .ref f_costs, .int 0, .ref f_times, .int 0, .ref f_bestOne, .ref f_basis, .int 0, .ref f_one, .int 0, .ref f_along, .ref f_now])), (f_text, .inl (cX, 300, .inl (upd (upd (fun _ => (0 : Int32)) (0 : Int32).toNatClampNeg (bm x 4).toInt32) (1 : Int32).toNatClampNeg (bm x 3).toInt32)))] := hD
  refine lv_iinc (k := 0) (v := 2) hx hb d_MO_type_141 hl rfl (by decide) (by decide) rfl (fun ls hl => ?_)
  have hl : lv_has ls 8 [(5, .int 2), (4, .int 1), (6, .long (bm x 4)), (0, .ref m0), (1, .long x), (3, .int 5)] := hl
  refine lv_goto (tgt := 105) hx hb d_MO_type_144 (by decide) ?_
  refine lv_iload hx hb d_MO_type_105 (lv_at hl 0 rfl) ?_
  refine lv_if_lt (tgt := 147) hx hb d_MO_type_107 (by decide) (fun h9 => absurd h9 (by decide)) (fun _ => ?_)
  refine lv_aload_n hx hb d_MO_type_110 rfl (lv_at hl 3 rfl) ?_
  refine va_get (D := (dC, dI)) (ci := 9) (v := .ref f_text) (C := R_MO) (T := T_MO) (N := 36) hx hb hts in_MO hown hK hP 0 rfl rfl 1 (by decide) (hts _ k_887) (fun _ h9 => h9) rfl d_MO_type_111 ?_
  refine lv_aload_n hx hb d_MO_type_114 rfl (lv_at hl 3 rfl) ?_
  refine va_get (D := (dC, dI)) (ci := 9) (v := .int 2) (C := R_MO) (T := T_MO) (N := 36) hx hb hts in_MO hown hK hP 0 rfl rfl 2 (by decide) (hts _ k_888) (fun _ h9 => h9) rfl d_MO_type_115 ?_
  refine lv_lload_n hx hb d_MO_type_118 rfl (lv_at hl 4 rfl) ?_
  refine lv_bipush (v := 8) hx hb d_MO_type_119 (by decide) ?_
  refine lv_iload hx hb d_MO_type_121 (lv_at hl 0 rfl) ?_
  refine lv_imul hx hb d_MO_type_123 ?_
  refine lv_lshr (v := (x >>> (((8 * 2) : Int32).toInt64 &&& 63))) hx hb d_MO_type_124 rfl ?_
  refine lv_ldc2 (v := 255) hx hb hown (hts _ k_1004) d_MO_type_125 ?_
  refine lv_land hx hb d_MO_type_128 ?_
  refine W.eq (g2 := F0 m 129 ls [.long (bm x 2), .int 2, .ref f_text]) rfl ?_
  refine lv_l2i (v := (bm x 2).toInt32) hx hb d_MO_type_129 rfl ?_
  refine va_iast hx hb hK hP hD hS 1 0 rfl rfl (show ¬ ((2 : Int32) < 0 ∨ 300 ≤ (2 : Int32).toNatClampNeg) from by decide) d_MO_type_130 (fun H6 locs hP hD hS => ?_)
  have hP : va_P (dC, dI) cls [(m0, .inr (9, [.int 0, .ref f_text, .int 2, .int (-1), .ref f_kinds, .ref f_places, .ref f_values, .int 0, .ref f_draftLetters, .int 0, .int 0, .int 0, .ref f_draftNumbers, .ref f_draftSigns, .int 0, .int 0, .int 0, .int 0, .ref f_letters, .ref f_numbers, .ref f_isList, .ref f_bounds, .ref f_sizes, .ref f_lists, .ref f_told, .ref f_costs, .int 0, .ref f_times, .int 0, .ref f_bestOne, .ref f_basis, .int 0, .ref f_one, .int 0, .ref f_along, .ref f_now])), (f_text, .inl (cX, 300, .inl (upd (upd (upd (fun _ => (0 : Int32)) (0 : Int32).toNatClampNeg (bm x 4).toInt32) (1 : Int32).toNatClampNeg (bm x 3).toInt32) (2 : Int32).toNatClampNeg (bm x 2).toInt32)))] H6 := hP
  have hD : va_D A [(m0, .inr (9, [.int 0, .ref f_text, .int 2, .int (-1), .ref f_kinds, .ref f_places, .ref f_values, .int 0, .ref f_draftLetters, .int 0, .int 0, .int 0, .ref f_draftNumbers, .ref f_draftSigns, .int 0, .int 0, .int 0, .int 0, .ref f_letters, .ref f_numbers, .ref f_isList, .ref f_bounds, .ref f_sizes, .ref f_lists, .ref f_told, .ref f_costs, .int 0, .ref f_times, .int 0, .ref f_bestOne, .ref f_basis, .int 0, .ref f_one, .int 0, .ref f_along, .ref f_now])), (f_text, .inl (cX, 300, .inl (upd (upd (upd (fun _ => (0 : Int32)) (0 : Int32).toNatClampNeg (bm x 4).toInt32) (1 : Int32).toNatClampNeg (bm x 3).toInt32) (2 : Int32).toNatClampNeg (bm x 2).toInt32)))] := hD
  refine lv_aload_n hx hb d_MO_type_131 rfl (lv_at hl 3 rfl) ?_
  refine lv_dup hx hb d_MO_type_132 rfl ?_
  refine va_get (D := (dC, dI)) (ci := 9) (v := .int 2) (C := R_MO) (T := T_MO) (N := 36) hx hb hts in_MO hown hK hP 0 rfl rfl 2 (by decide) (hts _ k_888) (fun _ h9 => h9) rfl d_MO_type_133 ?_
  refine lv_iconst (v := 1) hx hb d_MO_type_136 (by decide) ?_
  refine lv_iadd hx hb d_MO_type_137 ?_
  refine W.eq (g2 := F0 m 138 ls [.int 3, .ref m0]) rfl ?_
  refine va_put (D := (dC, dI)) (ci := 9) (v := .int 3) (ty := .int) (C := R_MO) (T := T_MO) (N := 36) hx hb hts in_MO t_MO t_MO_ok n_MO hown hK hP hD hS 0 rfl rfl 2 (by decide) (hts _ k_888) (fun _ h9 => h9) rfl (by decide +kernel) rfl rfl (Nat.le_of_ble_eq_true rfl) d_MO_type_138 (fun H7 locs hP hD hS => ?_)
  have hP : va_P (dC, dI) cls [(m0, .inr (9, [.int 0, .ref f_text, .int 3, .int (-1), .ref f_kinds, .ref f_places, .ref f_values, .int 0, .ref f_draftLetters, .int 0, .int 0, .int 0, .ref f_draftNumbers, .ref f_draftSigns, .int 0, .int 0, .int 0, .int 0, .ref f_letters, .ref f_numbers, .ref f_isList, .ref f_bounds, .ref f_sizes, .ref f_lists, .ref f_told, .ref f_costs, .int 0, .ref f_times, .int 0, .ref f_bestOne, .ref f_basis, .int 0, .ref f_one, .int 0, .ref f_along, .ref f_now])), (f_text, .inl (cX, 300, .inl (upd (upd (upd (fun _ => (0 : Int32)) (0 : Int32).toNatClampNeg (bm x 4).toInt32) (1 : Int32).toNatClampNeg (bm x 3).toInt32) (2 : Int32).toNatClampNeg (bm x 2).toInt32)))] H7 := hP
  have hD : va_D A [(m0, .inr (9, [.int 0, .ref f_text, .int 3, .int (-1), .ref f_kinds, .ref f_places, .ref f_values, .int 0, .ref f_draftLetters, .int 0, .int 0, .int 0, .ref f_draftNumbers, .ref f_draftSigns, .int 0, .int 0, .int 0, .int 0, .ref f_letters, .ref f_numbers, .ref f_isList, .ref f_bounds, .ref f_sizes, .ref f_lists, .ref f_told, .ref f_costs, .int 0, .ref f_times, .int 0, .ref f_bestOne, .ref f_basis, .int 0, .ref f_one, .int 0, .ref f_along, .ref f_now])), (f_text, .inl (cX, 300, .inl (upd (upd (upd (fun _ => (0 : Int32)) (0 : Int32).toNatClampNeg (bm x 4).toInt32) (1 : Int32).toNatClampNeg (bm x 3).toInt32) (2 : Int32).toNatClampNeg (bm x 2).toInt32)))] := hD
  refine lv_iinc (k := 0) (v := 1) hx hb d_MO_type_141 hl rfl (by decide) (by decide) rfl (fun ls hl => ?_)
  have hl : lv_has ls 8 [(5, .int 1), (4, .int 1), (6, .long (bm x 4)), (0, .ref m0), (1, .long x), (3, .int 5)] := hl
  refine lv_goto (tgt := 105) hx hb d_MO_type_144 (by decide) ?_
  refine lv_iload hx hb d_MO_type_105 (lv_at hl 0 rfl) ?_
  refine lv_if_lt (tgt := 147) hx hb d_MO_type_107 (by decide) (fun h9 => absurd h9 (by decide)) (fun _ => ?_)
  refine lv_aload_n hx hb d_MO_type_110 rfl (lv_at hl 3 rfl) ?_
  refine va_get (D := (dC, dI)) (ci := 9) (v := .ref f_text) (C := R_MO) (T := T_MO) (N := 36) hx hb hts in_MO hown hK hP 0 rfl rfl 1 (by decide) (hts _ k_887) (fun _ h9 => h9) rfl d_MO_type_111 ?_
  refine lv_aload_n hx hb d_MO_type_114 rfl (lv_at hl 3 rfl) ?_
  refine va_get (D := (dC, dI)) (ci := 9) (v := .int 3) (C := R_MO) (T := T_MO) (N := 36) hx hb hts in_MO hown hK hP 0 rfl rfl 2 (by decide) (hts _ k_888) (fun _ h9 => h9) rfl d_MO_type_115 ?_
  refine lv_lload_n hx hb d_MO_type_118 rfl (lv_at hl 4 rfl) ?_
  refine lv_bipush (v := 8) hx hb d_MO_type_119 (by decide) ?_
  refine lv_iload hx hb d_MO_type_121 (lv_at hl 0 rfl) ?_
  refine lv_imul hx hb d_MO_type_123 ?_
  refine lv_lshr (v := (x >>> (((8 * 1) : Int32).toInt64 &&& 63))) hx hb d_MO_type_124 rfl ?_
  refine lv_ldc2 (v := 255) hx hb hown (hts _ k_1004) d_MO_type_125 ?_
  refine lv_land hx hb d_MO_type_128 ?_
  refine W.eq (g2 := F0 m 129 ls [.long (bm x 1), .int 3, .ref f_text]) rfl ?_
  refine lv_l2i (v := (bm x 1).toInt32) hx hb d_MO_type_129 rfl ?_
  refine va_iast hx hb hK hP hD hS 1 0 rfl rfl (show ¬ ((3 : Int32) < 0 ∨ 300 ≤ (3 : Int32).toNatClampNeg) from by decide) d_MO_type_130 (fun H8 locs hP hD hS => ?_)
  have hP : va_P (dC, dI) cls [(m0, .inr (9, [.int 0, .ref f_text, .int 3, .int (-1), .ref f_kinds, .ref f_places, .ref f_values, .int 0, .ref f_draftLetters, .int 0, .int 0, .int 0, .ref f_draftNumbers, .ref f_draftSigns, .int 0, .int 0, .int 0, .int 0, .ref f_letters, .ref f_numbers, .ref f_isList, .ref f_bounds, .ref f_sizes, .ref f_lists, .ref f_told, .ref f_costs, .int 0, .ref f_times, .int 0, .ref f_bestOne, .ref f_basis, .int 0, .ref f_one, .int 0, .ref f_along, .ref f_now])), (f_text, .inl (cX, 300, .inl (upd (upd (upd (upd (fun _ => (0 : Int32)) (0 : Int32).toNatClampNeg (bm x 4).toInt32) (1 : Int32).toNatClampNeg (bm x 3).toInt32) (2 : Int32).toNatClampNeg (bm x 2).toInt32) (3 : Int32).toNatClampNeg (bm x 1).toInt32)))] H8 := hP
  have hD : va_D A [(m0, .inr (9, [.int 0, .ref f_text, .int 3, .int (-1), .ref f_kinds, .ref f_places, .ref f_values, .int 0, .ref f_draftLetters, .int 0, .int 0, .int 0, .ref f_draftNumbers, .ref f_draftSigns, .int 0, .int 0, .int 0, .int 0, .ref f_letters, .ref f_numbers, .ref f_isList, .ref f_bounds, .ref f_sizes, .ref f_lists, .ref f_told, .ref f_costs, .int 0, .ref f_times, .int 0, .ref f_bestOne, .ref f_basis, .int 0, .ref f_one, .int 0, .ref f_along, .ref f_now])), (f_text, .inl (cX, 300, .inl (upd (upd (upd (upd (fun _ => (0 : Int32)) (0 : Int32).toNatClampNeg (bm x 4).toInt32) (1 : Int32).toNatClampNeg (bm x 3).toInt32) (2 : Int32).toNatClampNeg (bm x 2).toInt32) (3 : Int32).toNatClampNeg (bm x 1).toInt32)))] := hD
  refine lv_aload_n hx hb d_MO_type_131 rfl (lv_at hl 3 rfl) ?_
  refine lv_dup hx hb d_MO_type_132 rfl ?_
  refine va_get (D := (dC, dI)) (ci := 9) (v := .int 3) (C := R_MO) (T := T_MO) (N := 36) hx hb hts in_MO hown hK hP 0 rfl rfl 2 (by decide) (hts _ k_888) (fun _ h9 => h9) rfl d_MO_type_133 ?_
  refine lv_iconst (v := 1) hx hb d_MO_type_136 (by decide) ?_
  refine lv_iadd hx hb d_MO_type_137 ?_
  refine W.eq (g2 := F0 m 138 ls [.int 4, .ref m0]) rfl ?_
  refine va_put (D := (dC, dI)) (ci := 9) (v := .int 4) (ty := .int) (C := R_MO) (T := T_MO) (N := 36) hx hb hts in_MO t_MO t_MO_ok n_MO hown hK hP hD hS 0 rfl rfl 2 (by decide) (hts _ k_888) (fun _ h9 => h9) rfl (by decide +kernel) rfl rfl (Nat.le_of_ble_eq_true rfl) d_MO_type_138 (fun H9 locs hP hD hS => ?_)
  have hP : va_P (dC, dI) cls [(m0, .inr (9, [.int 0, .ref f_text, .int 4, .int (-1), .ref f_kinds, .ref f_places, .ref f_values, .int 0, .ref f_draftLetters, .int 0, .int 0, .int 0, .ref f_draftNumbers, .ref f_draftSigns, .int 0, .int 0, .int 0, .int 0, .ref f_letters, .ref f_numbers, .ref f_isList, .ref f_bounds, .ref f_sizes, .ref f_lists, .ref f_told, .ref f_costs, .int 0, .ref f_times, .int 0, .ref f_bestOne, .ref f_basis, .int 0, .ref f_one, .int 0, .ref f_along, .ref f_now])), (f_text, .inl (cX, 300, .inl (upd (upd (upd (upd (fun _ => (0 : Int32)) (0 : Int32).toNatClampNeg (bm x 4).toInt32) (1 : Int32).toNatClampNeg (bm x 3).toInt32) (2 : Int32).toNatClampNeg (bm x 2).toInt32) (3 : Int32).toNatClampNeg (bm x 1).toInt32)))] H9 := hP
  have hD : va_D A [(m0, .inr (9, [.int 0, .ref f_text, .int 4, .int (-1), .ref f_kinds, .ref f_places, .ref f_values, .int 0, .ref f_draftLetters, .int 0, .int 0, .int 0, .ref f_draftNumbers, .ref f_draftSigns, .int 0, .int 0, .int 0, .int 0, .ref f_letters, .ref f_numbers, .ref f_isList, .ref f_bounds, .ref f_sizes, .ref f_lists, .ref f_told, .ref f_costs, .int 0, .ref f_times, .int 0, .ref f_bestOne, .ref f_basis, .int 0, .ref f_one, .int 0, .ref f_along, .ref f_now])), (f_text, .inl (cX, 300, .inl (upd (upd (upd (upd (fun _ => (0 : Int32)) (0 : Int32).toNatClampNeg (bm x 4).toInt32) (1 : Int32).toNatClampNeg (bm x 3).toInt32) (2 : Int32).toNatClampNeg (bm x 2).toInt32) (3 : Int32).toNatClampNeg (bm x 1).toInt32)))] := hD
  refine lv_iinc (k := 0) (v := 0) hx hb d_MO_type_141 hl rfl (by decide) (by decide) rfl (fun ls hl => ?_)
  have hl : lv_has ls 8 [(5, .int 0), (4, .int 1), (6, .long (bm x 4)), (0, .ref m0), (1, .long x), (3, .int 5)] := hl
  refine lv_goto (tgt := 105) hx hb d_MO_type_144 (by decide) ?_
  refine lv_iload hx hb d_MO_type_105 (lv_at hl 0 rfl) ?_
  refine lv_if_lt (tgt := 147) hx hb d_MO_type_107 (by decide) (fun h9 => absurd h9 (by decide)) (fun _ => ?_)
  refine lv_aload_n hx hb d_MO_type_110 rfl (lv_at hl 3 rfl) ?_
  refine va_get (D := (dC, dI)) (ci := 9) (v := .ref f_text) (C := R_MO) (T := T_MO) (N := 36) hx hb hts in_MO hown hK hP 0 rfl rfl 1 (by decide) (hts _ k_887) (fun _ h9 => h9) rfl d_MO_type_111 ?_
  refine lv_aload_n hx hb d_MO_type_114 rfl (lv_at hl 3 rfl) ?_
  refine va_get (D := (dC, dI)) (ci := 9) (v := .int 4) (C := R_MO) (T := T_MO) (N := 36) hx hb hts in_MO hown hK hP 0 rfl rfl 2 (by decide) (hts _ k_888) (fun _ h9 => h9) rfl d_MO_type_115 ?_
  refine lv_lload_n hx hb d_MO_type_118 rfl (lv_at hl 4 rfl) ?_
  refine lv_bipush (v := 8) hx hb d_MO_type_119 (by decide) ?_
  refine lv_iload hx hb d_MO_type_121 (lv_at hl 0 rfl) ?_
  refine lv_imul hx hb d_MO_type_123 ?_
  refine lv_lshr (v := (x >>> (((8 * 0) : Int32).toInt64 &&& 63))) hx hb d_MO_type_124 rfl ?_
  refine lv_ldc2 (v := 255) hx hb hown (hts _ k_1004) d_MO_type_125 ?_
  refine lv_land hx hb d_MO_type_128 ?_
  refine W.eq (g2 := F0 m 129 ls [.long (bm x 0), .int 4, .ref f_text]) rfl ?_
  refine lv_l2i (v := (bm x 0).toInt32) hx hb d_MO_type_129 rfl ?_
  refine va_iast hx hb hK hP hD hS 1 0 rfl rfl (show ¬ ((4 : Int32) < 0 ∨ 300 ≤ (4 : Int32).toNatClampNeg) from by decide) d_MO_type_130 (fun H10 locs hP hD hS => ?_)
  have hP : va_P (dC, dI) cls [(m0, .inr (9, [.int 0, .ref f_text, .int 4, .int (-1), .ref f_kinds, .ref f_places, .ref f_values, .int 0, .ref f_draftLetters, .int 0, .int 0, .int 0, .ref f_draftNumbers, .ref f_draftSigns, .int 0, .int 0, .int 0, .int 0, .ref f_letters, .ref f_numbers, .ref f_isList, .ref f_bounds, .ref f_sizes, .ref f_lists, .ref f_told, .ref f_costs, .int 0, .ref f_times, .int 0, .ref f_bestOne, .ref f_basis, .int 0, .ref f_one, .int 0, .ref f_along, .ref f_now])), (f_text, .inl (cX, 300, .inl (upd (upd (upd (upd (upd (fun _ => (0 : Int32)) (0 : Int32).toNatClampNeg (bm x 4).toInt32) (1 : Int32).toNatClampNeg (bm x 3).toInt32) (2 : Int32).toNatClampNeg (bm x 2).toInt32) (3 : Int32).toNatClampNeg (bm x 1).toInt32) (4 : Int32).toNatClampNeg (bm x 0).toInt32)))] H10 := hP
  have hD : va_D A [(m0, .inr (9, [.int 0, .ref f_text, .int 4, .int (-1), .ref f_kinds, .ref f_places, .ref f_values, .int 0, .ref f_draftLetters, .int 0, .int 0, .int 0, .ref f_draftNumbers, .ref f_draftSigns, .int 0, .int 0, .int 0, .int 0, .ref f_letters, .ref f_numbers, .ref f_isList, .ref f_bounds, .ref f_sizes, .ref f_lists, .ref f_told, .ref f_costs, .int 0, .ref f_times, .int 0, .ref f_bestOne, .ref f_basis, .int 0, .ref f_one, .int 0, .ref f_along, .ref f_now])), (f_text, .inl (cX, 300, .inl (upd (upd (upd (upd (upd (fun _ => (0 : Int32)) (0 : Int32).toNatClampNeg (bm x 4).toInt32) (1 : Int32).toNatClampNeg (bm x 3).toInt32) (2 : Int32).toNatClampNeg (bm x 2).toInt32) (3 : Int32).toNatClampNeg (bm x 1).toInt32) (4 : Int32).toNatClampNeg (bm x 0).toInt32)))] := hD
  refine lv_aload_n hx hb d_MO_type_131 rfl (lv_at hl 3 rfl) ?_
  refine lv_dup hx hb d_MO_type_132 rfl ?_
  refine va_get (D := (dC, dI)) (ci := 9) (v := .int 4) (C := R_MO) (T := T_MO) (N := 36) hx hb hts in_MO hown hK hP 0 rfl rfl 2 (by decide) (hts _ k_888) (fun _ h9 => h9) rfl d_MO_type_133 ?_
  refine lv_iconst (v := 1) hx hb d_MO_type_136 (by decide) ?_
  refine lv_iadd hx hb d_MO_type_137 ?_
  refine W.eq (g2 := F0 m 138 ls [.int 5, .ref m0]) rfl ?_
  refine va_put (D := (dC, dI)) (ci := 9) (v := .int 5) (ty := .int) (C := R_MO) (T := T_MO) (N := 36) hx hb hts in_MO t_MO t_MO_ok n_MO hown hK hP hD hS 0 rfl rfl 2 (by decide) (hts _ k_888) (fun _ h9 => h9) rfl (by decide +kernel) rfl rfl (Nat.le_of_ble_eq_true rfl) d_MO_type_138 (fun H11 locs hP hD hS => ?_)
  have hP : va_P (dC, dI) cls [(m0, .inr (9, [.int 0, .ref f_text, .int 5, .int (-1), .ref f_kinds, .ref f_places, .ref f_values, .int 0, .ref f_draftLetters, .int 0, .int 0, .int 0, .ref f_draftNumbers, .ref f_draftSigns, .int 0, .int 0, .int 0, .int 0, .ref f_letters, .ref f_numbers, .ref f_isList, .ref f_bounds, .ref f_sizes, .ref f_lists, .ref f_told, .ref f_costs, .int 0, .ref f_times, .int 0, .ref f_bestOne, .ref f_basis, .int 0, .ref f_one, .int 0, .ref f_along, .ref f_now])), (f_text, .inl (cX, 300, .inl (upd (upd (upd (upd (upd (fun _ => (0 : Int32)) (0 : Int32).toNatClampNeg (bm x 4).toInt32) (1 : Int32).toNatClampNeg (bm x 3).toInt32) (2 : Int32).toNatClampNeg (bm x 2).toInt32) (3 : Int32).toNatClampNeg (bm x 1).toInt32) (4 : Int32).toNatClampNeg (bm x 0).toInt32)))] H11 := hP
  have hD : va_D A [(m0, .inr (9, [.int 0, .ref f_text, .int 5, .int (-1), .ref f_kinds, .ref f_places, .ref f_values, .int 0, .ref f_draftLetters, .int 0, .int 0, .int 0, .ref f_draftNumbers, .ref f_draftSigns, .int 0, .int 0, .int 0, .int 0, .ref f_letters, .ref f_numbers, .ref f_isList, .ref f_bounds, .ref f_sizes, .ref f_lists, .ref f_told, .ref f_costs, .int 0, .ref f_times, .int 0, .ref f_bestOne, .ref f_basis, .int 0, .ref f_one, .int 0, .ref f_along, .ref f_now])), (f_text, .inl (cX, 300, .inl (upd (upd (upd (upd (upd (fun _ => (0 : Int32)) (0 : Int32).toNatClampNeg (bm x 4).toInt32) (1 : Int32).toNatClampNeg (bm x 3).toInt32) (2 : Int32).toNatClampNeg (bm x 2).toInt32) (3 : Int32).toNatClampNeg (bm x 1).toInt32) (4 : Int32).toNatClampNeg (bm x 0).toInt32)))] := hD
  refine lv_iinc (k := 0) (v := (-1)) hx hb d_MO_type_141 hl rfl (by decide) (by decide) rfl (fun ls hl => ?_)
  have hl : lv_has ls 8 [(5, .int (-1)), (4, .int 1), (6, .long (bm x 4)), (0, .ref m0), (1, .long x), (3, .int 5)] := hl
  refine lv_goto (tgt := 105) hx hb d_MO_type_144 (by decide) ?_
  refine lv_iload hx hb d_MO_type_105 (lv_at hl 0 rfl) ?_
  refine lv_if_lt (tgt := 147) hx hb d_MO_type_107 (by decide) (fun _ => ?_) (fun h9 => absurd (by decide) h9)
  refine lv_aload_n hx hb d_MO_type_147 rfl (lv_at hl 3 rfl) ?_
  refine va_get (D := (dC, dI)) (ci := 9) (v := .int 5) (C := R_MO) (T := T_MO) (N := 36) hx hb hts in_MO hown hK hP 0 rfl rfl 2 (by decide) (hts _ k_888) (fun _ h9 => h9) rfl d_MO_type_148 ?_
  have hP9 := hP.sub (ws' := [(m0, .inr (9, [.int 0, .ref f_text, .int 5, .int (-1), .ref f_kinds, .ref f_places, .ref f_values, .int 0, .ref f_draftLetters, .int 0, .int 0, .int 0, .ref f_draftNumbers, .ref f_draftSigns, .int 0, .int 0, .int 0, .int 0, .ref f_letters, .ref f_numbers, .ref f_isList, .ref f_bounds, .ref f_sizes, .ref f_lists, .ref f_told, .ref f_costs, .int 0, .ref f_times, .int 0, .ref f_bestOne, .ref f_basis, .int 0, .ref f_one, .int 0, .ref f_along, .ref f_now]))]) [0] rfl
  have hD9 := hD.sub (ws' := [(m0, .inr (9, [.int 0, .ref f_text, .int 5, .int (-1), .ref f_kinds, .ref f_places, .ref f_values, .int 0, .ref f_draftLetters, .int 0, .int 0, .int 0, .ref f_draftNumbers, .ref f_draftSigns, .int 0, .int 0, .int 0, .int 0, .ref f_letters, .ref f_numbers, .ref f_isList, .ref f_bounds, .ref f_sizes, .ref f_lists, .ref f_told, .ref f_costs, .int 0, .ref f_times, .int 0, .ref f_bestOne, .ref f_basis, .int 0, .ref f_one, .int 0, .ref f_along, .ref f_now]))]) [0] (by decide) rfl
  have hK9 := hK.sub (tys' := [(cX, .int)]) [0] rfl
  exact W.iret (v := 5) hx hb hr (fun t ht hW => ⟨⟨5, (), rfl, rfl, by rw [ht]; exact hP9, va_K.moved hW.alike hK9, hD9⟩, hS.F ht⟩) hS.2.2 d_MO_type_151

set_option maxHeartbeats 4000000 in
set_option maxRecDepth 100000 in
theorem c_MO_type_5n (l : Launch) (dC : Nat → ClassId) (dI : Nat → Nat → Nat) (m0 : Nat) (f_text : Nat) (f_kinds : Nat) (f_places : Nat) (f_values : Nat) (f_draftLetters : Nat) (f_draftNumbers : Nat) (f_draftSigns : Nat) (f_letters : Nat) (f_numbers : Nat) (f_isList : Nat) (f_bounds : Nat) (f_sizes : Nat) (f_lists : Nat) (f_told : Nat) (f_costs : Nat) (f_times : Nat) (f_bestOne : Nat) (f_basis : Nat) (f_one : Nat) (f_along : Nat) (f_now : Nat) (th : Int32) (x : Int64) (sz : Nat) (g : ¬ (ok x 0 ∧ ok x 8 ∧ ok x 16 ∧ ok x 24 ∧ ok x 32)) : Met l y_MO_type (Cond.code y_MO_type b_MO_type 8 (Option.some Jvm.ClassFile.FieldType.int) :: wd) { frames := 0, cells := 0, slots := 0, locals := 0 } (va_Pc [.ref m0, .long x, .int 5] (fun U => U.heap.size = sz ∧ va_P (dC, dI) cls [(m0, .inr (9, [.int th, .ref f_text, .int 0, .int (-1), .ref f_kinds, .ref f_places, .ref f_values, .int 0, .ref f_draftLetters, .int 0, .int 0, .int 0, .ref f_draftNumbers, .ref f_draftSigns, .int 0, .int 0, .int 0, .int 0, .ref f_letters, .ref f_numbers, .ref f_isList, .ref f_bounds, .ref f_sizes, .ref f_lists, .ref f_told, .ref f_costs, .int 0, .ref f_times, .int 0, .ref f_bestOne, .ref f_basis, .int 0, .ref f_one, .int 0, .ref f_along, .ref f_now]))] U.heap ∧ va_K (dC, dI) cls [] U ∧ va_D (fun _ => True) [(m0, .inr (9, [.int th, .ref f_text, .int 0, .int (-1), .ref f_kinds, .ref f_places, .ref f_values, .int 0, .ref f_draftLetters, .int 0, .int 0, .int 0, .ref f_draftNumbers, .ref f_draftSigns, .int 0, .int 0, .int 0, .int 0, .ref f_letters, .ref f_numbers, .ref f_isList, .ref f_bounds, .ref f_sizes, .ref f_lists, .ref f_told, .ref f_costs, .int 0, .ref f_times, .int 0, .ref f_bestOne, .ref f_basis, .int 0, .ref f_one, .int 0, .ref f_along, .ref f_now]))] ∧ nw_ok U)) (va_Qi (fun r (_ : Unit) => r = (-1)) (fun (_ : Unit) t => va_P (dC, dI) cls [(m0, .inr (9, [.int 0, .ref f_text, .int 0, .int (-1), .ref f_kinds, .ref f_places, .ref f_values, .int 0, .ref f_draftLetters, .int 0, .int 0, .int 0, .ref f_draftNumbers, .ref f_draftSigns, .int 0, .int 0, .int 0, .int 0, .ref f_letters, .ref f_numbers, .ref f_isList, .ref f_bounds, .ref f_sizes, .ref f_lists, .ref f_told, .ref f_costs, .int 0, .ref f_times, .int 0, .ref f_bestOne, .ref f_basis, .int 0, .ref f_one, .int 0, .ref f_along, .ref f_now]))] t.heap ∧ va_K (dC, dI) cls [] t ∧ va_D (va_A [(m0, .inr (9, [.int th, .ref f_text, .int 0, .int (-1), .ref f_kinds, .ref f_places, .ref f_values, .int 0, .ref f_draftLetters, .int 0, .int 0, .int 0, .ref f_draftNumbers, .ref f_draftSigns, .int 0, .int 0, .int 0, .int 0, .ref f_letters, .ref f_numbers, .ref f_isList, .ref f_bounds, .ref f_sizes, .ref f_lists, .ref f_told, .ref f_costs, .int 0, .ref f_times, .int 0, .ref f_bestOne, .ref f_basis, .int 0, .ref f_one, .int 0, .ref f_along, .ref f_now]))] sz) [(m0, .inr (9, [.int 0, .ref f_text, .int 0, .int (-1), .ref f_kinds, .ref f_places, .ref f_values, .int 0, .ref f_draftLetters, .int 0, .int 0, .int 0, .ref f_draftNumbers, .ref f_draftSigns, .int 0, .int 0, .int 0, .int 0, .ref f_letters, .ref f_numbers, .ref f_isList, .ref f_bounds, .ref f_sizes, .ref f_lists, .ref f_told, .ref f_costs, .int 0, .ref f_times, .int 0, .ref f_bestOne, .ref f_basis, .int 0, .ref f_one, .int 0, .ref f_along, .ref f_now]))]) (va_A [(m0, .inr (9, [.int th, .ref f_text, .int 0, .int (-1), .ref f_kinds, .ref f_places, .ref f_values, .int 0, .ref f_draftLetters, .int 0, .int 0, .int 0, .ref f_draftNumbers, .ref f_draftSigns, .int 0, .int 0, .int 0, .int 0, .ref f_letters, .ref f_numbers, .ref f_isList, .ref f_bounds, .ref f_sizes, .ref f_lists, .ref f_told, .ref f_costs, .int 0, .ref f_times, .int 0, .ref f_bestOne, .ref f_basis, .int 0, .ref f_one, .int 0, .ref f_along, .ref f_now]))] sz)) 0 0 (va_A [(m0, .inr (9, [.int th, .ref f_text, .int 0, .int (-1), .ref f_kinds, .ref f_places, .ref f_values, .int 0, .ref f_draftLetters, .int 0, .int 0, .int 0, .ref f_draftNumbers, .ref f_draftSigns, .int 0, .int 0, .int 0, .int 0, .ref f_letters, .ref f_numbers, .ref f_isList, .ref f_bounds, .ref f_sizes, .ref f_lists, .ref f_told, .ref f_costs, .int 0, .ref f_times, .int 0, .ref f_bestOne, .ref f_basis, .int 0, .ref f_one, .int 0, .ref f_along, .ref f_now]))] sz) := by
  refine Met.ofW (cc := b_MO_type) (maxL := 8) (ret := (Option.some Jvm.ClassFile.FieldType.int)) (by decide) rfl ?_
  intro p e s m args below meth c s₁ B hml hv
  obtain ⟨rfl, hsz, hP, hK, hD0, hN⟩ := hv
  have hx := B.exec
  have hb := B.bytes
  have hr := B.returns
  have hlocks := B.notSynchronized
  have hts : ∀ w ∈ wd, w.before ([.ref m0, .long x, .int 5] : List Value).toArray s = true := fun w hw => atoms_spec (ws := (Cond.code y_MO_type b_MO_type 8 (Option.some Jvm.ClassFile.FieldType.int) :: wd)) B.pre w (List.mem_cons_of_mem _ hw)
  have hown : s.vm.findClass "LeastSolutionsModel" = some m.cls := findClass_of_methodNamed B.named
  subst hsz
  have hD := hD0.self (sz := s.heap.size)
  generalize hAe : va_A [(m0, .inr (9, [.int th, .ref f_text, .int 0, .int (-1), .ref f_kinds, .ref f_places, .ref f_values, .int 0, .ref f_draftLetters, .int 0, .int 0, .int 0, .ref f_draftNumbers, .ref f_draftSigns, .int 0, .int 0, .int 0, .int 0, .ref f_letters, .ref f_numbers, .ref f_isList, .ref f_bounds, .ref f_sizes, .ref f_lists, .ref f_told, .ref f_costs, .int 0, .ref f_times, .int 0, .ref f_bestOne, .ref f_basis, .int 0, .ref f_one, .int 0, .ref f_along, .ref f_now]))] s.heap.size = A at hD ⊢
  have hA : ∀ q : Nat, s.heap.size ≤ q → A q := fun q h => by rw [← hAe]; exact Or.inr h
  have hS : va_S A s.heap s.heap [] := va_S.rf
  have hl := lv_entry ([.ref m0, .long x, .int 5]) (n := 8) (Nat.le_of_ble_eq_true rfl)
  rw [lg_entry_eq]
  generalize (lg_sl ([.ref m0, .long x, .int 5]) ++ List.replicate (8 - (lg_sl ([.ref m0, .long x, .int 5])).length) Slot.unset).toArray = ls at hl ⊢
  have hl : lv_has ls 8 [(0, .ref m0), (1, .long x), (3, .int 5)] := hl
  refine lv_aload_n hx hb d_MO_type_0 rfl (lv_at hl 0 rfl) ?_
  refine lv_iconst (v := 0) hx hb d_MO_type_1 (by decide) ?_
  refine va_put (D := (dC, dI)) (ci := 9) (v := .int 0) (ty := .int) (C := R_MO) (T := T_MO) (N := 36) hx hb hts in_MO t_MO t_MO_ok n_MO hown hK hP hD hS 0 rfl rfl 0 (by decide) (hts _ k_886) (fun _ h9 => h9) rfl (by decide +kernel) rfl rfl (Nat.le_of_ble_eq_true rfl) d_MO_type_2 (fun H1 locs hP hD hS => ?_)
  have hP : va_P (dC, dI) cls [(m0, .inr (9, [.int 0, .ref f_text, .int 0, .int (-1), .ref f_kinds, .ref f_places, .ref f_values, .int 0, .ref f_draftLetters, .int 0, .int 0, .int 0, .ref f_draftNumbers, .ref f_draftSigns, .int 0, .int 0, .int 0, .int 0, .ref f_letters, .ref f_numbers, .ref f_isList, .ref f_bounds, .ref f_sizes, .ref f_lists, .ref f_told, .ref f_costs, .int 0, .ref f_times, .int 0, .ref f_bestOne, .ref f_basis, .int 0, .ref f_one, .int 0, .ref f_along, .ref f_now]))] H1 := hP
  have hD : va_D A [(m0, .inr (9, [.int 0, .ref f_text, .int 0, .int (-1), .ref f_kinds, .ref f_places, .ref f_values, .int 0, .ref f_draftLetters, .int 0, .int 0, .int 0, .ref f_draftNumbers, .ref f_draftSigns, .int 0, .int 0, .int 0, .int 0, .ref f_letters, .ref f_numbers, .ref f_isList, .ref f_bounds, .ref f_sizes, .ref f_lists, .ref f_told, .ref f_costs, .int 0, .ref f_times, .int 0, .ref f_bestOne, .ref f_basis, .int 0, .ref f_one, .int 0, .ref f_along, .ref f_now]))] := hD
  refine lv_iload_n hx hb d_MO_type_5 rfl (lv_at hl 2 rfl) ?_
  refine lv_iconst (v := 1) hx hb d_MO_type_6 (by decide) ?_
  refine lv_icmp_lt (tgt := 32) hx hb d_MO_type_7 (by decide) (fun h9 => absurd h9 (by decide)) (fun _ => ?_)
  refine lv_iload_n hx hb d_MO_type_10 rfl (lv_at hl 2 rfl) ?_
  refine lv_bipush (v := 8) hx hb d_MO_type_11 (by decide) ?_
  refine lv_icmp_gt (tgt := 32) hx hb d_MO_type_13 (by decide) (fun h9 => absurd h9 (by decide)) (fun _ => ?_)
  refine lv_aload_n hx hb d_MO_type_16 rfl (lv_at hl 0 rfl) ?_
  refine va_get (D := (dC, dI)) (ci := 9) (v := .int 0) (C := R_MO) (T := T_MO) (N := 36) hx hb hts in_MO hown hK hP 0 rfl rfl 2 (by decide) (hts _ k_888) (fun _ h9 => h9) rfl d_MO_type_17 ?_
  refine lv_iload_n hx hb d_MO_type_20 rfl (lv_at hl 2 rfl) ?_
  refine lv_iadd hx hb d_MO_type_21 ?_
  refine W.eq (g2 := F0 m 22 ls [.int 5]) rfl ?_
  refine lv_sipush (v := 300) hx hb d_MO_type_22 (by decide) ?_
  refine lv_icmp_gt (tgt := 32) hx hb d_MO_type_25 (by decide) (fun h9 => absurd h9 (by decide)) (fun _ => ?_)
  refine lv_iconst (v := 1) hx hb d_MO_type_28 (by decide) ?_
  refine lv_goto (tgt := 33) hx hb d_MO_type_29 (by decide) ?_
  refine lv_istore hx hb d_MO_type_33 hl (by decide) rfl (fun ls hl => ?_)
  have hl : lv_has ls 8 [(4, .int 1), (0, .ref m0), (1, .long x), (3, .int 5)] := hl
  refine lv_iconst (v := 0) hx hb d_MO_type_35 (by decide) ?_
  refine lv_istore hx hb d_MO_type_36 hl (by decide) rfl (fun ls hl => ?_)
  have hl : lv_has ls 8 [(5, .int 0), (4, .int 1), (0, .ref m0), (1, .long x), (3, .int 5)] := hl
  refine lv_iload hx hb d_MO_type_38 (lv_at hl 1 rfl) ?_
  refine lv_if_eq (tgt := 93) hx hb d_MO_type_40 (by decide) (fun h9 => absurd h9 (by decide)) (fun _ => ?_)
  refine lv_iload hx hb d_MO_type_43 (lv_at hl 0 rfl) ?_
  refine lv_iload_n hx hb d_MO_type_45 rfl (lv_at hl 4 rfl) ?_
  refine lv_icmp_ge (tgt := 93) hx hb d_MO_type_46 (by decide) (fun h9 => absurd h9 (by decide)) (fun _ => ?_)
  refine lv_lload_n hx hb d_MO_type_49 rfl (lv_at hl 3 rfl) ?_
  refine lv_bipush (v := 8) hx hb d_MO_type_50 (by decide) ?_
  refine lv_iload hx hb d_MO_type_52 (lv_at hl 0 rfl) ?_
  refine lv_imul hx hb d_MO_type_54 ?_
  refine lv_lshr (v := (x >>> (((8 * 0) : Int32).toInt64 &&& 63))) hx hb d_MO_type_55 rfl ?_
  refine lv_ldc2 (v := 255) hx hb hown (hts _ k_1004) d_MO_type_56 ?_
  refine lv_land hx hb d_MO_type_59 ?_
  refine W.eq (g2 := F0 m 60 ls [.long (bm x 0)]) rfl ?_
  refine lv_lstore hx hb d_MO_type_60 hl (by decide) rfl (fun ls hl => ?_)
  have hl : lv_has ls 8 [(6, .long (bm x 0)), (5, .int 0), (4, .int 1), (0, .ref m0), (1, .long x), (3, .int 5)] := hl
  refine lv_lload hx hb d_MO_type_62 (lv_at hl 0 rfl) ?_
  refine lv_ldc2 (v := 32) hx hb hown (hts _ k_1005) d_MO_type_64 ?_
  refine W.lcmp hx hb d_MO_type_67 ?_
  refine lv_if_lt (tgt := 84) hx hb d_MO_type_68 (by decide) (fun hc1 => ?_) (fun hc1 => ?_)
  · refine lv_iconst (v := 0) hx hb d_MO_type_84 (by decide) ?_
    refine lv_istore hx hb d_MO_type_85 hl (by decide) rfl (fun ls hl => ?_)
    have hl : lv_has ls 8 [(4, .int 0), (6, .long (bm x 0)), (5, .int 0), (0, .ref m0), (1, .long x), (3, .int 5)] := hl
    refine lv_iinc (k := 2) (v := 1) hx hb d_MO_type_87 hl rfl (by decide) (by decide) rfl (fun ls hl => ?_)
    have hl : lv_has ls 8 [(5, .int 1), (4, .int 0), (6, .long (bm x 0)), (0, .ref m0), (1, .long x), (3, .int 5)] := hl
    refine lv_goto (tgt := 38) hx hb d_MO_type_90 (by decide) ?_
    refine lv_iload hx hb d_MO_type_38 (lv_at hl 1 rfl) ?_
    refine lv_if_eq (tgt := 93) hx hb d_MO_type_40 (by decide) (fun _ => ?_) (fun h9 => absurd (by decide) h9)
    refine lv_iload hx hb d_MO_type_93 (lv_at hl 1 rfl) ?_
    refine lv_if_ne (tgt := 100) hx hb d_MO_type_95 (by decide) (fun h9 => absurd (by decide) h9) (fun _ => ?_)
    refine lv_iconst (v := (-1)) hx hb d_MO_type_98 (by decide) ?_
    have hP9 := hP.sub (ws' := [(m0, .inr (9, [.int 0, .ref f_text, .int 0, .int (-1), .ref f_kinds, .ref f_places, .ref f_values, .int 0, .ref f_draftLetters, .int 0, .int 0, .int 0, .ref f_draftNumbers, .ref f_draftSigns, .int 0, .int 0, .int 0, .int 0, .ref f_letters, .ref f_numbers, .ref f_isList, .ref f_bounds, .ref f_sizes, .ref f_lists, .ref f_told, .ref f_costs, .int 0, .ref f_times, .int 0, .ref f_bestOne, .ref f_basis, .int 0, .ref f_one, .int 0, .ref f_along, .ref f_now]))]) [0] rfl
    have hD9 := hD.sub (ws' := [(m0, .inr (9, [.int 0, .ref f_text, .int 0, .int (-1), .ref f_kinds, .ref f_places, .ref f_values, .int 0, .ref f_draftLetters, .int 0, .int 0, .int 0, .ref f_draftNumbers, .ref f_draftSigns, .int 0, .int 0, .int 0, .int 0, .ref f_letters, .ref f_numbers, .ref f_isList, .ref f_bounds, .ref f_sizes, .ref f_lists, .ref f_told, .ref f_costs, .int 0, .ref f_times, .int 0, .ref f_bestOne, .ref f_basis, .int 0, .ref f_one, .int 0, .ref f_along, .ref f_now]))]) [0] (by decide) rfl
    have hK9 := hK.sub (tys' := []) [] rfl
    exact W.iret (v := (-1)) hx hb hr (fun t ht hW => ⟨⟨(-1), (), rfl, rfl, by rw [ht]; exact hP9, va_K.moved hW.alike hK9, hD9⟩, hS.F ht⟩) hS.2.2 d_MO_type_99
  · refine lv_lload hx hb d_MO_type_71 (lv_at hl 0 rfl) ?_
    refine lv_ldc2 (v := 126) hx hb hown (hts _ k_1006) d_MO_type_73 ?_
    refine W.lcmp hx hb d_MO_type_76 ?_
    refine lv_if_gt (tgt := 84) hx hb d_MO_type_77 (by decide) (fun hc2 => ?_) (fun hc2 => ?_)
    · refine lv_iconst (v := 0) hx hb d_MO_type_84 (by decide) ?_
      refine lv_istore hx hb d_MO_type_85 hl (by decide) rfl (fun ls hl => ?_)
      have hl : lv_has ls 8 [(4, .int 0), (6, .long (bm x 0)), (5, .int 0), (0, .ref m0), (1, .long x), (3, .int 5)] := hl
      refine lv_iinc (k := 2) (v := 1) hx hb d_MO_type_87 hl rfl (by decide) (by decide) rfl (fun ls hl => ?_)
      have hl : lv_has ls 8 [(5, .int 1), (4, .int 0), (6, .long (bm x 0)), (0, .ref m0), (1, .long x), (3, .int 5)] := hl
      refine lv_goto (tgt := 38) hx hb d_MO_type_90 (by decide) ?_
      refine lv_iload hx hb d_MO_type_38 (lv_at hl 1 rfl) ?_
      refine lv_if_eq (tgt := 93) hx hb d_MO_type_40 (by decide) (fun _ => ?_) (fun h9 => absurd (by decide) h9)
      refine lv_iload hx hb d_MO_type_93 (lv_at hl 1 rfl) ?_
      refine lv_if_ne (tgt := 100) hx hb d_MO_type_95 (by decide) (fun h9 => absurd (by decide) h9) (fun _ => ?_)
      refine lv_iconst (v := (-1)) hx hb d_MO_type_98 (by decide) ?_
      have hP9 := hP.sub (ws' := [(m0, .inr (9, [.int 0, .ref f_text, .int 0, .int (-1), .ref f_kinds, .ref f_places, .ref f_values, .int 0, .ref f_draftLetters, .int 0, .int 0, .int 0, .ref f_draftNumbers, .ref f_draftSigns, .int 0, .int 0, .int 0, .int 0, .ref f_letters, .ref f_numbers, .ref f_isList, .ref f_bounds, .ref f_sizes, .ref f_lists, .ref f_told, .ref f_costs, .int 0, .ref f_times, .int 0, .ref f_bestOne, .ref f_basis, .int 0, .ref f_one, .int 0, .ref f_along, .ref f_now]))]) [0] rfl
      have hD9 := hD.sub (ws' := [(m0, .inr (9, [.int 0, .ref f_text, .int 0, .int (-1), .ref f_kinds, .ref f_places, .ref f_values, .int 0, .ref f_draftLetters, .int 0, .int 0, .int 0, .ref f_draftNumbers, .ref f_draftSigns, .int 0, .int 0, .int 0, .int 0, .ref f_letters, .ref f_numbers, .ref f_isList, .ref f_bounds, .ref f_sizes, .ref f_lists, .ref f_told, .ref f_costs, .int 0, .ref f_times, .int 0, .ref f_bestOne, .ref f_basis, .int 0, .ref f_one, .int 0, .ref f_along, .ref f_now]))]) [0] (by decide) rfl
      have hK9 := hK.sub (tys' := []) [] rfl
      exact W.iret (v := (-1)) hx hb hr (fun t ht hW => ⟨⟨(-1), (), rfl, rfl, by rw [ht]; exact hP9, va_K.moved hW.alike hK9, hD9⟩, hS.F ht⟩) hS.2.2 d_MO_type_99
    · refine lv_iconst (v := 1) hx hb d_MO_type_80 (by decide) ?_
      refine lv_goto (tgt := 85) hx hb d_MO_type_81 (by decide) ?_
      refine lv_istore hx hb d_MO_type_85 hl (by decide) rfl (fun ls hl => ?_)
      have hl : lv_has ls 8 [(4, .int 1), (6, .long (bm x 0)), (5, .int 0), (0, .ref m0), (1, .long x), (3, .int 5)] := hl
      refine lv_iinc (k := 2) (v := 1) hx hb d_MO_type_87 hl rfl (by decide) (by decide) rfl (fun ls hl => ?_)
      have hl : lv_has ls 8 [(5, .int 1), (4, .int 1), (6, .long (bm x 0)), (0, .ref m0), (1, .long x), (3, .int 5)] := hl
      refine lv_goto (tgt := 38) hx hb d_MO_type_90 (by decide) ?_
      refine lv_iload hx hb d_MO_type_38 (lv_at hl 1 rfl) ?_
      refine lv_if_eq (tgt := 93) hx hb d_MO_type_40 (by decide) (fun h9 => absurd h9 (by decide)) (fun _ => ?_)
      refine lv_iload hx hb d_MO_type_43 (lv_at hl 0 rfl) ?_
      refine lv_iload_n hx hb d_MO_type_45 rfl (lv_at hl 5 rfl) ?_
      refine lv_icmp_ge (tgt := 93) hx hb d_MO_type_46 (by decide) (fun h9 => absurd h9 (by decide)) (fun _ => ?_)
      refine lv_lload_n hx hb d_MO_type_49 rfl (lv_at hl 4 rfl) ?_
      refine lv_bipush (v := 8) hx hb d_MO_type_50 (by decide) ?_
      refine lv_iload hx hb d_MO_type_52 (lv_at hl 0 rfl) ?_
      refine lv_imul hx hb d_MO_type_54 ?_
      refine lv_lshr (v := (x >>> (((8 * 1) : Int32).toInt64 &&& 63))) hx hb d_MO_type_55 rfl ?_
      refine lv_ldc2 (v := 255) hx hb hown (hts _ k_1004) d_MO_type_56 ?_
      refine lv_land hx hb d_MO_type_59 ?_
      refine W.eq (g2 := F0 m 60 ls [.long (bm x 1)]) rfl ?_
      refine lv_lstore hx hb d_MO_type_60 hl (by decide) rfl (fun ls hl => ?_)
      have hl : lv_has ls 8 [(6, .long (bm x 1)), (5, .int 1), (4, .int 1), (0, .ref m0), (1, .long x), (3, .int 5)] := hl
      refine lv_lload hx hb d_MO_type_62 (lv_at hl 0 rfl) ?_
      refine lv_ldc2 (v := 32) hx hb hown (hts _ k_1005) d_MO_type_64 ?_
      refine W.lcmp hx hb d_MO_type_67 ?_
      refine lv_if_lt (tgt := 84) hx hb d_MO_type_68 (by decide) (fun hc3 => ?_) (fun hc3 => ?_)
      · refine lv_iconst (v := 0) hx hb d_MO_type_84 (by decide) ?_
        refine lv_istore hx hb d_MO_type_85 hl (by decide) rfl (fun ls hl => ?_)
        have hl : lv_has ls 8 [(4, .int 0), (6, .long (bm x 1)), (5, .int 1), (0, .ref m0), (1, .long x), (3, .int 5)] := hl
        refine lv_iinc (k := 2) (v := 2) hx hb d_MO_type_87 hl rfl (by decide) (by decide) rfl (fun ls hl => ?_)
        have hl : lv_has ls 8 [(5, .int 2), (4, .int 0), (6, .long (bm x 1)), (0, .ref m0), (1, .long x), (3, .int 5)] := hl
        refine lv_goto (tgt := 38) hx hb d_MO_type_90 (by decide) ?_
        refine lv_iload hx hb d_MO_type_38 (lv_at hl 1 rfl) ?_
        refine lv_if_eq (tgt := 93) hx hb d_MO_type_40 (by decide) (fun _ => ?_) (fun h9 => absurd (by decide) h9)
        refine lv_iload hx hb d_MO_type_93 (lv_at hl 1 rfl) ?_
        refine lv_if_ne (tgt := 100) hx hb d_MO_type_95 (by decide) (fun h9 => absurd (by decide) h9) (fun _ => ?_)
        refine lv_iconst (v := (-1)) hx hb d_MO_type_98 (by decide) ?_
        have hP9 := hP.sub (ws' := [(m0, .inr (9, [.int 0, .ref f_text, .int 0, .int (-1), .ref f_kinds, .ref f_places, .ref f_values, .int 0, .ref f_draftLetters, .int 0, .int 0, .int 0, .ref f_draftNumbers, .ref f_draftSigns, .int 0, .int 0, .int 0, .int 0, .ref f_letters, .ref f_numbers, .ref f_isList, .ref f_bounds, .ref f_sizes, .ref f_lists, .ref f_told, .ref f_costs, .int 0, .ref f_times, .int 0, .ref f_bestOne, .ref f_basis, .int 0, .ref f_one, .int 0, .ref f_along, .ref f_now]))]) [0] rfl
        have hD9 := hD.sub (ws' := [(m0, .inr (9, [.int 0, .ref f_text, .int 0, .int (-1), .ref f_kinds, .ref f_places, .ref f_values, .int 0, .ref f_draftLetters, .int 0, .int 0, .int 0, .ref f_draftNumbers, .ref f_draftSigns, .int 0, .int 0, .int 0, .int 0, .ref f_letters, .ref f_numbers, .ref f_isList, .ref f_bounds, .ref f_sizes, .ref f_lists, .ref f_told, .ref f_costs, .int 0, .ref f_times, .int 0, .ref f_bestOne, .ref f_basis, .int 0, .ref f_one, .int 0, .ref f_along, .ref f_now]))]) [0] (by decide) rfl
        have hK9 := hK.sub (tys' := []) [] rfl
        exact W.iret (v := (-1)) hx hb hr (fun t ht hW => ⟨⟨(-1), (), rfl, rfl, by rw [ht]; exact hP9, va_K.moved hW.alike hK9, hD9⟩, hS.F ht⟩) hS.2.2 d_MO_type_99
      · refine lv_lload hx hb d_MO_type_71 (lv_at hl 0 rfl) ?_
        refine lv_ldc2 (v := 126) hx hb hown (hts _ k_1006) d_MO_type_73 ?_
        refine W.lcmp hx hb d_MO_type_76 ?_
        refine lv_if_gt (tgt := 84) hx hb d_MO_type_77 (by decide) (fun hc4 => ?_) (fun hc4 => ?_)
        · refine lv_iconst (v := 0) hx hb d_MO_type_84 (by decide) ?_
          refine lv_istore hx hb d_MO_type_85 hl (by decide) rfl (fun ls hl => ?_)
          have hl : lv_has ls 8 [(4, .int 0), (6, .long (bm x 1)), (5, .int 1), (0, .ref m0), (1, .long x), (3, .int 5)] := hl
          refine lv_iinc (k := 2) (v := 2) hx hb d_MO_type_87 hl rfl (by decide) (by decide) rfl (fun ls hl => ?_)
          have hl : lv_has ls 8 [(5, .int 2), (4, .int 0), (6, .long (bm x 1)), (0, .ref m0), (1, .long x), (3, .int 5)] := hl
          refine lv_goto (tgt := 38) hx hb d_MO_type_90 (by decide) ?_
          refine lv_iload hx hb d_MO_type_38 (lv_at hl 1 rfl) ?_
          refine lv_if_eq (tgt := 93) hx hb d_MO_type_40 (by decide) (fun _ => ?_) (fun h9 => absurd (by decide) h9)
          refine lv_iload hx hb d_MO_type_93 (lv_at hl 1 rfl) ?_
          refine lv_if_ne (tgt := 100) hx hb d_MO_type_95 (by decide) (fun h9 => absurd (by decide) h9) (fun _ => ?_)
          refine lv_iconst (v := (-1)) hx hb d_MO_type_98 (by decide) ?_
          have hP9 := hP.sub (ws' := [(m0, .inr (9, [.int 0, .ref f_text, .int 0, .int (-1), .ref f_kinds, .ref f_places, .ref f_values, .int 0, .ref f_draftLetters, .int 0, .int 0, .int 0, .ref f_draftNumbers, .ref f_draftSigns, .int 0, .int 0, .int 0, .int 0, .ref f_letters, .ref f_numbers, .ref f_isList, .ref f_bounds, .ref f_sizes, .ref f_lists, .ref f_told, .ref f_costs, .int 0, .ref f_times, .int 0, .ref f_bestOne, .ref f_basis, .int 0, .ref f_one, .int 0, .ref f_along, .ref f_now]))]) [0] rfl
          have hD9 := hD.sub (ws' := [(m0, .inr (9, [.int 0, .ref f_text, .int 0, .int (-1), .ref f_kinds, .ref f_places, .ref f_values, .int 0, .ref f_draftLetters, .int 0, .int 0, .int 0, .ref f_draftNumbers, .ref f_draftSigns, .int 0, .int 0, .int 0, .int 0, .ref f_letters, .ref f_numbers, .ref f_isList, .ref f_bounds, .ref f_sizes, .ref f_lists, .ref f_told, .ref f_costs, .int 0, .ref f_times, .int 0, .ref f_bestOne, .ref f_basis, .int 0, .ref f_one, .int 0, .ref f_along, .ref f_now]))]) [0] (by decide) rfl
          have hK9 := hK.sub (tys' := []) [] rfl
          exact W.iret (v := (-1)) hx hb hr (fun t ht hW => ⟨⟨(-1), (), rfl, rfl, by rw [ht]; exact hP9, va_K.moved hW.alike hK9, hD9⟩, hS.F ht⟩) hS.2.2 d_MO_type_99
        · refine lv_iconst (v := 1) hx hb d_MO_type_80 (by decide) ?_
          refine lv_goto (tgt := 85) hx hb d_MO_type_81 (by decide) ?_
          refine lv_istore hx hb d_MO_type_85 hl (by decide) rfl (fun ls hl => ?_)
          have hl : lv_has ls 8 [(4, .int 1), (6, .long (bm x 1)), (5, .int 1), (0, .ref m0), (1, .long x), (3, .int 5)] := hl
          refine lv_iinc (k := 2) (v := 2) hx hb d_MO_type_87 hl rfl (by decide) (by decide) rfl (fun ls hl => ?_)
          have hl : lv_has ls 8 [(5, .int 2), (4, .int 1), (6, .long (bm x 1)), (0, .ref m0), (1, .long x), (3, .int 5)] := hl
          refine lv_goto (tgt := 38) hx hb d_MO_type_90 (by decide) ?_
          refine lv_iload hx hb d_MO_type_38 (lv_at hl 1 rfl) ?_
          refine lv_if_eq (tgt := 93) hx hb d_MO_type_40 (by decide) (fun h9 => absurd h9 (by decide)) (fun _ => ?_)
          refine lv_iload hx hb d_MO_type_43 (lv_at hl 0 rfl) ?_
          refine lv_iload_n hx hb d_MO_type_45 rfl (lv_at hl 5 rfl) ?_
          refine lv_icmp_ge (tgt := 93) hx hb d_MO_type_46 (by decide) (fun h9 => absurd h9 (by decide)) (fun _ => ?_)
          refine lv_lload_n hx hb d_MO_type_49 rfl (lv_at hl 4 rfl) ?_
          refine lv_bipush (v := 8) hx hb d_MO_type_50 (by decide) ?_
          refine lv_iload hx hb d_MO_type_52 (lv_at hl 0 rfl) ?_
          refine lv_imul hx hb d_MO_type_54 ?_
          refine lv_lshr (v := (x >>> (((8 * 2) : Int32).toInt64 &&& 63))) hx hb d_MO_type_55 rfl ?_
          refine lv_ldc2 (v := 255) hx hb hown (hts _ k_1004) d_MO_type_56 ?_
          refine lv_land hx hb d_MO_type_59 ?_
          refine W.eq (g2 := F0 m 60 ls [.long (bm x 2)]) rfl ?_
          refine lv_lstore hx hb d_MO_type_60 hl (by decide) rfl (fun ls hl => ?_)
          have hl : lv_has ls 8 [(6, .long (bm x 2)), (5, .int 2), (4, .int 1), (0, .ref m0), (1, .long x), (3, .int 5)] := hl
          refine lv_lload hx hb d_MO_type_62 (lv_at hl 0 rfl) ?_
          refine lv_ldc2 (v := 32) hx hb hown (hts _ k_1005) d_MO_type_64 ?_
          refine W.lcmp hx hb d_MO_type_67 ?_
          refine lv_if_lt (tgt := 84) hx hb d_MO_type_68 (by decide) (fun hc5 => ?_) (fun hc5 => ?_)
          · refine lv_iconst (v := 0) hx hb d_MO_type_84 (by decide) ?_
            refine lv_istore hx hb d_MO_type_85 hl (by decide) rfl (fun ls hl => ?_)
            have hl : lv_has ls 8 [(4, .int 0), (6, .long (bm x 2)), (5, .int 2), (0, .ref m0), (1, .long x), (3, .int 5)] := hl
            refine lv_iinc (k := 2) (v := 3) hx hb d_MO_type_87 hl rfl (by decide) (by decide) rfl (fun ls hl => ?_)
            have hl : lv_has ls 8 [(5, .int 3), (4, .int 0), (6, .long (bm x 2)), (0, .ref m0), (1, .long x), (3, .int 5)] := hl
            refine lv_goto (tgt := 38) hx hb d_MO_type_90 (by decide) ?_
            refine lv_iload hx hb d_MO_type_38 (lv_at hl 1 rfl) ?_
            refine lv_if_eq (tgt := 93) hx hb d_MO_type_40 (by decide) (fun _ => ?_) (fun h9 => absurd (by decide) h9)
            refine lv_iload hx hb d_MO_type_93 (lv_at hl 1 rfl) ?_
            refine lv_if_ne (tgt := 100) hx hb d_MO_type_95 (by decide) (fun h9 => absurd (by decide) h9) (fun _ => ?_)
            refine lv_iconst (v := (-1)) hx hb d_MO_type_98 (by decide) ?_
            have hP9 := hP.sub (ws' := [(m0, .inr (9, [.int 0, .ref f_text, .int 0, .int (-1), .ref f_kinds, .ref f_places, .ref f_values, .int 0, .ref f_draftLetters, .int 0, .int 0, .int 0, .ref f_draftNumbers, .ref f_draftSigns, .int 0, .int 0, .int 0, .int 0, .ref f_letters, .ref f_numbers, .ref f_isList, .ref f_bounds, .ref f_sizes, .ref f_lists, .ref f_told, .ref f_costs, .int 0, .ref f_times, .int 0, .ref f_bestOne, .ref f_basis, .int 0, .ref f_one, .int 0, .ref f_along, .ref f_now]))]) [0] rfl
            have hD9 := hD.sub (ws' := [(m0, .inr (9, [.int 0, .ref f_text, .int 0, .int (-1), .ref f_kinds, .ref f_places, .ref f_values, .int 0, .ref f_draftLetters, .int 0, .int 0, .int 0, .ref f_draftNumbers, .ref f_draftSigns, .int 0, .int 0, .int 0, .int 0, .ref f_letters, .ref f_numbers, .ref f_isList, .ref f_bounds, .ref f_sizes, .ref f_lists, .ref f_told, .ref f_costs, .int 0, .ref f_times, .int 0, .ref f_bestOne, .ref f_basis, .int 0, .ref f_one, .int 0, .ref f_along, .ref f_now]))]) [0] (by decide) rfl
            have hK9 := hK.sub (tys' := []) [] rfl
            exact W.iret (v := (-1)) hx hb hr (fun t ht hW => ⟨⟨(-1), (), rfl, rfl, by rw [ht]; exact hP9, va_K.moved hW.alike hK9, hD9⟩, hS.F ht⟩) hS.2.2 d_MO_type_99
          · refine lv_lload hx hb d_MO_type_71 (lv_at hl 0 rfl) ?_
            refine lv_ldc2 (v := 126) hx hb hown (hts _ k_1006) d_MO_type_73 ?_
            refine W.lcmp hx hb d_MO_type_76 ?_
            refine lv_if_gt (tgt := 84) hx hb d_MO_type_77 (by decide) (fun hc6 => ?_) (fun hc6 => ?_)
            · refine lv_iconst (v := 0) hx hb d_MO_type_84 (by decide) ?_
              refine lv_istore hx hb d_MO_type_85 hl (by decide) rfl (fun ls hl => ?_)
              have hl : lv_has ls 8 [(4, .int 0), (6, .long (bm x 2)), (5, .int 2), (0, .ref m0), (1, .long x), (3, .int 5)] := hl
              refine lv_iinc (k := 2) (v := 3) hx hb d_MO_type_87 hl rfl (by decide) (by decide) rfl (fun ls hl => ?_)
              have hl : lv_has ls 8 [(5, .int 3), (4, .int 0), (6, .long (bm x 2)), (0, .ref m0), (1, .long x), (3, .int 5)] := hl
              refine lv_goto (tgt := 38) hx hb d_MO_type_90 (by decide) ?_
              refine lv_iload hx hb d_MO_type_38 (lv_at hl 1 rfl) ?_
              refine lv_if_eq (tgt := 93) hx hb d_MO_type_40 (by decide) (fun _ => ?_) (fun h9 => absurd (by decide) h9)
              refine lv_iload hx hb d_MO_type_93 (lv_at hl 1 rfl) ?_
              refine lv_if_ne (tgt := 100) hx hb d_MO_type_95 (by decide) (fun h9 => absurd (by decide) h9) (fun _ => ?_)
              refine lv_iconst (v := (-1)) hx hb d_MO_type_98 (by decide) ?_
              have hP9 := hP.sub (ws' := [(m0, .inr (9, [.int 0, .ref f_text, .int 0, .int (-1), .ref f_kinds, .ref f_places, .ref f_values, .int 0, .ref f_draftLetters, .int 0, .int 0, .int 0, .ref f_draftNumbers, .ref f_draftSigns, .int 0, .int 0, .int 0, .int 0, .ref f_letters, .ref f_numbers, .ref f_isList, .ref f_bounds, .ref f_sizes, .ref f_lists, .ref f_told, .ref f_costs, .int 0, .ref f_times, .int 0, .ref f_bestOne, .ref f_basis, .int 0, .ref f_one, .int 0, .ref f_along, .ref f_now]))]) [0] rfl
              have hD9 := hD.sub (ws' := [(m0, .inr (9, [.int 0, .ref f_text, .int 0, .int (-1), .ref f_kinds, .ref f_places, .ref f_values, .int 0, .ref f_draftLetters, .int 0, .int 0, .int 0, .ref f_draftNumbers, .ref f_draftSigns, .int 0, .int 0, .int 0, .int 0, .ref f_letters, .ref f_numbers, .ref f_isList, .ref f_bounds, .ref f_sizes, .ref f_lists, .ref f_told, .ref f_costs, .int 0, .ref f_times, .int 0, .ref f_bestOne, .ref f_basis, .int 0, .ref f_one, .int 0, .ref f_along, .ref f_now]))]) [0] (by decide) rfl
              have hK9 := hK.sub (tys' := []) [] rfl
              exact W.iret (v := (-1)) hx hb hr (fun t ht hW => ⟨⟨(-1), (), rfl, rfl, by rw [ht]; exact hP9, va_K.moved hW.alike hK9, hD9⟩, hS.F ht⟩) hS.2.2 d_MO_type_99
            · refine lv_iconst (v := 1) hx hb d_MO_type_80 (by decide) ?_
              refine lv_goto (tgt := 85) hx hb d_MO_type_81 (by decide) ?_
              refine lv_istore hx hb d_MO_type_85 hl (by decide) rfl (fun ls hl => ?_)
              have hl : lv_has ls 8 [(4, .int 1), (6, .long (bm x 2)), (5, .int 2), (0, .ref m0), (1, .long x), (3, .int 5)] := hl
              refine lv_iinc (k := 2) (v := 3) hx hb d_MO_type_87 hl rfl (by decide) (by decide) rfl (fun ls hl => ?_)
              have hl : lv_has ls 8 [(5, .int 3), (4, .int 1), (6, .long (bm x 2)), (0, .ref m0), (1, .long x), (3, .int 5)] := hl
              refine lv_goto (tgt := 38) hx hb d_MO_type_90 (by decide) ?_
              refine lv_iload hx hb d_MO_type_38 (lv_at hl 1 rfl) ?_
              refine lv_if_eq (tgt := 93) hx hb d_MO_type_40 (by decide) (fun h9 => absurd h9 (by decide)) (fun _ => ?_)
              refine lv_iload hx hb d_MO_type_43 (lv_at hl 0 rfl) ?_
              refine lv_iload_n hx hb d_MO_type_45 rfl (lv_at hl 5 rfl) ?_
              refine lv_icmp_ge (tgt := 93) hx hb d_MO_type_46 (by decide) (fun h9 => absurd h9 (by decide)) (fun _ => ?_)
              refine lv_lload_n hx hb d_MO_type_49 rfl (lv_at hl 4 rfl) ?_
              refine lv_bipush (v := 8) hx hb d_MO_type_50 (by decide) ?_
              refine lv_iload hx hb d_MO_type_52 (lv_at hl 0 rfl) ?_
              refine lv_imul hx hb d_MO_type_54 ?_
              refine lv_lshr (v := (x >>> (((8 * 3) : Int32).toInt64 &&& 63))) hx hb d_MO_type_55 rfl ?_
              refine lv_ldc2 (v := 255) hx hb hown (hts _ k_1004) d_MO_type_56 ?_
              refine lv_land hx hb d_MO_type_59 ?_
              refine W.eq (g2 := F0 m 60 ls [.long (bm x 3)]) rfl ?_
              refine lv_lstore hx hb d_MO_type_60 hl (by decide) rfl (fun ls hl => ?_)
              have hl : lv_has ls 8 [(6, .long (bm x 3)), (5, .int 3), (4, .int 1), (0, .ref m0), (1, .long x), (3, .int 5)] := hl
              refine lv_lload hx hb d_MO_type_62 (lv_at hl 0 rfl) ?_
              refine lv_ldc2 (v := 32) hx hb hown (hts _ k_1005) d_MO_type_64 ?_
              refine W.lcmp hx hb d_MO_type_67 ?_
              refine lv_if_lt (tgt := 84) hx hb d_MO_type_68 (by decide) (fun hc7 => ?_) (fun hc7 => ?_)
              · refine lv_iconst (v := 0) hx hb d_MO_type_84 (by decide) ?_
                refine lv_istore hx hb d_MO_type_85 hl (by decide) rfl (fun ls hl => ?_)
                have hl : lv_has ls 8 [(4, .int 0), (6, .long (bm x 3)), (5, .int 3), (0, .ref m0), (1, .long x), (3, .int 5)] := hl
                refine lv_iinc (k := 2) (v := 4) hx hb d_MO_type_87 hl rfl (by decide) (by decide) rfl (fun ls hl => ?_)
                have hl : lv_has ls 8 [(5, .int 4), (4, .int 0), (6, .long (bm x 3)), (0, .ref m0), (1, .long x), (3, .int 5)] := hl
                refine lv_goto (tgt := 38) hx hb d_MO_type_90 (by decide) ?_
                refine lv_iload hx hb d_MO_type_38 (lv_at hl 1 rfl) ?_
                refine lv_if_eq (tgt := 93) hx hb d_MO_type_40 (by decide) (fun _ => ?_) (fun h9 => absurd (by decide) h9)
                refine lv_iload hx hb d_MO_type_93 (lv_at hl 1 rfl) ?_
                refine lv_if_ne (tgt := 100) hx hb d_MO_type_95 (by decide) (fun h9 => absurd (by decide) h9) (fun _ => ?_)
                refine lv_iconst (v := (-1)) hx hb d_MO_type_98 (by decide) ?_
                have hP9 := hP.sub (ws' := [(m0, .inr (9, [.int 0, .ref f_text, .int 0, .int (-1), .ref f_kinds, .ref f_places, .ref f_values, .int 0, .ref f_draftLetters, .int 0, .int 0, .int 0, .ref f_draftNumbers, .ref f_draftSigns, .int 0, .int 0, .int 0, .int 0, .ref f_letters, .ref f_numbers, .ref f_isList, .ref f_bounds, .ref f_sizes, .ref f_lists, .ref f_told, .ref f_costs, .int 0, .ref f_times, .int 0, .ref f_bestOne, .ref f_basis, .int 0, .ref f_one, .int 0, .ref f_along, .ref f_now]))]) [0] rfl
                have hD9 := hD.sub (ws' := [(m0, .inr (9, [.int 0, .ref f_text, .int 0, .int (-1), .ref f_kinds, .ref f_places, .ref f_values, .int 0, .ref f_draftLetters, .int 0, .int 0, .int 0, .ref f_draftNumbers, .ref f_draftSigns, .int 0, .int 0, .int 0, .int 0, .ref f_letters, .ref f_numbers, .ref f_isList, .ref f_bounds, .ref f_sizes, .ref f_lists, .ref f_told, .ref f_costs, .int 0, .ref f_times, .int 0, .ref f_bestOne, .ref f_basis, .int 0, .ref f_one, .int 0, .ref f_along, .ref f_now]))]) [0] (by decide) rfl
                have hK9 := hK.sub (tys' := []) [] rfl
                exact W.iret (v := (-1)) hx hb hr (fun t ht hW => ⟨⟨(-1), (), rfl, rfl, by rw [ht]; exact hP9, va_K.moved hW.alike hK9, hD9⟩, hS.F ht⟩) hS.2.2 d_MO_type_99
              · refine lv_lload hx hb d_MO_type_71 (lv_at hl 0 rfl) ?_
                refine lv_ldc2 (v := 126) hx hb hown (hts _ k_1006) d_MO_type_73 ?_
                refine W.lcmp hx hb d_MO_type_76 ?_
                refine lv_if_gt (tgt := 84) hx hb d_MO_type_77 (by decide) (fun hc8 => ?_) (fun hc8 => ?_)
                · refine lv_iconst (v := 0) hx hb d_MO_type_84 (by decide) ?_
                  refine lv_istore hx hb d_MO_type_85 hl (by decide) rfl (fun ls hl => ?_)
                  have hl : lv_has ls 8 [(4, .int 0), (6, .long (bm x 3)), (5, .int 3), (0, .ref m0), (1, .long x), (3, .int 5)] := hl
                  refine lv_iinc (k := 2) (v := 4) hx hb d_MO_type_87 hl rfl (by decide) (by decide) rfl (fun ls hl => ?_)
                  have hl : lv_has ls 8 [(5, .int 4), (4, .int 0), (6, .long (bm x 3)), (0, .ref m0), (1, .long x), (3, .int 5)] := hl
                  refine lv_goto (tgt := 38) hx hb d_MO_type_90 (by decide) ?_
                  refine lv_iload hx hb d_MO_type_38 (lv_at hl 1 rfl) ?_
                  refine lv_if_eq (tgt := 93) hx hb d_MO_type_40 (by decide) (fun _ => ?_) (fun h9 => absurd (by decide) h9)
                  refine lv_iload hx hb d_MO_type_93 (lv_at hl 1 rfl) ?_
                  refine lv_if_ne (tgt := 100) hx hb d_MO_type_95 (by decide) (fun h9 => absurd (by decide) h9) (fun _ => ?_)
                  refine lv_iconst (v := (-1)) hx hb d_MO_type_98 (by decide) ?_
                  have hP9 := hP.sub (ws' := [(m0, .inr (9, [.int 0, .ref f_text, .int 0, .int (-1), .ref f_kinds, .ref f_places, .ref f_values, .int 0, .ref f_draftLetters, .int 0, .int 0, .int 0, .ref f_draftNumbers, .ref f_draftSigns, .int 0, .int 0, .int 0, .int 0, .ref f_letters, .ref f_numbers, .ref f_isList, .ref f_bounds, .ref f_sizes, .ref f_lists, .ref f_told, .ref f_costs, .int 0, .ref f_times, .int 0, .ref f_bestOne, .ref f_basis, .int 0, .ref f_one, .int 0, .ref f_along, .ref f_now]))]) [0] rfl
                  have hD9 := hD.sub (ws' := [(m0, .inr (9, [.int 0, .ref f_text, .int 0, .int (-1), .ref f_kinds, .ref f_places, .ref f_values, .int 0, .ref f_draftLetters, .int 0, .int 0, .int 0, .ref f_draftNumbers, .ref f_draftSigns, .int 0, .int 0, .int 0, .int 0, .ref f_letters, .ref f_numbers, .ref f_isList, .ref f_bounds, .ref f_sizes, .ref f_lists, .ref f_told, .ref f_costs, .int 0, .ref f_times, .int 0, .ref f_bestOne, .ref f_basis, .int 0, .ref f_one, .int 0, .ref f_along, .ref f_now]))]) [0] (by decide) rfl
                  have hK9 := hK.sub (tys' := []) [] rfl
                  exact W.iret (v := (-1)) hx hb hr (fun t ht hW => ⟨⟨(-1), (), rfl, rfl, by rw [ht]; exact hP9, va_K.moved hW.alike hK9, hD9⟩, hS.F ht⟩) hS.2.2 d_MO_type_99
                · refine lv_iconst (v := 1) hx hb d_MO_type_80 (by decide) ?_
                  refine lv_goto (tgt := 85) hx hb d_MO_type_81 (by decide) ?_
                  refine lv_istore hx hb d_MO_type_85 hl (by decide) rfl (fun ls hl => ?_)
                  have hl : lv_has ls 8 [(4, .int 1), (6, .long (bm x 3)), (5, .int 3), (0, .ref m0), (1, .long x), (3, .int 5)] := hl
                  refine lv_iinc (k := 2) (v := 4) hx hb d_MO_type_87 hl rfl (by decide) (by decide) rfl (fun ls hl => ?_)
                  have hl : lv_has ls 8 [(5, .int 4), (4, .int 1), (6, .long (bm x 3)), (0, .ref m0), (1, .long x), (3, .int 5)] := hl
                  refine lv_goto (tgt := 38) hx hb d_MO_type_90 (by decide) ?_
                  refine lv_iload hx hb d_MO_type_38 (lv_at hl 1 rfl) ?_
                  refine lv_if_eq (tgt := 93) hx hb d_MO_type_40 (by decide) (fun h9 => absurd h9 (by decide)) (fun _ => ?_)
                  refine lv_iload hx hb d_MO_type_43 (lv_at hl 0 rfl) ?_
                  refine lv_iload_n hx hb d_MO_type_45 rfl (lv_at hl 5 rfl) ?_
                  refine lv_icmp_ge (tgt := 93) hx hb d_MO_type_46 (by decide) (fun h9 => absurd h9 (by decide)) (fun _ => ?_)
                  refine lv_lload_n hx hb d_MO_type_49 rfl (lv_at hl 4 rfl) ?_
                  refine lv_bipush (v := 8) hx hb d_MO_type_50 (by decide) ?_
                  refine lv_iload hx hb d_MO_type_52 (lv_at hl 0 rfl) ?_
                  refine lv_imul hx hb d_MO_type_54 ?_
                  refine lv_lshr (v := (x >>> (((8 * 4) : Int32).toInt64 &&& 63))) hx hb d_MO_type_55 rfl ?_
                  refine lv_ldc2 (v := 255) hx hb hown (hts _ k_1004) d_MO_type_56 ?_
                  refine lv_land hx hb d_MO_type_59 ?_
                  refine W.eq (g2 := F0 m 60 ls [.long (bm x 4)]) rfl ?_
                  refine lv_lstore hx hb d_MO_type_60 hl (by decide) rfl (fun ls hl => ?_)
                  have hl : lv_has ls 8 [(6, .long (bm x 4)), (5, .int 4), (4, .int 1), (0, .ref m0), (1, .long x), (3, .int 5)] := hl
                  refine lv_lload hx hb d_MO_type_62 (lv_at hl 0 rfl) ?_
                  refine lv_ldc2 (v := 32) hx hb hown (hts _ k_1005) d_MO_type_64 ?_
                  refine W.lcmp hx hb d_MO_type_67 ?_
                  refine lv_if_lt (tgt := 84) hx hb d_MO_type_68 (by decide) (fun hc9 => ?_) (fun hc9 => ?_)
                  · refine lv_iconst (v := 0) hx hb d_MO_type_84 (by decide) ?_
                    refine lv_istore hx hb d_MO_type_85 hl (by decide) rfl (fun ls hl => ?_)
                    have hl : lv_has ls 8 [(4, .int 0), (6, .long (bm x 4)), (5, .int 4), (0, .ref m0), (1, .long x), (3, .int 5)] := hl
                    refine lv_iinc (k := 2) (v := 5) hx hb d_MO_type_87 hl rfl (by decide) (by decide) rfl (fun ls hl => ?_)
                    have hl : lv_has ls 8 [(5, .int 5), (4, .int 0), (6, .long (bm x 4)), (0, .ref m0), (1, .long x), (3, .int 5)] := hl
                    refine lv_goto (tgt := 38) hx hb d_MO_type_90 (by decide) ?_
                    refine lv_iload hx hb d_MO_type_38 (lv_at hl 1 rfl) ?_
                    refine lv_if_eq (tgt := 93) hx hb d_MO_type_40 (by decide) (fun _ => ?_) (fun h9 => absurd (by decide) h9)
                    refine lv_iload hx hb d_MO_type_93 (lv_at hl 1 rfl) ?_
                    refine lv_if_ne (tgt := 100) hx hb d_MO_type_95 (by decide) (fun h9 => absurd (by decide) h9) (fun _ => ?_)
                    refine lv_iconst (v := (-1)) hx hb d_MO_type_98 (by decide) ?_
                    have hP9 := hP.sub (ws' := [(m0, .inr (9, [.int 0, .ref f_text, .int 0, .int (-1), .ref f_kinds, .ref f_places, .ref f_values, .int 0, .ref f_draftLetters, .int 0, .int 0, .int 0, .ref f_draftNumbers, .ref f_draftSigns, .int 0, .int 0, .int 0, .int 0, .ref f_letters, .ref f_numbers, .ref f_isList, .ref f_bounds, .ref f_sizes, .ref f_lists, .ref f_told, .ref f_costs, .int 0, .ref f_times, .int 0, .ref f_bestOne, .ref f_basis, .int 0, .ref f_one, .int 0, .ref f_along, .ref f_now]))]) [0] rfl
                    have hD9 := hD.sub (ws' := [(m0, .inr (9, [.int 0, .ref f_text, .int 0, .int (-1), .ref f_kinds, .ref f_places, .ref f_values, .int 0, .ref f_draftLetters, .int 0, .int 0, .int 0, .ref f_draftNumbers, .ref f_draftSigns, .int 0, .int 0, .int 0, .int 0, .ref f_letters, .ref f_numbers, .ref f_isList, .ref f_bounds, .ref f_sizes, .ref f_lists, .ref f_told, .ref f_costs, .int 0, .ref f_times, .int 0, .ref f_bestOne, .ref f_basis, .int 0, .ref f_one, .int 0, .ref f_along, .ref f_now]))]) [0] (by decide) rfl
                    have hK9 := hK.sub (tys' := []) [] rfl
                    exact W.iret (v := (-1)) hx hb hr (fun t ht hW => ⟨⟨(-1), (), rfl, rfl, by rw [ht]; exact hP9, va_K.moved hW.alike hK9, hD9⟩, hS.F ht⟩) hS.2.2 d_MO_type_99
                  · refine lv_lload hx hb d_MO_type_71 (lv_at hl 0 rfl) ?_
                    refine lv_ldc2 (v := 126) hx hb hown (hts _ k_1006) d_MO_type_73 ?_
                    refine W.lcmp hx hb d_MO_type_76 ?_
                    refine lv_if_gt (tgt := 84) hx hb d_MO_type_77 (by decide) (fun hc10 => ?_) (fun hc10 => ?_)
                    · refine lv_iconst (v := 0) hx hb d_MO_type_84 (by decide) ?_
                      refine lv_istore hx hb d_MO_type_85 hl (by decide) rfl (fun ls hl => ?_)
                      have hl : lv_has ls 8 [(4, .int 0), (6, .long (bm x 4)), (5, .int 4), (0, .ref m0), (1, .long x), (3, .int 5)] := hl
                      refine lv_iinc (k := 2) (v := 5) hx hb d_MO_type_87 hl rfl (by decide) (by decide) rfl (fun ls hl => ?_)
                      have hl : lv_has ls 8 [(5, .int 5), (4, .int 0), (6, .long (bm x 4)), (0, .ref m0), (1, .long x), (3, .int 5)] := hl
                      refine lv_goto (tgt := 38) hx hb d_MO_type_90 (by decide) ?_
                      refine lv_iload hx hb d_MO_type_38 (lv_at hl 1 rfl) ?_
                      refine lv_if_eq (tgt := 93) hx hb d_MO_type_40 (by decide) (fun _ => ?_) (fun h9 => absurd (by decide) h9)
                      refine lv_iload hx hb d_MO_type_93 (lv_at hl 1 rfl) ?_
                      refine lv_if_ne (tgt := 100) hx hb d_MO_type_95 (by decide) (fun h9 => absurd (by decide) h9) (fun _ => ?_)
                      refine lv_iconst (v := (-1)) hx hb d_MO_type_98 (by decide) ?_
                      have hP9 := hP.sub (ws' := [(m0, .inr (9, [.int 0, .ref f_text, .int 0, .int (-1), .ref f_kinds, .ref f_places, .ref f_values, .int 0, .ref f_draftLetters, .int 0, .int 0, .int 0, .ref f_draftNumbers, .ref f_draftSigns, .int 0, .int 0, .int 0, .int 0, .ref f_letters, .ref f_numbers, .ref f_isList, .ref f_bounds, .ref f_sizes, .ref f_lists, .ref f_told, .ref f_costs, .int 0, .ref f_times, .int 0, .ref f_bestOne, .ref f_basis, .int 0, .ref f_one, .int 0, .ref f_along, .ref f_now]))]) [0] rfl
                      have hD9 := hD.sub (ws' := [(m0, .inr (9, [.int 0, .ref f_text, .int 0, .int (-1), .ref f_kinds, .ref f_places, .ref f_values, .int 0, .ref f_draftLetters, .int 0, .int 0, .int 0, .ref f_draftNumbers, .ref f_draftSigns, .int 0, .int 0, .int 0, .int 0, .ref f_letters, .ref f_numbers, .ref f_isList, .ref f_bounds, .ref f_sizes, .ref f_lists, .ref f_told, .ref f_costs, .int 0, .ref f_times, .int 0, .ref f_bestOne, .ref f_basis, .int 0, .ref f_one, .int 0, .ref f_along, .ref f_now]))]) [0] (by decide) rfl
                      have hK9 := hK.sub (tys' := []) [] rfl
                      exact W.iret (v := (-1)) hx hb hr (fun t ht hW => ⟨⟨(-1), (), rfl, rfl, by rw [ht]; exact hP9, va_K.moved hW.alike hK9, hD9⟩, hS.F ht⟩) hS.2.2 d_MO_type_99
                    · refine lv_iconst (v := 1) hx hb d_MO_type_80 (by decide) ?_
                      refine lv_goto (tgt := 85) hx hb d_MO_type_81 (by decide) ?_
                      refine lv_istore hx hb d_MO_type_85 hl (by decide) rfl (fun ls hl => ?_)
                      have hl : lv_has ls 8 [(4, .int 1), (6, .long (bm x 4)), (5, .int 4), (0, .ref m0), (1, .long x), (3, .int 5)] := hl
                      refine lv_iinc (k := 2) (v := 5) hx hb d_MO_type_87 hl rfl (by decide) (by decide) rfl (fun ls hl => ?_)
                      have hl : lv_has ls 8 [(5, .int 5), (4, .int 1), (6, .long (bm x 4)), (0, .ref m0), (1, .long x), (3, .int 5)] := hl
                      refine lv_goto (tgt := 38) hx hb d_MO_type_90 (by decide) ?_
                      refine lv_iload hx hb d_MO_type_38 (lv_at hl 1 rfl) ?_
                      refine lv_if_eq (tgt := 93) hx hb d_MO_type_40 (by decide) (fun h9 => absurd h9 (by decide)) (fun _ => ?_)
                      refine lv_iload hx hb d_MO_type_43 (lv_at hl 0 rfl) ?_
                      refine lv_iload_n hx hb d_MO_type_45 rfl (lv_at hl 5 rfl) ?_
                      refine lv_icmp_ge (tgt := 93) hx hb d_MO_type_46 (by decide) (fun _ => ?_) (fun h9 => absurd (by decide) h9)
                      refine lv_iload hx hb d_MO_type_93 (lv_at hl 1 rfl) ?_
                      refine lv_if_ne (tgt := 100) hx hb d_MO_type_95 (by decide) (fun _ => ?_) (fun h9 => absurd h9 (by decide))
                      exact absurd ⟨okm (d := 0) (by decide +kernel) (by decide) hc1 hc2, okm (d := 8) (by decide +kernel) (by decide) hc3 hc4, okm (d := 16) (by decide +kernel) (by decide) hc5 hc6, okm (d := 24) (by decide +kernel) (by decide) hc7 hc8, okm (d := 32) (by decide +kernel) (by decide) hc9 hc10⟩ g

set_option maxHeartbeats 4000000 in
set_option maxRecDepth 100000 in
theorem c_MO_type_6y (l : Launch) (dC : Nat → ClassId) (dI : Nat → Nat → Nat) (m0 : Nat) (f_text : Nat) (f_kinds : Nat) (f_places : Nat) (f_values : Nat) (f_draftLetters : Nat) (f_draftNumbers : Nat) (f_draftSigns : Nat) (f_letters : Nat) (f_numbers : Nat) (f_isList : Nat) (f_bounds : Nat) (f_sizes : Nat) (f_lists : Nat) (f_told : Nat) (f_costs : Nat) (f_times : Nat) (f_bestOne : Nat) (f_basis : Nat) (f_one : Nat) (f_along : Nat) (f_now : Nat) (th : Int32) (cX : ClassId) (x : Int64) (sz : Nat) (g : ok x 0 ∧ ok x 8 ∧ ok x 16 ∧ ok x 24 ∧ ok x 32 ∧ ok x 40) : Met l y_MO_type (Cond.code y_MO_type b_MO_type 8 (Option.some Jvm.ClassFile.FieldType.int) :: wd) { frames := 0, cells := 0, slots := 0, locals := 0 } (va_Pc [.ref m0, .long x, .int 6] (fun U => U.heap.size = sz ∧ va_P (dC, dI) cls [(m0, .inr (9, [.int th, .ref f_text, .int 0, .int (-1), .ref f_kinds, .ref f_places, .ref f_values, .int 0, .ref f_draftLetters, .int 0, .int 0, .int 0, .ref f_draftNumbers, .ref f_draftSigns, .int 0, .int 0, .int 0, .int 0, .ref f_letters, .ref f_numbers, .ref f_isList, .ref f_bounds, .ref f_sizes, .ref f_lists, .ref f_told, .ref f_costs, .int 0, .ref f_times, .int 0, .ref f_bestOne, .ref f_basis, .int 0, .ref f_one, .int 0, .ref f_along, .ref f_now])), (f_text, .inl (cX, 300, .inl (fun _ => (0 : Int32))))] U.heap ∧ va_K (dC, dI) cls [(cX, .int)] U ∧ va_D (fun _ => True) [(m0, .inr (9, [.int th, .ref f_text, .int 0, .int (-1), .ref f_kinds, .ref f_places, .ref f_values, .int 0, .ref f_draftLetters, .int 0, .int 0, .int 0, .ref f_draftNumbers, .ref f_draftSigns, .int 0, .int 0, .int 0, .int 0, .ref f_letters, .ref f_numbers, .ref f_isList, .ref f_bounds, .ref f_sizes, .ref f_lists, .ref f_told, .ref f_costs, .int 0, .ref f_times, .int 0, .ref f_bestOne, .ref f_basis, .int 0, .ref f_one, .int 0, .ref f_along, .ref f_now])), (f_text, .inl (cX, 300, .inl (fun _ => (0 : Int32))))] ∧ nw_ok U)) (va_Qi (fun r (_ : Unit) => r = 6) (fun (_ : Unit) t => va_P (dC, dI) cls [(m0, .inr (9, [.int 0, .ref f_text, .int 6, .int (-1), .ref f_kinds, .ref f_places, .ref f_values, .int 0, .ref f_draftLetters, .int 0, .int 0, .int 0, .ref f_draftNumbers, .ref f_draftSigns, .int 0, .int 0, .int 0, .int 0, .ref f_letters, .ref f_numbers, .ref f_isList, .ref f_bounds, .ref f_sizes, .ref f_lists, .ref f_told, .ref f_costs, .int 0, .ref f_times, .int 0, .ref f_bestOne, .ref f_basis, .int 0, .ref f_one, .int 0, .ref f_along, .ref f_now]))] t.heap ∧ va_K (dC, dI) cls [(cX, .int)] t ∧ va_D (va_A [(m0, .inr (9, [.int th, .ref f_text, .int 0, .int (-1), .ref f_kinds, .ref f_places, .ref f_values, .int 0, .ref f_draftLetters, .int 0, .int 0, .int 0, .ref f_draftNumbers, .ref f_draftSigns, .int 0, .int 0, .int 0, .int 0, .ref f_letters, .ref f_numbers, .ref f_isList, .ref f_bounds, .ref f_sizes, .ref f_lists, .ref f_told, .ref f_costs, .int 0, .ref f_times, .int 0, .ref f_bestOne, .ref f_basis, .int 0, .ref f_one, .int 0, .ref f_along, .ref f_now])), (f_text, .inl (cX, 300, .inl (fun _ => (0 : Int32))))] sz) [(m0, .inr (9, [.int 0, .ref f_text, .int 6, .int (-1), .ref f_kinds, .ref f_places, .ref f_values, .int 0, .ref f_draftLetters, .int 0, .int 0, .int 0, .ref f_draftNumbers, .ref f_draftSigns, .int 0, .int 0, .int 0, .int 0, .ref f_letters, .ref f_numbers, .ref f_isList, .ref f_bounds, .ref f_sizes, .ref f_lists, .ref f_told, .ref f_costs, .int 0, .ref f_times, .int 0, .ref f_bestOne, .ref f_basis, .int 0, .ref f_one, .int 0, .ref f_along, .ref f_now]))]) (va_A [(m0, .inr (9, [.int th, .ref f_text, .int 0, .int (-1), .ref f_kinds, .ref f_places, .ref f_values, .int 0, .ref f_draftLetters, .int 0, .int 0, .int 0, .ref f_draftNumbers, .ref f_draftSigns, .int 0, .int 0, .int 0, .int 0, .ref f_letters, .ref f_numbers, .ref f_isList, .ref f_bounds, .ref f_sizes, .ref f_lists, .ref f_told, .ref f_costs, .int 0, .ref f_times, .int 0, .ref f_bestOne, .ref f_basis, .int 0, .ref f_one, .int 0, .ref f_along, .ref f_now])), (f_text, .inl (cX, 300, .inl (fun _ => (0 : Int32))))] sz)) 0 0 (va_A [(m0, .inr (9, [.int th, .ref f_text, .int 0, .int (-1), .ref f_kinds, .ref f_places, .ref f_values, .int 0, .ref f_draftLetters, .int 0, .int 0, .int 0, .ref f_draftNumbers, .ref f_draftSigns, .int 0, .int 0, .int 0, .int 0, .ref f_letters, .ref f_numbers, .ref f_isList, .ref f_bounds, .ref f_sizes, .ref f_lists, .ref f_told, .ref f_costs, .int 0, .ref f_times, .int 0, .ref f_bestOne, .ref f_basis, .int 0, .ref f_one, .int 0, .ref f_along, .ref f_now])), (f_text, .inl (cX, 300, .inl (fun _ => (0 : Int32))))] sz) := by
  refine Met.ofW (cc := b_MO_type) (maxL := 8) (ret := (Option.some Jvm.ClassFile.FieldType.int)) (by decide) rfl ?_
  intro p e s m args below meth c s₁ B hml hv
  obtain ⟨rfl, hsz, hP, hK, hD0, hN⟩ := hv
  have hx := B.exec
  have hb := B.bytes
  have hr := B.returns
  have hlocks := B.notSynchronized
  have hts : ∀ w ∈ wd, w.before ([.ref m0, .long x, .int 6] : List Value).toArray s = true := fun w hw => atoms_spec (ws := (Cond.code y_MO_type b_MO_type 8 (Option.some Jvm.ClassFile.FieldType.int) :: wd)) B.pre w (List.mem_cons_of_mem _ hw)
  have hown : s.vm.findClass "LeastSolutionsModel" = some m.cls := findClass_of_methodNamed B.named
  subst hsz
  have hD := hD0.self (sz := s.heap.size)
  generalize hAe : va_A [(m0, .inr (9, [.int th, .ref f_text, .int 0, .int (-1), .ref f_kinds, .ref f_places, .ref f_values, .int 0, .ref f_draftLetters, .int 0, .int 0, .int 0, .ref f_draftNumbers, .ref f_draftSigns, .int 0, .int 0, .int 0, .int 0, .ref f_letters, .ref f_numbers, .ref f_isList, .ref f_bounds, .ref f_sizes, .ref f_lists, .ref f_told, .ref f_costs, .int 0, .ref f_times, .int 0, .ref f_bestOne, .ref f_basis, .int 0, .ref f_one, .int 0, .ref f_along, .ref f_now])), (f_text, .inl (cX, 300, .inl (fun _ => (0 : Int32))))] s.heap.size = A at hD ⊢
  have hA : ∀ q : Nat, s.heap.size ≤ q → A q := fun q h => by rw [← hAe]; exact Or.inr h
  have hS : va_S A s.heap s.heap [] := va_S.rf
  have hl := lv_entry ([.ref m0, .long x, .int 6]) (n := 8) (Nat.le_of_ble_eq_true rfl)
  rw [lg_entry_eq]
  generalize (lg_sl ([.ref m0, .long x, .int 6]) ++ List.replicate (8 - (lg_sl ([.ref m0, .long x, .int 6])).length) Slot.unset).toArray = ls at hl ⊢
  have hl : lv_has ls 8 [(0, .ref m0), (1, .long x), (3, .int 6)] := hl
  refine lv_aload_n hx hb d_MO_type_0 rfl (lv_at hl 0 rfl) ?_
  refine lv_iconst (v := 0) hx hb d_MO_type_1 (by decide) ?_
  refine va_put (D := (dC, dI)) (ci := 9) (v := .int 0) (ty := .int) (C := R_MO) (T := T_MO) (N := 36) hx hb hts in_MO t_MO t_MO_ok n_MO hown hK hP hD hS 0 rfl rfl 0 (by decide) (hts _ k_886) (fun _ h9 => h9) rfl (by decide +kernel) rfl rfl (Nat.le_of_ble_eq_true rfl) d_MO_type_2 (fun H1 locs hP hD hS => ?_)
  have hP : va_P (dC, dI) cls [(m0, .inr (9, [.int 0, .ref f_text, .int 0, .int (-1), .ref f_kinds, .ref f_places, .ref f_values, .int 0, .ref f_draftLetters, .int 0, .int 0, .int 0, .ref f_draftNumbers, .ref f_draftSigns, .int 0, .int 0, .int 0, .int 0, .ref f_letters, .ref f_numbers, .ref f_isList, .ref f_bounds, .ref f_sizes, .ref f_lists, .ref f_told, .ref f_costs, .int 0, .ref f_times, .int 0, .ref f_bestOne, .ref f_basis, .int 0, .ref f_one, .int 0, .ref f_along, .ref f_now])), (f_text, .inl (cX, 300, .inl (fun _ => (0 : Int32))))] H1 := hP
  have hD : va_D A [(m0, .inr (9, [.int 0, .ref f_text, .int 0, .int (-1), .ref f_kinds, .ref f_places, .ref f_values, .int 0, .ref f_draftLetters, .int 0, .int 0, .int 0, .ref f_draftNumbers, .ref f_draftSigns, .int 0, .int 0, .int 0, .int 0, .ref f_letters, .ref f_numbers, .ref f_isList, .ref f_bounds, .ref f_sizes, .ref f_lists, .ref f_told, .ref f_costs, .int 0, .ref f_times, .int 0, .ref f_bestOne, .ref f_basis, .int 0, .ref f_one, .int 0, .ref f_along, .ref f_now])), (f_text, .inl (cX, 300, .inl (fun _ => (0 : Int32))))] := hD
  refine lv_iload_n hx hb d_MO_type_5 rfl (lv_at hl 2 rfl) ?_
  refine lv_iconst (v := 1) hx hb d_MO_type_6 (by decide) ?_
  refine lv_icmp_lt (tgt := 32) hx hb d_MO_type_7 (by decide) (fun h9 => absurd h9 (by decide)) (fun _ => ?_)
  refine lv_iload_n hx hb d_MO_type_10 rfl (lv_at hl 2 rfl) ?_
  refine lv_bipush (v := 8) hx hb d_MO_type_11 (by decide) ?_
  refine lv_icmp_gt (tgt := 32) hx hb d_MO_type_13 (by decide) (fun h9 => absurd h9 (by decide)) (fun _ => ?_)
  refine lv_aload_n hx hb d_MO_type_16 rfl (lv_at hl 0 rfl) ?_
  refine va_get (D := (dC, dI)) (ci := 9) (v := .int 0) (C := R_MO) (T := T_MO) (N := 36) hx hb hts in_MO hown hK hP 0 rfl rfl 2 (by decide) (hts _ k_888) (fun _ h9 => h9) rfl d_MO_type_17 ?_
  refine lv_iload_n hx hb d_MO_type_20 rfl (lv_at hl 2 rfl) ?_
  refine lv_iadd hx hb d_MO_type_21 ?_
  refine W.eq (g2 := F0 m 22 ls [.int 6]) rfl ?_
  refine lv_sipush (v := 300) hx hb d_MO_type_22 (by decide) ?_
  refine lv_icmp_gt (tgt := 32) hx hb d_MO_type_25 (by decide) (fun h9 => absurd h9 (by decide)) (fun _ => ?_)
  refine lv_iconst (v := 1) hx hb d_MO_type_28 (by decide) ?_
  refine lv_goto (tgt := 33) hx hb d_MO_type_29 (by decide) ?_
  refine lv_istore hx hb d_MO_type_33 hl (by decide) rfl (fun ls hl => ?_)
  have hl : lv_has ls 8 [(4, .int 1), (0, .ref m0), (1, .long x), (3, .int 6)] := hl
  refine lv_iconst (v := 0) hx hb d_MO_type_35 (by decide) ?_
  refine lv_istore hx hb d_MO_type_36 hl (by decide) rfl (fun ls hl => ?_)
  have hl : lv_has ls 8 [(5, .int 0), (4, .int 1), (0, .ref m0), (1, .long x), (3, .int 6)] := hl
  refine lv_iload hx hb d_MO_type_38 (lv_at hl 1 rfl) ?_
  refine lv_if_eq (tgt := 93) hx hb d_MO_type_40 (by decide) (fun h9 => absurd h9 (by decide)) (fun _ => ?_)
  refine lv_iload hx hb d_MO_type_43 (lv_at hl 0 rfl) ?_
  refine lv_iload_n hx hb d_MO_type_45 rfl (lv_at hl 4 rfl) ?_
  refine lv_icmp_ge (tgt := 93) hx hb d_MO_type_46 (by decide) (fun h9 => absurd h9 (by decide)) (fun _ => ?_)
  refine lv_lload_n hx hb d_MO_type_49 rfl (lv_at hl 3 rfl) ?_
  refine lv_bipush (v := 8) hx hb d_MO_type_50 (by decide) ?_
  refine lv_iload hx hb d_MO_type_52 (lv_at hl 0 rfl) ?_
  refine lv_imul hx hb d_MO_type_54 ?_
  refine lv_lshr (v := (x >>> (((8 * 0) : Int32).toInt64 &&& 63))) hx hb d_MO_type_55 rfl ?_
  refine lv_ldc2 (v := 255) hx hb hown (hts _ k_1004) d_MO_type_56 ?_
  refine lv_land hx hb d_MO_type_59 ?_
  refine W.eq (g2 := F0 m 60 ls [.long (bm x 0)]) rfl ?_
  refine lv_lstore hx hb d_MO_type_60 hl (by decide) rfl (fun ls hl => ?_)
  have hl : lv_has ls 8 [(6, .long (bm x 0)), (5, .int 0), (4, .int 1), (0, .ref m0), (1, .long x), (3, .int 6)] := hl
  refine lv_lload hx hb d_MO_type_62 (lv_at hl 0 rfl) ?_
  refine lv_ldc2 (v := 32) hx hb hown (hts _ k_1005) d_MO_type_64 ?_
  refine W.lcmp hx hb d_MO_type_67 ?_
  refine lv_if_lt (tgt := 84) hx hb d_MO_type_68 (by decide) (fun h9 => absurd h9 (okm1 (d := 0) (by decide +kernel) (by decide) (g.1))) (fun _ => ?_)
  refine lv_lload hx hb d_MO_type_71 (lv_at hl 0 rfl) ?_
  refine lv_ldc2 (v := 126) hx hb hown (hts _ k_1006) d_MO_type_73 ?_
  refine W.lcmp hx hb d_MO_type_76 ?_
  refine lv_if_gt (tgt := 84) hx hb d_MO_type_77 (by decide) (fun h9 => absurd h9 (okm2 (d := 0) (by decide +kernel) (by decide) (g.1))) (fun _ => ?_)
  refine lv_iconst (v := 1) hx hb d_MO_type_80 (by decide) ?_
  refine lv_goto (tgt := 85) hx hb d_MO_type_81 (by decide) ?_
  refine lv_istore hx hb d_MO_type_85 hl (by decide) rfl (fun ls hl => ?_)
  have hl : lv_has ls 8 [(4, .int 1), (6, .long (bm x 0)), (5, .int 0), (0, .ref m0), (1, .long x), (3, .int 6)] := hl
  refine lv_iinc (k := 2) (v := 1) hx hb d_MO_type_87 hl rfl (by decide) (by decide) rfl (fun ls hl => ?_)
  have hl : lv_has ls 8 [(5, .int 1), (4, .int 1), (6, .long (bm x 0)), (0, .ref m0), (1, .long x), (3, .int 6)] := hl
  refine lv_goto (tgt := 38) hx hb d_MO_type_90 (by decide) ?_
  refine lv_iload hx hb d_MO_type_38 (lv_at hl 1 rfl) ?_
  refine lv_if_eq (tgt := 93) hx hb d_MO_type_40 (by decide) (fun h9 => absurd h9 (by decide)) (fun _ => ?_)
  refine lv_iload hx hb d_MO_type_43 (lv_at hl 0 rfl) ?_
  refine lv_iload_n hx hb d_MO_type_45 rfl (lv_at hl 5 rfl) ?_
  refine lv_icmp_ge (tgt := 93) hx hb d_MO_type_46 (by decide) (fun h9 => absurd h9 (by decide)) (fun _ => ?_)
  refine lv_lload_n hx hb d_MO_type_49 rfl (lv_at hl 4 rfl) ?_
  refine lv_bipush (v := 8) hx hb d_MO_type_50 (by decide) ?_
  refine lv_iload hx hb d_MO_type_52 (lv_at hl 0 rfl) ?_
  refine lv_imul hx hb d_MO_type_54 ?_
  refine lv_lshr (v := (x >>> (((8 * 1) : Int32).toInt64 &&& 63))) hx hb d_MO_type_55 rfl ?_
  refine lv_ldc2 (v := 255) hx hb hown (hts _ k_1004) d_MO_type_56 ?_
  refine lv_land hx hb d_MO_type_59 ?_
  refine W.eq (g2 := F0 m 60 ls [.long (bm x 1)]) rfl ?_
  refine lv_lstore hx hb d_MO_type_60 hl (by decide) rfl (fun ls hl => ?_)
  have hl : lv_has ls 8 [(6, .long (bm x 1)), (5, .int 1), (4, .int 1), (0, .ref m0), (1, .long x), (3, .int 6)] := hl
  refine lv_lload hx hb d_MO_type_62 (lv_at hl 0 rfl) ?_
  refine lv_ldc2 (v := 32) hx hb hown (hts _ k_1005) d_MO_type_64 ?_
  refine W.lcmp hx hb d_MO_type_67 ?_
  refine lv_if_lt (tgt := 84) hx hb d_MO_type_68 (by decide) (fun h9 => absurd h9 (okm1 (d := 8) (by decide +kernel) (by decide) (g.2.1))) (fun _ => ?_)
  refine lv_lload hx hb d_MO_type_71 (lv_at hl 0 rfl) ?_
  refine lv_ldc2 (v := 126) hx hb hown (hts _ k_1006) d_MO_type_73 ?_
  refine W.lcmp hx hb d_MO_type_76 ?_
  refine lv_if_gt (tgt := 84) hx hb d_MO_type_77 (by decide) (fun h9 => absurd h9 (okm2 (d := 8) (by decide +kernel) (by decide) (g.2.1))) (fun _ => ?_)
  refine lv_iconst (v := 1) hx hb d_MO_type_80 (by decide) ?_
  refine lv_goto (tgt := 85) hx hb d_MO_type_81 (by decide) ?_
  refine lv_istore hx hb d_MO_type_85 hl (by decide) rfl (fun ls hl => ?_)
  have hl : lv_has ls 8 [(4, .int 1), (6, .long (bm x 1)), (5, .int 1), (0, .ref m0), (1, .long x), (3, .int 6)] := hl
  refine lv_iinc (k := 2) (v := 2) hx hb d_MO_type_87 hl rfl (by decide) (by decide) rfl (fun ls hl => ?_)
  have hl : lv_has ls 8 [(5, .int 2), (4, .int 1), (6, .long (bm x 1)), (0, .ref m0), (1, .long x), (3, .int 6)] := hl
  refine lv_goto (tgt := 38) hx hb d_MO_type_90 (by decide) ?_
  refine lv_iload hx hb d_MO_type_38 (lv_at hl 1 rfl) ?_
  refine lv_if_eq (tgt := 93) hx hb d_MO_type_40 (by decide) (fun h9 => absurd h9 (by decide)) (fun _ => ?_)
  refine lv_iload hx hb d_MO_type_43 (lv_at hl 0 rfl) ?_
  refine lv_iload_n hx hb d_MO_type_45 rfl (lv_at hl 5 rfl) ?_
  refine lv_icmp_ge (tgt := 93) hx hb d_MO_type_46 (by decide) (fun h9 => absurd h9 (by decide)) (fun _ => ?_)
  refine lv_lload_n hx hb d_MO_type_49 rfl (lv_at hl 4 rfl) ?_
  refine lv_bipush (v := 8) hx hb d_MO_type_50 (by decide) ?_
  refine lv_iload hx hb d_MO_type_52 (lv_at hl 0 rfl) ?_
  refine lv_imul hx hb d_MO_type_54 ?_
  refine lv_lshr (v := (x >>> (((8 * 2) : Int32).toInt64 &&& 63))) hx hb d_MO_type_55 rfl ?_
  refine lv_ldc2 (v := 255) hx hb hown (hts _ k_1004) d_MO_type_56 ?_
  refine lv_land hx hb d_MO_type_59 ?_
  refine W.eq (g2 := F0 m 60 ls [.long (bm x 2)]) rfl ?_
  refine lv_lstore hx hb d_MO_type_60 hl (by decide) rfl (fun ls hl => ?_)
  have hl : lv_has ls 8 [(6, .long (bm x 2)), (5, .int 2), (4, .int 1), (0, .ref m0), (1, .long x), (3, .int 6)] := hl
  refine lv_lload hx hb d_MO_type_62 (lv_at hl 0 rfl) ?_
  refine lv_ldc2 (v := 32) hx hb hown (hts _ k_1005) d_MO_type_64 ?_
  refine W.lcmp hx hb d_MO_type_67 ?_
  refine lv_if_lt (tgt := 84) hx hb d_MO_type_68 (by decide) (fun h9 => absurd h9 (okm1 (d := 16) (by decide +kernel) (by decide) (g.2.2.1))) (fun _ => ?_)
  refine lv_lload hx hb d_MO_type_71 (lv_at hl 0 rfl) ?_
  refine lv_ldc2 (v := 126) hx hb hown (hts _ k_1006) d_MO_type_73 ?_
  refine W.lcmp hx hb d_MO_type_76 ?_
  refine lv_if_gt (tgt := 84) hx hb d_MO_type_77 (by decide) (fun h9 => absurd h9 (okm2 (d := 16) (by decide +kernel) (by decide) (g.2.2.1))) (fun _ => ?_)
  refine lv_iconst (v := 1) hx hb d_MO_type_80 (by decide) ?_
  refine lv_goto (tgt := 85) hx hb d_MO_type_81 (by decide) ?_
  refine lv_istore hx hb d_MO_type_85 hl (by decide) rfl (fun ls hl => ?_)
  have hl : lv_has ls 8 [(4, .int 1), (6, .long (bm x 2)), (5, .int 2), (0, .ref m0), (1, .long x), (3, .int 6)] := hl
  refine lv_iinc (k := 2) (v := 3) hx hb d_MO_type_87 hl rfl (by decide) (by decide) rfl (fun ls hl => ?_)
  have hl : lv_has ls 8 [(5, .int 3), (4, .int 1), (6, .long (bm x 2)), (0, .ref m0), (1, .long x), (3, .int 6)] := hl
  refine lv_goto (tgt := 38) hx hb d_MO_type_90 (by decide) ?_
  refine lv_iload hx hb d_MO_type_38 (lv_at hl 1 rfl) ?_
  refine lv_if_eq (tgt := 93) hx hb d_MO_type_40 (by decide) (fun h9 => absurd h9 (by decide)) (fun _ => ?_)
  refine lv_iload hx hb d_MO_type_43 (lv_at hl 0 rfl) ?_
  refine lv_iload_n hx hb d_MO_type_45 rfl (lv_at hl 5 rfl) ?_
  refine lv_icmp_ge (tgt := 93) hx hb d_MO_type_46 (by decide) (fun h9 => absurd h9 (by decide)) (fun _ => ?_)
  refine lv_lload_n hx hb d_MO_type_49 rfl (lv_at hl 4 rfl) ?_
  refine lv_bipush (v := 8) hx hb d_MO_type_50 (by decide) ?_
  refine lv_iload hx hb d_MO_type_52 (lv_at hl 0 rfl) ?_
  refine lv_imul hx hb d_MO_type_54 ?_
  refine lv_lshr (v := (x >>> (((8 * 3) : Int32).toInt64 &&& 63))) hx hb d_MO_type_55 rfl ?_
  refine lv_ldc2 (v := 255) hx hb hown (hts _ k_1004) d_MO_type_56 ?_
  refine lv_land hx hb d_MO_type_59 ?_
  refine W.eq (g2 := F0 m 60 ls [.long (bm x 3)]) rfl ?_
  refine lv_lstore hx hb d_MO_type_60 hl (by decide) rfl (fun ls hl => ?_)
  have hl : lv_has ls 8 [(6, .long (bm x 3)), (5, .int 3), (4, .int 1), (0, .ref m0), (1, .long x), (3, .int 6)] := hl
  refine lv_lload hx hb d_MO_type_62 (lv_at hl 0 rfl) ?_
  refine lv_ldc2 (v := 32) hx hb hown (hts _ k_1005) d_MO_type_64 ?_
  refine W.lcmp hx hb d_MO_type_67 ?_
  refine lv_if_lt (tgt := 84) hx hb d_MO_type_68 (by decide) (fun h9 => absurd h9 (okm1 (d := 24) (by decide +kernel) (by decide) (g.2.2.2.1))) (fun _ => ?_)
  refine lv_lload hx hb d_MO_type_71 (lv_at hl 0 rfl) ?_
  refine lv_ldc2 (v := 126) hx hb hown (hts _ k_1006) d_MO_type_73 ?_
  refine W.lcmp hx hb d_MO_type_76 ?_
  refine lv_if_gt (tgt := 84) hx hb d_MO_type_77 (by decide) (fun h9 => absurd h9 (okm2 (d := 24) (by decide +kernel) (by decide) (g.2.2.2.1))) (fun _ => ?_)
  refine lv_iconst (v := 1) hx hb d_MO_type_80 (by decide) ?_
  refine lv_goto (tgt := 85) hx hb d_MO_type_81 (by decide) ?_
  refine lv_istore hx hb d_MO_type_85 hl (by decide) rfl (fun ls hl => ?_)
  have hl : lv_has ls 8 [(4, .int 1), (6, .long (bm x 3)), (5, .int 3), (0, .ref m0), (1, .long x), (3, .int 6)] := hl
  refine lv_iinc (k := 2) (v := 4) hx hb d_MO_type_87 hl rfl (by decide) (by decide) rfl (fun ls hl => ?_)
  have hl : lv_has ls 8 [(5, .int 4), (4, .int 1), (6, .long (bm x 3)), (0, .ref m0), (1, .long x), (3, .int 6)] := hl
  refine lv_goto (tgt := 38) hx hb d_MO_type_90 (by decide) ?_
  refine lv_iload hx hb d_MO_type_38 (lv_at hl 1 rfl) ?_
  refine lv_if_eq (tgt := 93) hx hb d_MO_type_40 (by decide) (fun h9 => absurd h9 (by decide)) (fun _ => ?_)
  refine lv_iload hx hb d_MO_type_43 (lv_at hl 0 rfl) ?_
  refine lv_iload_n hx hb d_MO_type_45 rfl (lv_at hl 5 rfl) ?_
  refine lv_icmp_ge (tgt := 93) hx hb d_MO_type_46 (by decide) (fun h9 => absurd h9 (by decide)) (fun _ => ?_)
  refine lv_lload_n hx hb d_MO_type_49 rfl (lv_at hl 4 rfl) ?_
  refine lv_bipush (v := 8) hx hb d_MO_type_50 (by decide) ?_
  refine lv_iload hx hb d_MO_type_52 (lv_at hl 0 rfl) ?_
  refine lv_imul hx hb d_MO_type_54 ?_
  refine lv_lshr (v := (x >>> (((8 * 4) : Int32).toInt64 &&& 63))) hx hb d_MO_type_55 rfl ?_
  refine lv_ldc2 (v := 255) hx hb hown (hts _ k_1004) d_MO_type_56 ?_
  refine lv_land hx hb d_MO_type_59 ?_
  refine W.eq (g2 := F0 m 60 ls [.long (bm x 4)]) rfl ?_
  refine lv_lstore hx hb d_MO_type_60 hl (by decide) rfl (fun ls hl => ?_)
  have hl : lv_has ls 8 [(6, .long (bm x 4)), (5, .int 4), (4, .int 1), (0, .ref m0), (1, .long x), (3, .int 6)] := hl
  refine lv_lload hx hb d_MO_type_62 (lv_at hl 0 rfl) ?_
  refine lv_ldc2 (v := 32) hx hb hown (hts _ k_1005) d_MO_type_64 ?_
  refine W.lcmp hx hb d_MO_type_67 ?_
  refine lv_if_lt (tgt := 84) hx hb d_MO_type_68 (by decide) (fun h9 => absurd h9 (okm1 (d := 32) (by decide +kernel) (by decide) (g.2.2.2.2.1))) (fun _ => ?_)
  refine lv_lload hx hb d_MO_type_71 (lv_at hl 0 rfl) ?_
  refine lv_ldc2 (v := 126) hx hb hown (hts _ k_1006) d_MO_type_73 ?_
  refine W.lcmp hx hb d_MO_type_76 ?_
  refine lv_if_gt (tgt := 84) hx hb d_MO_type_77 (by decide) (fun h9 => absurd h9 (okm2 (d := 32) (by decide +kernel) (by decide) (g.2.2.2.2.1))) (fun _ => ?_)
  refine lv_iconst (v := 1) hx hb d_MO_type_80 (by decide) ?_
  refine lv_goto (tgt := 85) hx hb d_MO_type_81 (by decide) ?_
  refine lv_istore hx hb d_MO_type_85 hl (by decide) rfl (fun ls hl => ?_)
  have hl : lv_has ls 8 [(4, .int 1), (6, .long (bm x 4)), (5, .int 4), (0, .ref m0), (1, .long x), (3, .int 6)] := hl
  refine lv_iinc (k := 2) (v := 5) hx hb d_MO_type_87 hl rfl (by decide) (by decide) rfl (fun ls hl => ?_)
  have hl : lv_has ls 8 [(5, .int 5), (4, .int 1), (6, .long (bm x 4)), (0, .ref m0), (1, .long x), (3, .int 6)] := hl
  refine lv_goto (tgt := 38) hx hb d_MO_type_90 (by decide) ?_
  refine lv_iload hx hb d_MO_type_38 (lv_at hl 1 rfl) ?_
  refine lv_if_eq (tgt := 93) hx hb d_MO_type_40 (by decide) (fun h9 => absurd h9 (by decide)) (fun _ => ?_)
  refine lv_iload hx hb d_MO_type_43 (lv_at hl 0 rfl) ?_
  refine lv_iload_n hx hb d_MO_type_45 rfl (lv_at hl 5 rfl) ?_
  refine lv_icmp_ge (tgt := 93) hx hb d_MO_type_46 (by decide) (fun h9 => absurd h9 (by decide)) (fun _ => ?_)
  refine lv_lload_n hx hb d_MO_type_49 rfl (lv_at hl 4 rfl) ?_
  refine lv_bipush (v := 8) hx hb d_MO_type_50 (by decide) ?_
  refine lv_iload hx hb d_MO_type_52 (lv_at hl 0 rfl) ?_
  refine lv_imul hx hb d_MO_type_54 ?_
  refine lv_lshr (v := (x >>> (((8 * 5) : Int32).toInt64 &&& 63))) hx hb d_MO_type_55 rfl ?_
  refine lv_ldc2 (v := 255) hx hb hown (hts _ k_1004) d_MO_type_56 ?_
  refine lv_land hx hb d_MO_type_59 ?_
  refine W.eq (g2 := F0 m 60 ls [.long (bm x 5)]) rfl ?_
  refine lv_lstore hx hb d_MO_type_60 hl (by decide) rfl (fun ls hl => ?_)
  have hl : lv_has ls 8 [(6, .long (bm x 5)), (5, .int 5), (4, .int 1), (0, .ref m0), (1, .long x), (3, .int 6)] := hl
  refine lv_lload hx hb d_MO_type_62 (lv_at hl 0 rfl) ?_
  refine lv_ldc2 (v := 32) hx hb hown (hts _ k_1005) d_MO_type_64 ?_
  refine W.lcmp hx hb d_MO_type_67 ?_
  refine lv_if_lt (tgt := 84) hx hb d_MO_type_68 (by decide) (fun h9 => absurd h9 (okm1 (d := 40) (by decide +kernel) (by decide) (g.2.2.2.2.2))) (fun _ => ?_)
  refine lv_lload hx hb d_MO_type_71 (lv_at hl 0 rfl) ?_
  refine lv_ldc2 (v := 126) hx hb hown (hts _ k_1006) d_MO_type_73 ?_
  refine W.lcmp hx hb d_MO_type_76 ?_
  refine lv_if_gt (tgt := 84) hx hb d_MO_type_77 (by decide) (fun h9 => absurd h9 (okm2 (d := 40) (by decide +kernel) (by decide) (g.2.2.2.2.2))) (fun _ => ?_)
  refine lv_iconst (v := 1) hx hb d_MO_type_80 (by decide) ?_
  refine lv_goto (tgt := 85) hx hb d_MO_type_81 (by decide) ?_
  refine lv_istore hx hb d_MO_type_85 hl (by decide) rfl (fun ls hl => ?_)
  have hl : lv_has ls 8 [(4, .int 1), (6, .long (bm x 5)), (5, .int 5), (0, .ref m0), (1, .long x), (3, .int 6)] := hl
  refine lv_iinc (k := 2) (v := 6) hx hb d_MO_type_87 hl rfl (by decide) (by decide) rfl (fun ls hl => ?_)
  have hl : lv_has ls 8 [(5, .int 6), (4, .int 1), (6, .long (bm x 5)), (0, .ref m0), (1, .long x), (3, .int 6)] := hl
  refine lv_goto (tgt := 38) hx hb d_MO_type_90 (by decide) ?_
  refine lv_iload hx hb d_MO_type_38 (lv_at hl 1 rfl) ?_
  refine lv_if_eq (tgt := 93) hx hb d_MO_type_40 (by decide) (fun h9 => absurd h9 (by decide)) (fun _ => ?_)
  refine lv_iload hx hb d_MO_type_43 (lv_at hl 0 rfl) ?_
  refine lv_iload_n hx hb d_MO_type_45 rfl (lv_at hl 5 rfl) ?_
  refine lv_icmp_ge (tgt := 93) hx hb d_MO_type_46 (by decide) (fun _ => ?_) (fun h9 => absurd (by decide) h9)
  refine lv_iload hx hb d_MO_type_93 (lv_at hl 1 rfl) ?_
  refine lv_if_ne (tgt := 100) hx hb d_MO_type_95 (by decide) (fun _ => ?_) (fun h9 => absurd h9 (by decide))
  refine lv_iload_n hx hb d_MO_type_100 rfl (lv_at hl 5 rfl) ?_
  refine lv_iconst (v := 1) hx hb d_MO_type_101 (by decide) ?_
  refine lv_isub hx hb d_MO_type_102 ?_
  refine W.eq (g2 := F0 m 103 ls [.int 5]) rfl ?_
  refine lv_istore hx hb d_MO_type_103 hl (by decide) rfl (fun ls hl => ?_)
  have hl : lv_has ls 8 [(5, .int 5), (4, .int 1), (6, .long (bm x 5)), (0, .ref m0), (1, .long x), (3, .int 6)] := hl
  refine lv_iload hx hb d_MO_type_105 (lv_at hl 0 rfl) ?_
  refine lv_if_lt (tgt := 147) hx hb d_MO_type_107 (by decide) (fun h9 => absurd h9 (by decide)) (fun _ => ?_)
  refine lv_aload_n hx hb d_MO_type_110 rfl (lv_at hl 3 rfl) ?_
  refine va_get (D := (dC, dI)) (ci := 9) (v := .ref f_text) (C := R_MO) (T := T_MO) (N := 36) hx hb hts in_MO hown hK hP 0 rfl rfl 1 (by decide) (hts _ k_887) (fun _ h9 => h9) rfl d_MO_type_111 ?_
  refine lv_aload_n hx hb d_MO_type_114 rfl (lv_at hl 3 rfl) ?_
  refine va_get (D := (dC, dI)) (ci := 9) (v := .int 0) (C := R_MO) (T := T_MO) (N := 36) hx hb hts in_MO hown hK hP 0 rfl rfl 2 (by decide) (hts _ k_888) (fun _ h9 => h9) rfl d_MO_type_115 ?_
  refine lv_lload_n hx hb d_MO_type_118 rfl (lv_at hl 4 rfl) ?_
  refine lv_bipush (v := 8) hx hb d_MO_type_119 (by decide) ?_
  refine lv_iload hx hb d_MO_type_121 (lv_at hl 0 rfl) ?_
  refine lv_imul hx hb d_MO_type_123 ?_
  refine lv_lshr (v := (x >>> (((8 * 5) : Int32).toInt64 &&& 63))) hx hb d_MO_type_124 rfl ?_
  refine lv_ldc2 (v := 255) hx hb hown (hts _ k_1004) d_MO_type_125 ?_
  refine lv_land hx hb d_MO_type_128 ?_
  refine W.eq (g2 := F0 m 129 ls [.long (bm x 5), .int 0, .ref f_text]) rfl ?_
  refine lv_l2i (v := (bm x 5).toInt32) hx hb d_MO_type_129 rfl ?_
  refine va_iast hx hb hK hP hD hS 1 0 rfl rfl (show ¬ ((0 : Int32) < 0 ∨ 300 ≤ (0 : Int32).toNatClampNeg) from by decide) d_MO_type_130 (fun H2 locs hP hD hS => ?_)
  have hP : va_P (dC, dI) cls [(m0, .inr (9, [.int 0, .ref f_text, .int 0, .int (-1), .ref f_kinds, .ref f_places, .ref f_values, .int 0, .ref f_draftLetters, .int 0, .int 0, .int 0, .ref f_draftNumbers, .ref f_draftSigns, .int 0, .int 0, .int 0, .int 0, .ref f_letters, .ref f_numbers, .ref f_isList, .ref f_bounds, .ref f_sizes, .ref f_lists, .ref f_told, .ref f_costs, .int 0, .ref f_times, .int 0, .ref f_bestOne, .ref f_basis, .int 0, .ref f_one, .int 0, .ref f_along, .ref f_now])), (f_text, .inl (cX, 300, .inl (upd (fun _ => (0 : Int32)) (0 : Int32).toNatClampNeg (bm x 5).toInt32)))] H2 := hP
  have hD : va_D A [(m0, .inr (9, [.int 0, .ref f_text, .int 0, .int (-1), .ref f_kinds, .ref f_places, .ref f_values, .int 0, .ref f_draftLetters, .int 0, .int 0, .int 0, .ref f_draftNumbers, .ref f_draftSigns, .int 0, .int 0, .int 0, .int 0, .ref f_letters, .ref f_numbers, .ref f_isList, .ref f_bounds, .ref f_sizes, .ref f_lists, .ref f_told, .ref f_costs, .int 0, .ref f_times, .int 0, .ref f_bestOne, .ref f_basis, .int 0, .ref f_one, .int 0, .ref f_along, .ref f_now])), (f_text, .inl (cX, 300, .inl (upd (fun _ => (0 : Int32)) (0 : Int32).toNatClampNeg (bm x 5).toInt32)))] := hD
  refine lv_aload_n hx hb d_MO_type_131 rfl (lv_at hl 3 rfl) ?_
  refine lv_dup hx hb d_MO_type_132 rfl ?_
  refine va_get (D := (dC, dI)) (ci := 9) (v := .int 0) (C := R_MO) (T := T_MO) (N := 36) hx hb hts in_MO hown hK hP 0 rfl rfl 2 (by decide) (hts _ k_888) (fun _ h9 => h9) rfl d_MO_type_133 ?_
  refine lv_iconst (v := 1) hx hb d_MO_type_136 (by decide) ?_
  refine lv_iadd hx hb d_MO_type_137 ?_
  refine W.eq (g2 := F0 m 138 ls [.int 1, .ref m0]) rfl ?_
  refine va_put (D := (dC, dI)) (ci := 9) (v := .int 1) (ty := .int) (C := R_MO) (T := T_MO) (N := 36) hx hb hts in_MO t_MO t_MO_ok n_MO hown hK hP hD hS 0 rfl rfl 2 (by decide) (hts _ k_888) (fun _ h9 => h9) rfl (by decide +kernel) rfl rfl (Nat.le_of_ble_eq_true rfl) d_MO_type_138 (fun H3 locs hP hD hS => ?_)
  have hP : va_P (dC, dI) cls [(m0, .inr (9, [.int 0, .ref f_text, .int 1, .int (-1), .ref f_kinds, .ref f_places, .ref f_values, .int 0, .ref f_draftLetters, .int 0, .int 0, .int 0, .ref f_draftNumbers, .ref f_draftSigns, .int 0, .int 0, .int 0, .int 0, .ref f_letters, .ref f_numbers, .ref f_isList, .ref f_bounds, .ref f_sizes, .ref f_lists, .ref f_told, .ref f_costs, .int 0, .ref f_times, .int 0, .ref f_bestOne, .ref f_basis, .int 0, .ref f_one, .int 0, .ref f_along, .ref f_now])), (f_text, .inl (cX, 300, .inl (upd (fun _ => (0 : Int32)) (0 : Int32).toNatClampNeg (bm x 5).toInt32)))] H3 := hP
  have hD : va_D A [(m0, .inr (9, [.int 0, .ref f_text, .int 1, .int (-1), .ref f_kinds, .ref f_places, .ref f_values, .int 0, .ref f_draftLetters, .int 0, .int 0, .int 0, .ref f_draftNumbers, .ref f_draftSigns, .int 0, .int 0, .int 0, .int 0, .ref f_letters, .ref f_numbers, .ref f_isList, .ref f_bounds, .ref f_sizes, .ref f_lists, .ref f_told, .ref f_costs, .int 0, .ref f_times, .int 0, .ref f_bestOne, .ref f_basis, .int 0, .ref f_one, .int 0, .ref f_along, .ref f_now])), (f_text, .inl (cX, 300, .inl (upd (fun _ => (0 : Int32)) (0 : Int32).toNatClampNeg (bm x 5).toInt32)))] := hD
  refine lv_iinc (k := 0) (v := 4) hx hb d_MO_type_141 hl rfl (by decide) (by decide) rfl (fun ls hl => ?_)
  have hl : lv_has ls 8 [(5, .int 4), (4, .int 1), (6, .long (bm x 5)), (0, .ref m0), (1, .long x), (3, .int 6)] := hl
  refine lv_goto (tgt := 105) hx hb d_MO_type_144 (by decide) ?_
  refine lv_iload hx hb d_MO_type_105 (lv_at hl 0 rfl) ?_
  refine lv_if_lt (tgt := 147) hx hb d_MO_type_107 (by decide) (fun h9 => absurd h9 (by decide)) (fun _ => ?_)
  refine lv_aload_n hx hb d_MO_type_110 rfl (lv_at hl 3 rfl) ?_
  refine va_get (D := (dC, dI)) (ci := 9) (v := .ref f_text) (C := R_MO) (T := T_MO) (N := 36) hx hb hts in_MO hown hK hP 0 rfl rfl 1 (by decide) (hts _ k_887) (fun _ h9 => h9) rfl d_MO_type_111 ?_
  refine lv_aload_n hx hb d_MO_type_114 rfl (lv_at hl 3 rfl) ?_
  refine va_get (D := (dC, dI)) (ci := 9) (v := .int 1) (C := R_MO) (T := T_MO) (N := 36) hx hb hts in_MO hown hK hP 0 rfl rfl 2 (by decide) (hts _ k_888) (fun _ h9 => h9) rfl d_MO_type_115 ?_
  refine lv_lload_n hx hb d_MO_type_118 rfl (lv_at hl 4 rfl) ?_
  refine lv_bipush (v := 8) hx hb d_MO_type_119 (by decide) ?_
  refine lv_iload hx hb d_MO_type_121 (lv_at hl 0 rfl) ?_
  refine lv_imul hx hb d_MO_type_123 ?_
  refine lv_lshr (v := (x >>> (((8 * 4) : Int32).toInt64 &&& 63))) hx hb d_MO_type_124 rfl ?_
  refine lv_ldc2 (v := 255) hx hb hown (hts _ k_1004) d_MO_type_125 ?_
  refine lv_land hx hb d_MO_type_128 ?_
  refine W.eq (g2 := F0 m 129 ls [.long (bm x 4), .int 1, .ref f_text]) rfl ?_
  refine lv_l2i (v := (bm x 4).toInt32) hx hb d_MO_type_129 rfl ?_
  refine va_iast hx hb hK hP hD hS 1 0 rfl rfl (show ¬ ((1 : Int32) < 0 ∨ 300 ≤ (1 : Int32).toNatClampNeg) from by decide) d_MO_type_130 (fun H4 locs hP hD hS => ?_)
  have hP : va_P (dC, dI) cls [(m0, .inr (9, [.int 0, .ref f_text, .int 1, .int (-1), .ref f_kinds, .ref f_places, .ref f_values, .int 0, .ref f_draftLetters, .int 0, .int 0, .int 0, .ref f_draftNumbers, .ref f_draftSigns, .int 0, .int 0, .int 0, .int 0, .ref f_letters, .ref f_numbers, .ref f_isList, .ref f_bounds, .ref f_sizes, .ref f_lists, .ref f_told, .ref f_costs, .int 0, .ref f_times, .int 0, .ref f_bestOne, .ref f_basis, .int 0, .ref f_one, .int 0, .ref f_along, .ref f_now])), (f_text, .inl (cX, 300, .inl (upd (upd (fun _ => (0 : Int32)) (0 : Int32).toNatClampNeg (bm x 5).toInt32) (1 : Int32).toNatClampNeg (bm x 4).toInt32)))] H4 := hP
  have hD : va_D A [(m0, .inr (9, [.int 0, .ref f_text, .int 1, .int (-1), .ref f_kinds, .ref f_places, .ref f_values, .int 0, .ref f_draftLetters, .int 0, .int 0, .int 0, .ref f_draftNumbers, .ref f_draftSigns, .int 0, .int 0, .int 0, .int 0, .ref f_letters, .ref f_numbers, .ref f_isList, .ref f_bounds, .ref f_sizes, .ref f_lists, .ref f_told, .ref f_costs, .int 0, .ref f_times, .int 0, .ref f_bestOne, .ref f_basis, .int 0, .ref f_one, .int 0, .ref f_along, .ref f_now])), (f_text, .inl (cX, 300, .inl (upd (upd (fun _ => (0 : Int32)) (0 : Int32).toNatClampNeg (bm x 5).toInt32) (1 : Int32).toNatClampNeg (bm x 4).toInt32)))] := hD
  refine lv_aload_n hx hb d_MO_type_131 rfl (lv_at hl 3 rfl) ?_
  refine lv_dup hx hb d_MO_type_132 rfl ?_
  refine va_get (D := (dC, dI)) (ci := 9) (v := .int 1) (C := R_MO) (T := T_MO) (N := 36) hx hb hts in_MO hown hK hP 0 rfl rfl 2 (by decide) (hts _ k_888) (fun _ h9 => h9) rfl d_MO_type_133 ?_
  refine lv_iconst (v := 1) hx hb d_MO_type_136 (by decide) ?_
  refine lv_iadd hx hb d_MO_type_137 ?_
  refine W.eq (g2 := F0 m 138 ls [.int 2, .ref m0]) rfl ?_
  refine va_put (D := (dC, dI)) (ci := 9) (v := .int 2) (ty := .int) (C := R_MO) (T := T_MO) (N := 36) hx hb hts in_MO t_MO t_MO_ok n_MO hown hK hP hD hS 0 rfl rfl 2 (by decide) (hts _ k_888) (fun _ h9 => h9) rfl (by decide +kernel) rfl rfl (Nat.le_of_ble_eq_true rfl) d_MO_type_138 (fun H5 locs hP hD hS => ?_)
  have hP : va_P (dC, dI) cls [(m0, .inr (9, [.int 0, .ref f_text, .int 2, .int (-1), .ref f_kinds, .ref f_places, .ref f_values, .int 0, .ref f_draftLetters, .int 0, .int 0, .int 0, .ref f_draftNumbers, .ref f_draftSigns, .int 0, .int 0, .int 0, .int 0, .ref f_letters, .ref f_numbers, .ref f_isList, .ref f_bounds, .ref f_sizes, .ref f_lists, .ref f_told, .ref f_costs, .int 0, .ref f_times, .int 0, .ref f_bestOne, .ref f_basis, .int 0, .ref f_one, .int 0, .ref f_along, .ref f_now])), (f_text, .inl (cX, 300, .inl (upd (upd (fun _ => (0 : Int32)) (0 : Int32).toNatClampNeg (bm x 5).toInt32) (1 : Int32).toNatClampNeg (bm x 4).toInt32)))] H5 := hP
  have hD : va_D A [(m0, .inr (9, [.int 0, .ref f_text, .int 2, .int (-1), .ref f_kinds, .ref f_places, .ref f_values, .int 0, .ref f_draftLetters, .int 0, .int 0, .int 0, .ref f_draftNumbers, .ref f_draftSigns, .int 0, .int 0, .int 0, .int 0, .ref f_letters, .ref f_numbers, .ref f_isList, .ref f_bounds, .ref f_sizes, .ref f_lists, .ref f_told, .ref f_costs, .int 0, .ref f_times, .int 0, .ref f_bestOne, .ref f_basis, .int 0, .ref f_one, .int 0, .ref f_along, .ref f_now])), (f_text, .inl (cX, 300, .inl (upd (upd (fun _ => (0 : Int32)) (0 : Int32).toNatClampNeg (bm x 5).toInt32) (1 : Int32).toNatClampNeg (bm x 4).toInt32)))] := hD
  refine lv_iinc (k := 0) (v := 3) hx hb d_MO_type_141 hl rfl (by decide) (by decide) rfl (fun ls hl => ?_)
  have hl : lv_has ls 8 [(5, .int 3), (4, .int 1), (6, .long (bm x 5)), (0, .ref m0), (1, .long x), (3, .int 6)] := hl
  refine lv_goto (tgt := 105) hx hb d_MO_type_144 (by decide) ?_
  refine lv_iload hx hb d_MO_type_105 (lv_at hl 0 rfl) ?_
  refine lv_if_lt (tgt := 147) hx hb d_MO_type_107 (by decide) (fun h9 => absurd h9 (by decide)) (fun _ => ?_)
  refine lv_aload_n hx hb d_MO_type_110 rfl (lv_at hl 3 rfl) ?_
  refine va_get (D := (dC, dI)) (ci := 9) (v := .ref f_text) (C := R_MO) (T := T_MO) (N := 36) hx hb hts in_MO hown hK hP 0 rfl rfl 1 (by decide) (hts _ k_887) (fun _ h9 => h9) rfl d_MO_type_111 ?_
  refine lv_aload_n hx hb d_MO_type_114 rfl (lv_at hl 3 rfl) ?_
  refine va_get (D := (dC, dI)) (ci := 9) (v := .int 2) (C := R_MO) (T := T_MO) (N := 36) hx hb hts in_MO hown hK hP 0 rfl rfl 2 (by decide) (hts _ k_888) (fun _ h9 => h9) rfl d_MO_type_115 ?_
  refine lv_lload_n hx hb d_MO_type_118 rfl (lv_at hl 4 rfl) ?_
  refine lv_bipush (v := 8) hx hb d_MO_type_119 (by decide) ?_
  refine lv_iload hx hb d_MO_type_121 (lv_at hl 0 rfl) ?_
  refine lv_imul hx hb d_MO_type_123 ?_
  refine lv_lshr (v := (x >>> (((8 * 3) : Int32).toInt64 &&& 63))) hx hb d_MO_type_124 rfl ?_
  refine lv_ldc2 (v := 255) hx hb hown (hts _ k_1004) d_MO_type_125 ?_
  refine lv_land hx hb d_MO_type_128 ?_
  refine W.eq (g2 := F0 m 129 ls [.long (bm x 3), .int 2, .ref f_text]) rfl ?_
  refine lv_l2i (v := (bm x 3).toInt32) hx hb d_MO_type_129 rfl ?_
  refine va_iast hx hb hK hP hD hS 1 0 rfl rfl (show ¬ ((2 : Int32) < 0 ∨ 300 ≤ (2 : Int32).toNatClampNeg) from by decide) d_MO_type_130 (fun H6 locs hP hD hS => ?_)
  have hP : va_P (dC, dI) cls [(m0, .inr (9, [.int 0, .ref f_text, .int 2, .int (-1), .ref f_kinds, .ref f_places, .ref f_values, .int 0, .ref f_draftLetters, .int 0, .int 0, .int 0, .ref f_draftNumbers, .ref f_draftSigns, .int 0, .int 0, .int 0, .int 0, .ref f_letters, .ref f_numbers, .ref f_isList, .ref f_bounds, .ref f_sizes, .ref f_lists, .ref f_told, .ref f_costs, .int 0, .ref f_times, .int 0, .ref f_bestOne, .ref f_basis, .int 0, .ref f_one, .int 0, .ref f_along, .ref f_now])), (f_text, .inl (cX, 300, .inl (upd (upd (upd (fun _ => (0 : Int32)) (0 : Int32).toNatClampNeg (bm x 5).toInt32) (1 : Int32).toNatClampNeg (bm x 4).toInt32) (2 : Int32).toNatClampNeg (bm x 3).toInt32)))] H6 := hP
  have hD : va_D A [(m0, .inr (9, [.int 0, .ref f_text, .int 2, .int (-1), .ref f_kinds, .ref f_places, .ref f_values, .int 0, .ref f_draftLetters, .int 0, .int 0, .int 0, .ref f_draftNumbers, .ref f_draftSigns, .int 0, .int 0, .int 0, .int 0, .ref f_letters, .ref f_numbers, .ref f_isList, .ref f_bounds, .ref f_sizes, .ref f_lists, .ref f_told, .ref f_costs, .int 0, .ref f_times, .int 0, .ref f_bestOne, .ref f_basis, .int 0, .ref f_one, .int 0, .ref f_along, .ref f_now])), (f_text, .inl (cX, 300, .inl (upd (upd (upd (fun _ => (0 : Int32)) (0 : Int32).toNatClampNeg (bm x 5).toInt32) (1 : Int32).toNatClampNeg (bm x 4).toInt32) (2 : Int32).toNatClampNeg (bm x 3).toInt32)))] := hD
  refine lv_aload_n hx hb d_MO_type_131 rfl (lv_at hl 3 rfl) ?_
  refine lv_dup hx hb d_MO_type_132 rfl ?_
  refine va_get (D := (dC, dI)) (ci := 9) (v := .int 2) (C := R_MO) (T := T_MO) (N := 36) hx hb hts in_MO hown hK hP 0 rfl rfl 2 (by decide) (hts _ k_888) (fun _ h9 => h9) rfl d_MO_type_133 ?_
  refine lv_iconst (v := 1) hx hb d_MO_type_136 (by decide) ?_
  refine lv_iadd hx hb d_MO_type_137 ?_
  refine W.eq (g2 := F0 m 138 ls [.int 3, .ref m0]) rfl ?_
  refine va_put (D := (dC, dI)) (ci := 9) (v := .int 3) (ty := .int) (C := R_MO) (T := T_MO) (N := 36) hx hb hts in_MO t_MO t_MO_ok n_MO hown hK hP hD hS 0 rfl rfl 2 (by decide) (hts _ k_888) (fun _ h9 => h9) rfl (by decide +kernel) rfl rfl (Nat.le_of_ble_eq_true rfl) d_MO_type_138 (fun H7 locs hP hD hS => ?_)
  have hP : va_P (dC, dI) cls [(m0, .inr (9, [.int 0, .ref f_text, .int 3, .int (-1), .ref f_kinds, .ref f_places, .ref f_values, .int 0, .ref f_draftLetters, .int 0, .int 0, .int 0, .ref f_draftNumbers, .ref f_draftSigns, .int 0, .int 0, .int 0, .int 0, .ref f_letters, .ref f_numbers, .ref f_isList, .ref f_bounds, .ref f_sizes, .ref f_lists, .ref f_told, .ref f_costs, .int 0, .ref f_times, .int 0, .ref f_bestOne, .ref f_basis, .int 0, .ref f_one, .int 0, .ref f_along, .ref f_now])), (f_text, .inl (cX, 300, .inl (upd (upd (upd (fun _ => (0 : Int32)) (0 : Int32).toNatClampNeg (bm x 5).toInt32) (1 : Int32).toNatClampNeg (bm x 4).toInt32) (2 : Int32).toNatClampNeg (bm x 3).toInt32)))] H7 := hP
  have hD : va_D A [(m0, .inr (9, [.int 0, .ref f_text, .int 3, .int (-1), .ref f_kinds, .ref f_places, .ref f_values, .int 0, .ref f_draftLetters, .int 0, .int 0, .int 0, .ref f_draftNumbers, .ref f_draftSigns, .int 0, .int 0, .int 0, .int 0, .ref f_letters, .ref f_numbers, .ref f_isList, .ref f_bounds, .ref f_sizes, .ref f_lists, .ref f_told, .ref f_costs, .int 0, .ref f_times, .int 0, .ref f_bestOne, .ref f_basis, .int 0, .ref f_one, .int 0, .ref f_along, .ref f_now])), (f_text, .inl (cX, 300, .inl (upd (upd (upd (fun _ => (0 : Int32)) (0 : Int32).toNatClampNeg (bm x 5).toInt32) (1 : Int32).toNatClampNeg (bm x 4).toInt32) (2 : Int32).toNatClampNeg (bm x 3).toInt32)))] := hD
  refine lv_iinc (k := 0) (v := 2) hx hb d_MO_type_141 hl rfl (by decide) (by decide) rfl (fun ls hl => ?_)
  have hl : lv_has ls 8 [(5, .int 2), (4, .int 1), (6, .long (bm x 5)), (0, .ref m0), (1, .long x), (3, .int 6)] := hl
  refine lv_goto (tgt := 105) hx hb d_MO_type_144 (by decide) ?_
  refine lv_iload hx hb d_MO_type_105 (lv_at hl 0 rfl) ?_
  refine lv_if_lt (tgt := 147) hx hb d_MO_type_107 (by decide) (fun h9 => absurd h9 (by decide)) (fun _ => ?_)
  refine lv_aload_n hx hb d_MO_type_110 rfl (lv_at hl 3 rfl) ?_
  refine va_get (D := (dC, dI)) (ci := 9) (v := .ref f_text) (C := R_MO) (T := T_MO) (N := 36) hx hb hts in_MO hown hK hP 0 rfl rfl 1 (by decide) (hts _ k_887) (fun _ h9 => h9) rfl d_MO_type_111 ?_
  refine lv_aload_n hx hb d_MO_type_114 rfl (lv_at hl 3 rfl) ?_
  refine va_get (D := (dC, dI)) (ci := 9) (v := .int 3) (C := R_MO) (T := T_MO) (N := 36) hx hb hts in_MO hown hK hP 0 rfl rfl 2 (by decide) (hts _ k_888) (fun _ h9 => h9) rfl d_MO_type_115 ?_
  refine lv_lload_n hx hb d_MO_type_118 rfl (lv_at hl 4 rfl) ?_
  refine lv_bipush (v := 8) hx hb d_MO_type_119 (by decide) ?_
  refine lv_iload hx hb d_MO_type_121 (lv_at hl 0 rfl) ?_
  refine lv_imul hx hb d_MO_type_123 ?_
  refine lv_lshr (v := (x >>> (((8 * 2) : Int32).toInt64 &&& 63))) hx hb d_MO_type_124 rfl ?_
  refine lv_ldc2 (v := 255) hx hb hown (hts _ k_1004) d_MO_type_125 ?_
  refine lv_land hx hb d_MO_type_128 ?_
  refine W.eq (g2 := F0 m 129 ls [.long (bm x 2), .int 3, .ref f_text]) rfl ?_
  refine lv_l2i (v := (bm x 2).toInt32) hx hb d_MO_type_129 rfl ?_
  refine va_iast hx hb hK hP hD hS 1 0 rfl rfl (show ¬ ((3 : Int32) < 0 ∨ 300 ≤ (3 : Int32).toNatClampNeg) from by decide) d_MO_type_130 (fun H8 locs hP hD hS => ?_)
  have hP : va_P (dC, dI) cls [(m0, .inr (9, [.int 0, .ref f_text, .int 3, .int (-1), .ref f_kinds, .ref f_places, .ref f_values, .int 0, .ref f_draftLetters, .int 0, .int 0, .int 0, .ref f_draftNumbers, .ref f_draftSigns, .int 0, .int 0, .int 0, .int 0, .ref f_letters, .ref f_numbers, .ref f_isList, .ref f_bounds, .ref f_sizes, .ref f_lists, .ref f_told, .ref f_costs, .int 0, .ref f_times, .int 0, .ref f_bestOne, .ref f_basis, .int 0, .ref f_one, .int 0, .ref f_along, .ref f_now])), (f_text, .inl (cX, 300, .inl (upd (upd (upd (upd (fun _ => (0 : Int32)) (0 : Int32).toNatClampNeg (bm x 5).toInt32) (1 : Int32).toNatClampNeg (bm x 4).toInt32) (2 : Int32).toNatClampNeg (bm x 3).toInt32) (3 : Int32).toNatClampNeg (bm x 2).toInt32)))] H8 := hP
  have hD : va_D A [(m0, .inr (9, [.int 0, .ref f_text, .int 3, .int (-1), .ref f_kinds, .ref f_places, .ref f_values, .int 0, .ref f_draftLetters, .int 0, .int 0, .int 0, .ref f_draftNumbers, .ref f_draftSigns, .int 0, .int 0, .int 0, .int 0, .ref f_letters, .ref f_numbers, .ref f_isList, .ref f_bounds, .ref f_sizes, .ref f_lists, .ref f_told, .ref f_costs, .int 0, .ref f_times, .int 0, .ref f_bestOne, .ref f_basis, .int 0, .ref f_one, .int 0, .ref f_along, .ref f_now])), (f_text, .inl (cX, 300, .inl (upd (upd (upd (upd (fun _ => (0 : Int32)) (0 : Int32).toNatClampNeg (bm x 5).toInt32) (1 : Int32).toNatClampNeg (bm x 4).toInt32) (2 : Int32).toNatClampNeg (bm x 3).toInt32) (3 : Int32).toNatClampNeg (bm x 2).toInt32)))] := hD
  refine lv_aload_n hx hb d_MO_type_131 rfl (lv_at hl 3 rfl) ?_
  refine lv_dup hx hb d_MO_type_132 rfl ?_
  refine va_get (D := (dC, dI)) (ci := 9) (v := .int 3) (C := R_MO) (T := T_MO) (N := 36) hx hb hts in_MO hown hK hP 0 rfl rfl 2 (by decide) (hts _ k_888) (fun _ h9 => h9) rfl d_MO_type_133 ?_
  refine lv_iconst (v := 1) hx hb d_MO_type_136 (by decide) ?_
  refine lv_iadd hx hb d_MO_type_137 ?_
  refine W.eq (g2 := F0 m 138 ls [.int 4, .ref m0]) rfl ?_
  refine va_put (D := (dC, dI)) (ci := 9) (v := .int 4) (ty := .int) (C := R_MO) (T := T_MO) (N := 36) hx hb hts in_MO t_MO t_MO_ok n_MO hown hK hP hD hS 0 rfl rfl 2 (by decide) (hts _ k_888) (fun _ h9 => h9) rfl (by decide +kernel) rfl rfl (Nat.le_of_ble_eq_true rfl) d_MO_type_138 (fun H9 locs hP hD hS => ?_)
  have hP : va_P (dC, dI) cls [(m0, .inr (9, [.int 0, .ref f_text, .int 4, .int (-1), .ref f_kinds, .ref f_places, .ref f_values, .int 0, .ref f_draftLetters, .int 0, .int 0, .int 0, .ref f_draftNumbers, .ref f_draftSigns, .int 0, .int 0, .int 0, .int 0, .ref f_letters, .ref f_numbers, .ref f_isList, .ref f_bounds, .ref f_sizes, .ref f_lists, .ref f_told, .ref f_costs, .int 0, .ref f_times, .int 0, .ref f_bestOne, .ref f_basis, .int 0, .ref f_one, .int 0, .ref f_along, .ref f_now])), (f_text, .inl (cX, 300, .inl (upd (upd (upd (upd (fun _ => (0 : Int32)) (0 : Int32).toNatClampNeg (bm x 5).toInt32) (1 : Int32).toNatClampNeg (bm x 4).toInt32) (2 : Int32).toNatClampNeg (bm x 3).toInt32) (3 : Int32).toNatClampNeg (bm x 2).toInt32)))] H9 := hP
  have hD : va_D A [(m0, .inr (9, [.int 0, .ref f_text, .int 4, .int (-1), .ref f_kinds, .ref f_places, .ref f_values, .int 0, .ref f_draftLetters, .int 0, .int 0, .int 0, .ref f_draftNumbers, .ref f_draftSigns, .int 0, .int 0, .int 0, .int 0, .ref f_letters, .ref f_numbers, .ref f_isList, .ref f_bounds, .ref f_sizes, .ref f_lists, .ref f_told, .ref f_costs, .int 0, .ref f_times, .int 0, .ref f_bestOne, .ref f_basis, .int 0, .ref f_one, .int 0, .ref f_along, .ref f_now])), (f_text, .inl (cX, 300, .inl (upd (upd (upd (upd (fun _ => (0 : Int32)) (0 : Int32).toNatClampNeg (bm x 5).toInt32) (1 : Int32).toNatClampNeg (bm x 4).toInt32) (2 : Int32).toNatClampNeg (bm x 3).toInt32) (3 : Int32).toNatClampNeg (bm x 2).toInt32)))] := hD
  refine lv_iinc (k := 0) (v := 1) hx hb d_MO_type_141 hl rfl (by decide) (by decide) rfl (fun ls hl => ?_)
  have hl : lv_has ls 8 [(5, .int 1), (4, .int 1), (6, .long (bm x 5)), (0, .ref m0), (1, .long x), (3, .int 6)] := hl
  refine lv_goto (tgt := 105) hx hb d_MO_type_144 (by decide) ?_
  refine lv_iload hx hb d_MO_type_105 (lv_at hl 0 rfl) ?_
  refine lv_if_lt (tgt := 147) hx hb d_MO_type_107 (by decide) (fun h9 => absurd h9 (by decide)) (fun _ => ?_)
  refine lv_aload_n hx hb d_MO_type_110 rfl (lv_at hl 3 rfl) ?_
  refine va_get (D := (dC, dI)) (ci := 9) (v := .ref f_text) (C := R_MO) (T := T_MO) (N := 36) hx hb hts in_MO hown hK hP 0 rfl rfl 1 (by decide) (hts _ k_887) (fun _ h9 => h9) rfl d_MO_type_111 ?_
  refine lv_aload_n hx hb d_MO_type_114 rfl (lv_at hl 3 rfl) ?_
  refine va_get (D := (dC, dI)) (ci := 9) (v := .int 4) (C := R_MO) (T := T_MO) (N := 36) hx hb hts in_MO hown hK hP 0 rfl rfl 2 (by decide) (hts _ k_888) (fun _ h9 => h9) rfl d_MO_type_115 ?_
  refine lv_lload_n hx hb d_MO_type_118 rfl (lv_at hl 4 rfl) ?_
  refine lv_bipush (v := 8) hx hb d_MO_type_119 (by decide) ?_
  refine lv_iload hx hb d_MO_type_121 (lv_at hl 0 rfl) ?_
  refine lv_imul hx hb d_MO_type_123 ?_
  refine lv_lshr (v := (x >>> (((8 * 1) : Int32).toInt64 &&& 63))) hx hb d_MO_type_124 rfl ?_
  refine lv_ldc2 (v := 255) hx hb hown (hts _ k_1004) d_MO_type_125 ?_
  refine lv_land hx hb d_MO_type_128 ?_
  refine W.eq (g2 := F0 m 129 ls [.long (bm x 1), .int 4, .ref f_text]) rfl ?_
  refine lv_l2i (v := (bm x 1).toInt32) hx hb d_MO_type_129 rfl ?_
  refine va_iast hx hb hK hP hD hS 1 0 rfl rfl (show ¬ ((4 : Int32) < 0 ∨ 300 ≤ (4 : Int32).toNatClampNeg) from by decide) d_MO_type_130 (fun H10 locs hP hD hS => ?_)
  have hP : va_P (dC, dI) cls [(m0, .inr (9, [.int 0, .ref f_text, .int 4, .int (-1), .ref f_kinds, .ref f_places, .ref f_values, .int 0, .ref f_draftLetters, .int 0, .int 0, .int 0, .ref f_draftNumbers, .ref f_draftSigns, .int 0, .int 0, .int 0, .int 0, .ref f_letters, .ref f_numbers, .ref f_isList, .ref f_bounds, .ref f_sizes, .ref f_lists, .ref f_told, .ref f_costs, .int 0, .ref f_times, .int 0, .ref f_bestOne, .ref f_basis, .int 0, .ref f_one, .int 0, .ref f_along, .ref f_now])), (f_text, .inl (cX, 300, .inl (upd (upd (upd (upd (upd (fun _ => (0 : Int32)) (0 : Int32).toNatClampNeg (bm x 5).toInt32) (1 : Int32).toNatClampNeg (bm x 4).toInt32) (2 : Int32).toNatClampNeg (bm x 3).toInt32) (3 : Int32).toNatClampNeg (bm x 2).toInt32) (4 : Int32).toNatClampNeg (bm x 1).toInt32)))] H10 := hP
  have hD : va_D A [(m0, .inr (9, [.int 0, .ref f_text, .int 4, .int (-1), .ref f_kinds, .ref f_places, .ref f_values, .int 0, .ref f_draftLetters, .int 0, .int 0, .int 0, .ref f_draftNumbers, .ref f_draftSigns, .int 0, .int 0, .int 0, .int 0, .ref f_letters, .ref f_numbers, .ref f_isList, .ref f_bounds, .ref f_sizes, .ref f_lists, .ref f_told, .ref f_costs, .int 0, .ref f_times, .int 0, .ref f_bestOne, .ref f_basis, .int 0, .ref f_one, .int 0, .ref f_along, .ref f_now])), (f_text, .inl (cX, 300, .inl (upd (upd (upd (upd (upd (fun _ => (0 : Int32)) (0 : Int32).toNatClampNeg (bm x 5).toInt32) (1 : Int32).toNatClampNeg (bm x 4).toInt32) (2 : Int32).toNatClampNeg (bm x 3).toInt32) (3 : Int32).toNatClampNeg (bm x 2).toInt32) (4 : Int32).toNatClampNeg (bm x 1).toInt32)))] := hD
  refine lv_aload_n hx hb d_MO_type_131 rfl (lv_at hl 3 rfl) ?_
  refine lv_dup hx hb d_MO_type_132 rfl ?_
  refine va_get (D := (dC, dI)) (ci := 9) (v := .int 4) (C := R_MO) (T := T_MO) (N := 36) hx hb hts in_MO hown hK hP 0 rfl rfl 2 (by decide) (hts _ k_888) (fun _ h9 => h9) rfl d_MO_type_133 ?_
  refine lv_iconst (v := 1) hx hb d_MO_type_136 (by decide) ?_
  refine lv_iadd hx hb d_MO_type_137 ?_
  refine W.eq (g2 := F0 m 138 ls [.int 5, .ref m0]) rfl ?_
  refine va_put (D := (dC, dI)) (ci := 9) (v := .int 5) (ty := .int) (C := R_MO) (T := T_MO) (N := 36) hx hb hts in_MO t_MO t_MO_ok n_MO hown hK hP hD hS 0 rfl rfl 2 (by decide) (hts _ k_888) (fun _ h9 => h9) rfl (by decide +kernel) rfl rfl (Nat.le_of_ble_eq_true rfl) d_MO_type_138 (fun H11 locs hP hD hS => ?_)
  have hP : va_P (dC, dI) cls [(m0, .inr (9, [.int 0, .ref f_text, .int 5, .int (-1), .ref f_kinds, .ref f_places, .ref f_values, .int 0, .ref f_draftLetters, .int 0, .int 0, .int 0, .ref f_draftNumbers, .ref f_draftSigns, .int 0, .int 0, .int 0, .int 0, .ref f_letters, .ref f_numbers, .ref f_isList, .ref f_bounds, .ref f_sizes, .ref f_lists, .ref f_told, .ref f_costs, .int 0, .ref f_times, .int 0, .ref f_bestOne, .ref f_basis, .int 0, .ref f_one, .int 0, .ref f_along, .ref f_now])), (f_text, .inl (cX, 300, .inl (upd (upd (upd (upd (upd (fun _ => (0 : Int32)) (0 : Int32).toNatClampNeg (bm x 5).toInt32) (1 : Int32).toNatClampNeg (bm x 4).toInt32) (2 : Int32).toNatClampNeg (bm x 3).toInt32) (3 : Int32).toNatClampNeg (bm x 2).toInt32) (4 : Int32).toNatClampNeg (bm x 1).toInt32)))] H11 := hP
  have hD : va_D A [(m0, .inr (9, [.int 0, .ref f_text, .int 5, .int (-1), .ref f_kinds, .ref f_places, .ref f_values, .int 0, .ref f_draftLetters, .int 0, .int 0, .int 0, .ref f_draftNumbers, .ref f_draftSigns, .int 0, .int 0, .int 0, .int 0, .ref f_letters, .ref f_numbers, .ref f_isList, .ref f_bounds, .ref f_sizes, .ref f_lists, .ref f_told, .ref f_costs, .int 0, .ref f_times, .int 0, .ref f_bestOne, .ref f_basis, .int 0, .ref f_one, .int 0, .ref f_along, .ref f_now])), (f_text, .inl (cX, 300, .inl (upd (upd (upd (upd (upd (fun _ => (0 : Int32)) (0 : Int32).toNatClampNeg (bm x 5).toInt32) (1 : Int32).toNatClampNeg (bm x 4).toInt32) (2 : Int32).toNatClampNeg (bm x 3).toInt32) (3 : Int32).toNatClampNeg (bm x 2).toInt32) (4 : Int32).toNatClampNeg (bm x 1).toInt32)))] := hD
  refine lv_iinc (k := 0) (v := 0) hx hb d_MO_type_141 hl rfl (by decide) (by decide) rfl (fun ls hl => ?_)
  have hl : lv_has ls 8 [(5, .int 0), (4, .int 1), (6, .long (bm x 5)), (0, .ref m0), (1, .long x), (3, .int 6)] := hl
  refine lv_goto (tgt := 105) hx hb d_MO_type_144 (by decide) ?_
  refine lv_iload hx hb d_MO_type_105 (lv_at hl 0 rfl) ?_
  refine lv_if_lt (tgt := 147) hx hb d_MO_type_107 (by decide) (fun h9 => absurd h9 (by decide)) (fun _ => ?_)
  refine lv_aload_n hx hb d_MO_type_110 rfl (lv_at hl 3 rfl) ?_
  refine va_get (D := (dC, dI)) (ci := 9) (v := .ref f_text) (C := R_MO) (T := T_MO) (N := 36) hx hb hts in_MO hown hK hP 0 rfl rfl 1 (by decide) (hts _ k_887) (fun _ h9 => h9) rfl d_MO_type_111 ?_
  refine lv_aload_n hx hb d_MO_type_114 rfl (lv_at hl 3 rfl) ?_
  refine va_get (D := (dC, dI)) (ci := 9) (v := .int 5) (C := R_MO) (T := T_MO) (N := 36) hx hb hts in_MO hown hK hP 0 rfl rfl 2 (by decide) (hts _ k_888) (fun _ h9 => h9) rfl d_MO_type_115 ?_
  refine lv_lload_n hx hb d_MO_type_118 rfl (lv_at hl 4 rfl) ?_
  refine lv_bipush (v := 8) hx hb d_MO_type_119 (by decide) ?_
  refine lv_iload hx hb d_MO_type_121 (lv_at hl 0 rfl) ?_
  refine lv_imul hx hb d_MO_type_123 ?_
  refine lv_lshr (v := (x >>> (((8 * 0) : Int32).toInt64 &&& 63))) hx hb d_MO_type_124 rfl ?_
  refine lv_ldc2 (v := 255) hx hb hown (hts _ k_1004) d_MO_type_125 ?_
  refine lv_land hx hb d_MO_type_128 ?_
  refine W.eq (g2 := F0 m 129 ls [.long (bm x 0), .int 5, .ref f_text]) rfl ?_
  refine lv_l2i (v := (bm x 0).toInt32) hx hb d_MO_type_129 rfl ?_
  refine va_iast hx hb hK hP hD hS 1 0 rfl rfl (show ¬ ((5 : Int32) < 0 ∨ 300 ≤ (5 : Int32).toNatClampNeg) from by decide) d_MO_type_130 (fun H12 locs hP hD hS => ?_)
  have hP : va_P (dC, dI) cls [(m0, .inr (9, [.int 0, .ref f_text, .int 5, .int (-1), .ref f_kinds, .ref f_places, .ref f_values, .int 0, .ref f_draftLetters, .int 0, .int 0, .int 0, .ref f_draftNumbers, .ref f_draftSigns, .int 0, .int 0, .int 0, .int 0, .ref f_letters, .ref f_numbers, .ref f_isList, .ref f_bounds, .ref f_sizes, .ref f_lists, .ref f_told, .ref f_costs, .int 0, .ref f_times, .int 0, .ref f_bestOne, .ref f_basis, .int 0, .ref f_one, .int 0, .ref f_along, .ref f_now])), (f_text, .inl (cX, 300, .inl (upd (upd (upd (upd (upd (upd (fun _ => (0 : Int32)) (0 : Int32).toNatClampNeg (bm x 5).toInt32) (1 : Int32).toNatClampNeg (bm x 4).toInt32) (2 : Int32).toNatClampNeg (bm x 3).toInt32) (3 : Int32).toNatClampNeg (bm x 2).toInt32) (4 : Int32).toNatClampNeg (bm x 1).toInt32) (5 : Int32).toNatClampNeg (bm x 0).toInt32)))] H12 := hP
  have hD : va_D A [(m0, .inr (9, [.int 0, .ref f_text, .int 5, .int (-1), .ref f_kinds, .ref f_places, .ref f_values, .int 0, .ref f_draftLetters, .int 0, .int 0, .int 0, .ref f_draftNumbers, .ref f_draftSigns, .int 0, .int 0, .int 0, .int 0, .ref f_letters, .ref f_numbers, .ref f_isList, .ref f_bounds, .ref f_sizes, .ref f_lists, .ref f_told, .ref f_costs, .int 0, .ref f_times, .int 0, .ref f_bestOne, .ref f_basis, .int 0, .ref f_one, .int 0, .ref f_along, .ref f_now])), (f_text, .inl (cX, 300, .inl (upd (upd (upd (upd (upd (upd (fun _ => (0 : Int32)) (0 : Int32).toNatClampNeg (bm x 5).toInt32) (1 : Int32).toNatClampNeg (bm x 4).toInt32) (2 : Int32).toNatClampNeg (bm x 3).toInt32) (3 : Int32).toNatClampNeg (bm x 2).toInt32) (4 : Int32).toNatClampNeg (bm x 1).toInt32) (5 : Int32).toNatClampNeg (bm x 0).toInt32)))] := hD
  refine lv_aload_n hx hb d_MO_type_131 rfl (lv_at hl 3 rfl) ?_
  refine lv_dup hx hb d_MO_type_132 rfl ?_
  refine va_get (D := (dC, dI)) (ci := 9) (v := .int 5) (C := R_MO) (T := T_MO) (N := 36) hx hb hts in_MO hown hK hP 0 rfl rfl 2 (by decide) (hts _ k_888) (fun _ h9 => h9) rfl d_MO_type_133 ?_
  refine lv_iconst (v := 1) hx hb d_MO_type_136 (by decide) ?_
  refine lv_iadd hx hb d_MO_type_137 ?_
  refine W.eq (g2 := F0 m 138 ls [.int 6, .ref m0]) rfl ?_
  refine va_put (D := (dC, dI)) (ci := 9) (v := .int 6) (ty := .int) (C := R_MO) (T := T_MO) (N := 36) hx hb hts in_MO t_MO t_MO_ok n_MO hown hK hP hD hS 0 rfl rfl 2 (by decide) (hts _ k_888) (fun _ h9 => h9) rfl (by decide +kernel) rfl rfl (Nat.le_of_ble_eq_true rfl) d_MO_type_138 (fun H13 locs hP hD hS => ?_)
  have hP : va_P (dC, dI) cls [(m0, .inr (9, [.int 0, .ref f_text, .int 6, .int (-1), .ref f_kinds, .ref f_places, .ref f_values, .int 0, .ref f_draftLetters, .int 0, .int 0, .int 0, .ref f_draftNumbers, .ref f_draftSigns, .int 0, .int 0, .int 0, .int 0, .ref f_letters, .ref f_numbers, .ref f_isList, .ref f_bounds, .ref f_sizes, .ref f_lists, .ref f_told, .ref f_costs, .int 0, .ref f_times, .int 0, .ref f_bestOne, .ref f_basis, .int 0, .ref f_one, .int 0, .ref f_along, .ref f_now])), (f_text, .inl (cX, 300, .inl (upd (upd (upd (upd (upd (upd (fun _ => (0 : Int32)) (0 : Int32).toNatClampNeg (bm x 5).toInt32) (1 : Int32).toNatClampNeg (bm x 4).toInt32) (2 : Int32).toNatClampNeg (bm x 3).toInt32) (3 : Int32).toNatClampNeg (bm x 2).toInt32) (4 : Int32).toNatClampNeg (bm x 1).toInt32) (5 : Int32).toNatClampNeg (bm x 0).toInt32)))] H13 := hP
  have hD : va_D A [(m0, .inr (9, [.int 0, .ref f_text, .int 6, .int (-1), .ref f_kinds, .ref f_places, .ref f_values, .int 0, .ref f_draftLetters, .int 0, .int 0, .int 0, .ref f_draftNumbers, .ref f_draftSigns, .int 0, .int 0, .int 0, .int 0, .ref f_letters, .ref f_numbers, .ref f_isList, .ref f_bounds, .ref f_sizes, .ref f_lists, .ref f_told, .ref f_costs, .int 0, .ref f_times, .int 0, .ref f_bestOne, .ref f_basis, .int 0, .ref f_one, .int 0, .ref f_along, .ref f_now])), (f_text, .inl (cX, 300, .inl (upd (upd (upd (upd (upd (upd (fun _ => (0 : Int32)) (0 : Int32).toNatClampNeg (bm x 5).toInt32) (1 : Int32).toNatClampNeg (bm x 4).toInt32) (2 : Int32).toNatClampNeg (bm x 3).toInt32) (3 : Int32).toNatClampNeg (bm x 2).toInt32) (4 : Int32).toNatClampNeg (bm x 1).toInt32) (5 : Int32).toNatClampNeg (bm x 0).toInt32)))] := hD
  refine lv_iinc (k := 0) (v := (-1)) hx hb d_MO_type_141 hl rfl (by decide) (by decide) rfl (fun ls hl => ?_)
  have hl : lv_has ls 8 [(5, .int (-1)), (4, .int 1), (6, .long (bm x 5)), (0, .ref m0), (1, .long x), (3, .int 6)] := hl
  refine lv_goto (tgt := 105) hx hb d_MO_type_144 (by decide) ?_
  refine lv_iload hx hb d_MO_type_105 (lv_at hl 0 rfl) ?_
  refine lv_if_lt (tgt := 147) hx hb d_MO_type_107 (by decide) (fun _ => ?_) (fun h9 => absurd (by decide) h9)
  refine lv_aload_n hx hb d_MO_type_147 rfl (lv_at hl 3 rfl) ?_
  refine va_get (D := (dC, dI)) (ci := 9) (v := .int 6) (C := R_MO) (T := T_MO) (N := 36) hx hb hts in_MO hown hK hP 0 rfl rfl 2 (by decide) (hts _ k_888) (fun _ h9 => h9) rfl d_MO_type_148 ?_
  have hP9 := hP.sub (ws' := [(m0, .inr (9, [.int 0, .ref f_text, .int 6, .int (-1), .ref f_kinds, .ref f_places, .ref f_values, .int 0, .ref f_draftLetters, .int 0, .int 0, .int 0, .ref f_draftNumbers, .ref f_draftSigns, .int 0, .int 0, .int 0, .int 0, .ref f_letters, .ref f_numbers, .ref f_isList, .ref f_bounds, .ref f_sizes, .ref f_lists, .ref f_told, .ref f_costs, .int 0, .ref f_times, .int 0, .ref f_bestOne, .ref f_basis, .int 0, .ref f_one, .int 0, .ref f_along, .ref f_now]))]) [0] rfl
  have hD9 := hD.sub (ws' := [(m0, .inr (9, [.int 0, .ref f_text, .int 6, .int (-1), .ref f_kinds, .ref f_places, .ref f_values, .int 0, .ref f_draftLetters, .int 0, .int 0, .int 0, .ref f_draftNumbers, .ref f_draftSigns, .int 0, .int 0, .int 0, .int 0, .ref f_letters, .ref f_numbers, .ref f_isList, .ref f_bounds, .ref f_sizes, .ref f_lists, .ref f_told, .ref f_costs, .int 0, .ref f_times, .int 0, .ref f_bestOne, .ref f_basis, .int 0, .ref f_one, .int 0, .ref f_along, .ref f_now]))]) [0] (by decide) rfl
  have hK9 := hK.sub (tys' := [(cX, .int)]) [0] rfl
  exact W.iret (v := 6) hx hb hr (fun t ht hW => ⟨⟨6, (), rfl, rfl, by rw [ht]; exact hP9, va_K.moved hW.alike hK9, hD9⟩, hS.F ht⟩) hS.2.2 d_MO_type_151

set_option maxHeartbeats 4000000 in
set_option maxRecDepth 100000 in
theorem c_MO_type_6n (l : Launch) (dC : Nat → ClassId) (dI : Nat → Nat → Nat) (m0 : Nat) (f_text : Nat) (f_kinds : Nat) (f_places : Nat) (f_values : Nat) (f_draftLetters : Nat) (f_draftNumbers : Nat) (f_draftSigns : Nat) (f_letters : Nat) (f_numbers : Nat) (f_isList : Nat) (f_bounds : Nat) (f_sizes : Nat) (f_lists : Nat) (f_told : Nat) (f_costs : Nat) (f_times : Nat) (f_bestOne : Nat) (f_basis : Nat) (f_one : Nat) (f_along : Nat) (f_now : Nat) (th : Int32) (x : Int64) (sz : Nat) (g : ¬ (ok x 0 ∧ ok x 8 ∧ ok x 16 ∧ ok x 24 ∧ ok x 32 ∧ ok x 40)) : Met l y_MO_type (Cond.code y_MO_type b_MO_type 8 (Option.some Jvm.ClassFile.FieldType.int) :: wd) { frames := 0, cells := 0, slots := 0, locals := 0 } (va_Pc [.ref m0, .long x, .int 6] (fun U => U.heap.size = sz ∧ va_P (dC, dI) cls [(m0, .inr (9, [.int th, .ref f_text, .int 0, .int (-1), .ref f_kinds, .ref f_places, .ref f_values, .int 0, .ref f_draftLetters, .int 0, .int 0, .int 0, .ref f_draftNumbers, .ref f_draftSigns, .int 0, .int 0, .int 0, .int 0, .ref f_letters, .ref f_numbers, .ref f_isList, .ref f_bounds, .ref f_sizes, .ref f_lists, .ref f_told, .ref f_costs, .int 0, .ref f_times, .int 0, .ref f_bestOne, .ref f_basis, .int 0, .ref f_one, .int 0, .ref f_along, .ref f_now]))] U.heap ∧ va_K (dC, dI) cls [] U ∧ va_D (fun _ => True) [(m0, .inr (9, [.int th, .ref f_text, .int 0, .int (-1), .ref f_kinds, .ref f_places, .ref f_values, .int 0, .ref f_draftLetters, .int 0, .int 0, .int 0, .ref f_draftNumbers, .ref f_draftSigns, .int 0, .int 0, .int 0, .int 0, .ref f_letters, .ref f_numbers, .ref f_isList, .ref f_bounds, .ref f_sizes, .ref f_lists, .ref f_told, .ref f_costs, .int 0, .ref f_times, .int 0, .ref f_bestOne, .ref f_basis, .int 0, .ref f_one, .int 0, .ref f_along, .ref f_now]))] ∧ nw_ok U)) (va_Qi (fun r (_ : Unit) => r = (-1)) (fun (_ : Unit) t => va_P (dC, dI) cls [(m0, .inr (9, [.int 0, .ref f_text, .int 0, .int (-1), .ref f_kinds, .ref f_places, .ref f_values, .int 0, .ref f_draftLetters, .int 0, .int 0, .int 0, .ref f_draftNumbers, .ref f_draftSigns, .int 0, .int 0, .int 0, .int 0, .ref f_letters, .ref f_numbers, .ref f_isList, .ref f_bounds, .ref f_sizes, .ref f_lists, .ref f_told, .ref f_costs, .int 0, .ref f_times, .int 0, .ref f_bestOne, .ref f_basis, .int 0, .ref f_one, .int 0, .ref f_along, .ref f_now]))] t.heap ∧ va_K (dC, dI) cls [] t ∧ va_D (va_A [(m0, .inr (9, [.int th, .ref f_text, .int 0, .int (-1), .ref f_kinds, .ref f_places, .ref f_values, .int 0, .ref f_draftLetters, .int 0, .int 0, .int 0, .ref f_draftNumbers, .ref f_draftSigns, .int 0, .int 0, .int 0, .int 0, .ref f_letters, .ref f_numbers, .ref f_isList, .ref f_bounds, .ref f_sizes, .ref f_lists, .ref f_told, .ref f_costs, .int 0, .ref f_times, .int 0, .ref f_bestOne, .ref f_basis, .int 0, .ref f_one, .int 0, .ref f_along, .ref f_now]))] sz) [(m0, .inr (9, [.int 0, .ref f_text, .int 0, .int (-1), .ref f_kinds, .ref f_places, .ref f_values, .int 0, .ref f_draftLetters, .int 0, .int 0, .int 0, .ref f_draftNumbers, .ref f_draftSigns, .int 0, .int 0, .int 0, .int 0, .ref f_letters, .ref f_numbers, .ref f_isList, .ref f_bounds, .ref f_sizes, .ref f_lists, .ref f_told, .ref f_costs, .int 0, .ref f_times, .int 0, .ref f_bestOne, .ref f_basis, .int 0, .ref f_one, .int 0, .ref f_along, .ref f_now]))]) (va_A [(m0, .inr (9, [.int th, .ref f_text, .int 0, .int (-1), .ref f_kinds, .ref f_places, .ref f_values, .int 0, .ref f_draftLetters, .int 0, .int 0, .int 0, .ref f_draftNumbers, .ref f_draftSigns, .int 0, .int 0, .int 0, .int 0, .ref f_letters, .ref f_numbers, .ref f_isList, .ref f_bounds, .ref f_sizes, .ref f_lists, .ref f_told, .ref f_costs, .int 0, .ref f_times, .int 0, .ref f_bestOne, .ref f_basis, .int 0, .ref f_one, .int 0, .ref f_along, .ref f_now]))] sz)) 0 0 (va_A [(m0, .inr (9, [.int th, .ref f_text, .int 0, .int (-1), .ref f_kinds, .ref f_places, .ref f_values, .int 0, .ref f_draftLetters, .int 0, .int 0, .int 0, .ref f_draftNumbers, .ref f_draftSigns, .int 0, .int 0, .int 0, .int 0, .ref f_letters, .ref f_numbers, .ref f_isList, .ref f_bounds, .ref f_sizes, .ref f_lists, .ref f_told, .ref f_costs, .int 0, .ref f_times, .int 0, .ref f_bestOne, .ref f_basis, .int 0, .ref f_one, .int 0, .ref f_along, .ref f_now]))] sz) := by
  refine Met.ofW (cc := b_MO_type) (maxL := 8) (ret := (Option.some Jvm.ClassFile.FieldType.int)) (by decide) rfl ?_
  intro p e s m args below meth c s₁ B hml hv
  obtain ⟨rfl, hsz, hP, hK, hD0, hN⟩ := hv
  have hx := B.exec
  have hb := B.bytes
  have hr := B.returns
  have hlocks := B.notSynchronized
  have hts : ∀ w ∈ wd, w.before ([.ref m0, .long x, .int 6] : List Value).toArray s = true := fun w hw => atoms_spec (ws := (Cond.code y_MO_type b_MO_type 8 (Option.some Jvm.ClassFile.FieldType.int) :: wd)) B.pre w (List.mem_cons_of_mem _ hw)
  have hown : s.vm.findClass "LeastSolutionsModel" = some m.cls := findClass_of_methodNamed B.named
  subst hsz
  have hD := hD0.self (sz := s.heap.size)
  generalize hAe : va_A [(m0, .inr (9, [.int th, .ref f_text, .int 0, .int (-1), .ref f_kinds, .ref f_places, .ref f_values, .int 0, .ref f_draftLetters, .int 0, .int 0, .int 0, .ref f_draftNumbers, .ref f_draftSigns, .int 0, .int 0, .int 0, .int 0, .ref f_letters, .ref f_numbers, .ref f_isList, .ref f_bounds, .ref f_sizes, .ref f_lists, .ref f_told, .ref f_costs, .int 0, .ref f_times, .int 0, .ref f_bestOne, .ref f_basis, .int 0, .ref f_one, .int 0, .ref f_along, .ref f_now]))] s.heap.size = A at hD ⊢
  have hA : ∀ q : Nat, s.heap.size ≤ q → A q := fun q h => by rw [← hAe]; exact Or.inr h
  have hS : va_S A s.heap s.heap [] := va_S.rf
  have hl := lv_entry ([.ref m0, .long x, .int 6]) (n := 8) (Nat.le_of_ble_eq_true rfl)
  rw [lg_entry_eq]
  generalize (lg_sl ([.ref m0, .long x, .int 6]) ++ List.replicate (8 - (lg_sl ([.ref m0, .long x, .int 6])).length) Slot.unset).toArray = ls at hl ⊢
  have hl : lv_has ls 8 [(0, .ref m0), (1, .long x), (3, .int 6)] := hl
  refine lv_aload_n hx hb d_MO_type_0 rfl (lv_at hl 0 rfl) ?_
  refine lv_iconst (v := 0) hx hb d_MO_type_1 (by decide) ?_
  refine va_put (D := (dC, dI)) (ci := 9) (v := .int 0) (ty := .int) (C := R_MO) (T := T_MO) (N := 36) hx hb hts in_MO t_MO t_MO_ok n_MO hown hK hP hD hS 0 rfl rfl 0 (by decide) (hts _ k_886) (fun _ h9 => h9) rfl (by decide +kernel) rfl rfl (Nat.le_of_ble_eq_true rfl) d_MO_type_2 (fun H1 locs hP hD hS => ?_)
  have hP : va_P (dC, dI) cls [(m0, .inr (9, [.int 0, .ref f_text, .int 0, .int (-1), .ref f_kinds, .ref f_places, .ref f_values, .int 0, .ref f_draftLetters, .int 0, .int 0, .int 0, .ref f_draftNumbers, .ref f_draftSigns, .int 0, .int 0, .int 0, .int 0, .ref f_letters, .ref f_numbers, .ref f_isList, .ref f_bounds, .ref f_sizes, .ref f_lists, .ref f_told, .ref f_costs, .int 0, .ref f_times, .int 0, .ref f_bestOne, .ref f_basis, .int 0, .ref f_one, .int 0, .ref f_along, .ref f_now]))] H1 := hP
  have hD : va_D A [(m0, .inr (9, [.int 0, .ref f_text, .int 0, .int (-1), .ref f_kinds, .ref f_places, .ref f_values, .int 0, .ref f_draftLetters, .int 0, .int 0, .int 0, .ref f_draftNumbers, .ref f_draftSigns, .int 0, .int 0, .int 0, .int 0, .ref f_letters, .ref f_numbers, .ref f_isList, .ref f_bounds, .ref f_sizes, .ref f_lists, .ref f_told, .ref f_costs, .int 0, .ref f_times, .int 0, .ref f_bestOne, .ref f_basis, .int 0, .ref f_one, .int 0, .ref f_along, .ref f_now]))] := hD
  refine lv_iload_n hx hb d_MO_type_5 rfl (lv_at hl 2 rfl) ?_
  refine lv_iconst (v := 1) hx hb d_MO_type_6 (by decide) ?_
  refine lv_icmp_lt (tgt := 32) hx hb d_MO_type_7 (by decide) (fun h9 => absurd h9 (by decide)) (fun _ => ?_)
  refine lv_iload_n hx hb d_MO_type_10 rfl (lv_at hl 2 rfl) ?_
  refine lv_bipush (v := 8) hx hb d_MO_type_11 (by decide) ?_
  refine lv_icmp_gt (tgt := 32) hx hb d_MO_type_13 (by decide) (fun h9 => absurd h9 (by decide)) (fun _ => ?_)
  refine lv_aload_n hx hb d_MO_type_16 rfl (lv_at hl 0 rfl) ?_
  refine va_get (D := (dC, dI)) (ci := 9) (v := .int 0) (C := R_MO) (T := T_MO) (N := 36) hx hb hts in_MO hown hK hP 0 rfl rfl 2 (by decide) (hts _ k_888) (fun _ h9 => h9) rfl d_MO_type_17 ?_
  refine lv_iload_n hx hb d_MO_type_20 rfl (lv_at hl 2 rfl) ?_
  refine lv_iadd hx hb d_MO_type_21 ?_
  refine W.eq (g2 := F0 m 22 ls [.int 6]) rfl ?_
  refine lv_sipush (v := 300) hx hb d_MO_type_22 (by decide) ?_
  refine lv_icmp_gt (tgt := 32) hx hb d_MO_type_25 (by decide) (fun h9 => absurd h9 (by decide)) (fun _ => ?_)
  refine lv_iconst (v := 1) hx hb d_MO_type_28 (by decide) ?_
  refine lv_goto (tgt := 33) hx hb d_MO_type_29 (by decide) ?_
  refine lv_istore hx hb d_MO_type_33 hl (by decide) rfl (fun ls hl => ?_)
  have hl : lv_has ls 8 [(4, .int 1), (0, .ref m0), (1, .long x), (3, .int 6)] := hl
  refine lv_iconst (v := 0) hx hb d_MO_type_35 (by decide) ?_
  refine lv_istore hx hb d_MO_type_36 hl (by decide) rfl (fun ls hl => ?_)
  have hl : lv_has ls 8 [(5, .int 0), (4, .int 1), (0, .ref m0), (1, .long x), (3, .int 6)] := hl
  refine lv_iload hx hb d_MO_type_38 (lv_at hl 1 rfl) ?_
  refine lv_if_eq (tgt := 93) hx hb d_MO_type_40 (by decide) (fun h9 => absurd h9 (by decide)) (fun _ => ?_)
  refine lv_iload hx hb d_MO_type_43 (lv_at hl 0 rfl) ?_
  refine lv_iload_n hx hb d_MO_type_45 rfl (lv_at hl 4 rfl) ?_
  refine lv_icmp_ge (tgt := 93) hx hb d_MO_type_46 (by decide) (fun h9 => absurd h9 (by decide)) (fun _ => ?_)
  refine lv_lload_n hx hb d_MO_type_49 rfl (lv_at hl 3 rfl) ?_
  refine lv_bipush (v := 8) hx hb d_MO_type_50 (by decide) ?_
  refine lv_iload hx hb d_MO_type_52 (lv_at hl 0 rfl) ?_
  refine lv_imul hx hb d_MO_type_54 ?_
  refine lv_lshr (v := (x >>> (((8 * 0) : Int32).toInt64 &&& 63))) hx hb d_MO_type_55 rfl ?_
  refine lv_ldc2 (v := 255) hx hb hown (hts _ k_1004) d_MO_type_56 ?_
  refine lv_land hx hb d_MO_type_59 ?_
  refine W.eq (g2 := F0 m 60 ls [.long (bm x 0)]) rfl ?_
  refine lv_lstore hx hb d_MO_type_60 hl (by decide) rfl (fun ls hl => ?_)
  have hl : lv_has ls 8 [(6, .long (bm x 0)), (5, .int 0), (4, .int 1), (0, .ref m0), (1, .long x), (3, .int 6)] := hl
  refine lv_lload hx hb d_MO_type_62 (lv_at hl 0 rfl) ?_
  refine lv_ldc2 (v := 32) hx hb hown (hts _ k_1005) d_MO_type_64 ?_
  refine W.lcmp hx hb d_MO_type_67 ?_
  refine lv_if_lt (tgt := 84) hx hb d_MO_type_68 (by decide) (fun hc1 => ?_) (fun hc1 => ?_)
  · refine lv_iconst (v := 0) hx hb d_MO_type_84 (by decide) ?_
    refine lv_istore hx hb d_MO_type_85 hl (by decide) rfl (fun ls hl => ?_)
    have hl : lv_has ls 8 [(4, .int 0), (6, .long (bm x 0)), (5, .int 0), (0, .ref m0), (1, .long x), (3, .int 6)] := hl
    refine lv_iinc (k := 2) (v := 1) hx hb d_MO_type_87 hl rfl (by decide) (by decide) rfl (fun ls hl => ?_)
    have hl : lv_has ls 8 [(5, .int 1), (4, .int 0), (6, .long (bm x 0)), (0, .ref m0), (1, .long x), (3, .int 6)] := hl
    refine lv_goto (tgt := 38) hx hb d_MO_type_90 (by decide) ?_
    refine lv_iload hx hb d_MO_type_38 (lv_at hl 1 rfl) ?_
    refine lv_if_eq (tgt := 93) hx hb d_MO_type_40 (by decide) (fun _ => ?_) (fun h9 => absurd (by decide) h9)
    refine lv_iload hx hb d_MO_type_93 (lv_at hl 1 rfl) ?_
    refine lv_if_ne (tgt := 100) hx hb d_MO_type_95 (by decide) (fun h9 => absurd (by decide) h9) (fun _ => ?_)
    refine lv_iconst (v := (-1)) hx hb d_MO_type_98 (by decide) ?_
    have hP9 := hP.sub (ws' := [(m0, .inr (9, [.int 0, .ref f_text, .int 0, .int (-1), .ref f_kinds, .ref f_places, .ref f_values, .int 0, .ref f_draftLetters, .int 0, .int 0, .int 0, .ref f_draftNumbers, .ref f_draftSigns, .int 0, .int 0, .int 0, .int 0, .ref f_letters, .ref f_numbers, .ref f_isList, .ref f_bounds, .ref f_sizes, .ref f_lists, .ref f_told, .ref f_costs, .int 0, .ref f_times, .int 0, .ref f_bestOne, .ref f_basis, .int 0, .ref f_one, .int 0, .ref f_along, .ref f_now]))]) [0] rfl
    have hD9 := hD.sub (ws' := [(m0, .inr (9, [.int 0, .ref f_text, .int 0, .int (-1), .ref f_kinds, .ref f_places, .ref f_values, .int 0, .ref f_draftLetters, .int 0, .int 0, .int 0, .ref f_draftNumbers, .ref f_draftSigns, .int 0, .int 0, .int 0, .int 0, .ref f_letters, .ref f_numbers, .ref f_isList, .ref f_bounds, .ref f_sizes, .ref f_lists, .ref f_told, .ref f_costs, .int 0, .ref f_times, .int 0, .ref f_bestOne, .ref f_basis, .int 0, .ref f_one, .int 0, .ref f_along, .ref f_now]))]) [0] (by decide) rfl
    have hK9 := hK.sub (tys' := []) [] rfl
    exact W.iret (v := (-1)) hx hb hr (fun t ht hW => ⟨⟨(-1), (), rfl, rfl, by rw [ht]; exact hP9, va_K.moved hW.alike hK9, hD9⟩, hS.F ht⟩) hS.2.2 d_MO_type_99
  · refine lv_lload hx hb d_MO_type_71 (lv_at hl 0 rfl) ?_
    refine lv_ldc2 (v := 126) hx hb hown (hts _ k_1006) d_MO_type_73 ?_
    refine W.lcmp hx hb d_MO_type_76 ?_
    refine lv_if_gt (tgt := 84) hx hb d_MO_type_77 (by decide) (fun hc2 => ?_) (fun hc2 => ?_)
    · refine lv_iconst (v := 0) hx hb d_MO_type_84 (by decide) ?_
      refine lv_istore hx hb d_MO_type_85 hl (by decide) rfl (fun ls hl => ?_)
      have hl : lv_has ls 8 [(4, .int 0), (6, .long (bm x 0)), (5, .int 0), (0, .ref m0), (1, .long x), (3, .int 6)] := hl
      refine lv_iinc (k := 2) (v := 1) hx hb d_MO_type_87 hl rfl (by decide) (by decide) rfl (fun ls hl => ?_)
      have hl : lv_has ls 8 [(5, .int 1), (4, .int 0), (6, .long (bm x 0)), (0, .ref m0), (1, .long x), (3, .int 6)] := hl
      refine lv_goto (tgt := 38) hx hb d_MO_type_90 (by decide) ?_
      refine lv_iload hx hb d_MO_type_38 (lv_at hl 1 rfl) ?_
      refine lv_if_eq (tgt := 93) hx hb d_MO_type_40 (by decide) (fun _ => ?_) (fun h9 => absurd (by decide) h9)
      refine lv_iload hx hb d_MO_type_93 (lv_at hl 1 rfl) ?_
      refine lv_if_ne (tgt := 100) hx hb d_MO_type_95 (by decide) (fun h9 => absurd (by decide) h9) (fun _ => ?_)
      refine lv_iconst (v := (-1)) hx hb d_MO_type_98 (by decide) ?_
      have hP9 := hP.sub (ws' := [(m0, .inr (9, [.int 0, .ref f_text, .int 0, .int (-1), .ref f_kinds, .ref f_places, .ref f_values, .int 0, .ref f_draftLetters, .int 0, .int 0, .int 0, .ref f_draftNumbers, .ref f_draftSigns, .int 0, .int 0, .int 0, .int 0, .ref f_letters, .ref f_numbers, .ref f_isList, .ref f_bounds, .ref f_sizes, .ref f_lists, .ref f_told, .ref f_costs, .int 0, .ref f_times, .int 0, .ref f_bestOne, .ref f_basis, .int 0, .ref f_one, .int 0, .ref f_along, .ref f_now]))]) [0] rfl
      have hD9 := hD.sub (ws' := [(m0, .inr (9, [.int 0, .ref f_text, .int 0, .int (-1), .ref f_kinds, .ref f_places, .ref f_values, .int 0, .ref f_draftLetters, .int 0, .int 0, .int 0, .ref f_draftNumbers, .ref f_draftSigns, .int 0, .int 0, .int 0, .int 0, .ref f_letters, .ref f_numbers, .ref f_isList, .ref f_bounds, .ref f_sizes, .ref f_lists, .ref f_told, .ref f_costs, .int 0, .ref f_times, .int 0, .ref f_bestOne, .ref f_basis, .int 0, .ref f_one, .int 0, .ref f_along, .ref f_now]))]) [0] (by decide) rfl
      have hK9 := hK.sub (tys' := []) [] rfl
      exact W.iret (v := (-1)) hx hb hr (fun t ht hW => ⟨⟨(-1), (), rfl, rfl, by rw [ht]; exact hP9, va_K.moved hW.alike hK9, hD9⟩, hS.F ht⟩) hS.2.2 d_MO_type_99
    · refine lv_iconst (v := 1) hx hb d_MO_type_80 (by decide) ?_
      refine lv_goto (tgt := 85) hx hb d_MO_type_81 (by decide) ?_
      refine lv_istore hx hb d_MO_type_85 hl (by decide) rfl (fun ls hl => ?_)
      have hl : lv_has ls 8 [(4, .int 1), (6, .long (bm x 0)), (5, .int 0), (0, .ref m0), (1, .long x), (3, .int 6)] := hl
      refine lv_iinc (k := 2) (v := 1) hx hb d_MO_type_87 hl rfl (by decide) (by decide) rfl (fun ls hl => ?_)
      have hl : lv_has ls 8 [(5, .int 1), (4, .int 1), (6, .long (bm x 0)), (0, .ref m0), (1, .long x), (3, .int 6)] := hl
      refine lv_goto (tgt := 38) hx hb d_MO_type_90 (by decide) ?_
      refine lv_iload hx hb d_MO_type_38 (lv_at hl 1 rfl) ?_
      refine lv_if_eq (tgt := 93) hx hb d_MO_type_40 (by decide) (fun h9 => absurd h9 (by decide)) (fun _ => ?_)
      refine lv_iload hx hb d_MO_type_43 (lv_at hl 0 rfl) ?_
      refine lv_iload_n hx hb d_MO_type_45 rfl (lv_at hl 5 rfl) ?_
      refine lv_icmp_ge (tgt := 93) hx hb d_MO_type_46 (by decide) (fun h9 => absurd h9 (by decide)) (fun _ => ?_)
      refine lv_lload_n hx hb d_MO_type_49 rfl (lv_at hl 4 rfl) ?_
      refine lv_bipush (v := 8) hx hb d_MO_type_50 (by decide) ?_
      refine lv_iload hx hb d_MO_type_52 (lv_at hl 0 rfl) ?_
      refine lv_imul hx hb d_MO_type_54 ?_
      refine lv_lshr (v := (x >>> (((8 * 1) : Int32).toInt64 &&& 63))) hx hb d_MO_type_55 rfl ?_
      refine lv_ldc2 (v := 255) hx hb hown (hts _ k_1004) d_MO_type_56 ?_
      refine lv_land hx hb d_MO_type_59 ?_
      refine W.eq (g2 := F0 m 60 ls [.long (bm x 1)]) rfl ?_
      refine lv_lstore hx hb d_MO_type_60 hl (by decide) rfl (fun ls hl => ?_)
      have hl : lv_has ls 8 [(6, .long (bm x 1)), (5, .int 1), (4, .int 1), (0, .ref m0), (1, .long x), (3, .int 6)] := hl
      refine lv_lload hx hb d_MO_type_62 (lv_at hl 0 rfl) ?_
      refine lv_ldc2 (v := 32) hx hb hown (hts _ k_1005) d_MO_type_64 ?_
      refine W.lcmp hx hb d_MO_type_67 ?_
      refine lv_if_lt (tgt := 84) hx hb d_MO_type_68 (by decide) (fun hc3 => ?_) (fun hc3 => ?_)
      · refine lv_iconst (v := 0) hx hb d_MO_type_84 (by decide) ?_
        refine lv_istore hx hb d_MO_type_85 hl (by decide) rfl (fun ls hl => ?_)
        have hl : lv_has ls 8 [(4, .int 0), (6, .long (bm x 1)), (5, .int 1), (0, .ref m0), (1, .long x), (3, .int 6)] := hl
        refine lv_iinc (k := 2) (v := 2) hx hb d_MO_type_87 hl rfl (by decide) (by decide) rfl (fun ls hl => ?_)
        have hl : lv_has ls 8 [(5, .int 2), (4, .int 0), (6, .long (bm x 1)), (0, .ref m0), (1, .long x), (3, .int 6)] := hl
        refine lv_goto (tgt := 38) hx hb d_MO_type_90 (by decide) ?_
        refine lv_iload hx hb d_MO_type_38 (lv_at hl 1 rfl) ?_
        refine lv_if_eq (tgt := 93) hx hb d_MO_type_40 (by decide) (fun _ => ?_) (fun h9 => absurd (by decide) h9)
        refine lv_iload hx hb d_MO_type_93 (lv_at hl 1 rfl) ?_
        refine lv_if_ne (tgt := 100) hx hb d_MO_type_95 (by decide) (fun h9 => absurd (by decide) h9) (fun _ => ?_)
        refine lv_iconst (v := (-1)) hx hb d_MO_type_98 (by decide) ?_
        have hP9 := hP.sub (ws' := [(m0, .inr (9, [.int 0, .ref f_text, .int 0, .int (-1), .ref f_kinds, .ref f_places, .ref f_values, .int 0, .ref f_draftLetters, .int 0, .int 0, .int 0, .ref f_draftNumbers, .ref f_draftSigns, .int 0, .int 0, .int 0, .int 0, .ref f_letters, .ref f_numbers, .ref f_isList, .ref f_bounds, .ref f_sizes, .ref f_lists, .ref f_told, .ref f_costs, .int 0, .ref f_times, .int 0, .ref f_bestOne, .ref f_basis, .int 0, .ref f_one, .int 0, .ref f_along, .ref f_now]))]) [0] rfl
        have hD9 := hD.sub (ws' := [(m0, .inr (9, [.int 0, .ref f_text, .int 0, .int (-1), .ref f_kinds, .ref f_places, .ref f_values, .int 0, .ref f_draftLetters, .int 0, .int 0, .int 0, .ref f_draftNumbers, .ref f_draftSigns, .int 0, .int 0, .int 0, .int 0, .ref f_letters, .ref f_numbers, .ref f_isList, .ref f_bounds, .ref f_sizes, .ref f_lists, .ref f_told, .ref f_costs, .int 0, .ref f_times, .int 0, .ref f_bestOne, .ref f_basis, .int 0, .ref f_one, .int 0, .ref f_along, .ref f_now]))]) [0] (by decide) rfl
        have hK9 := hK.sub (tys' := []) [] rfl
        exact W.iret (v := (-1)) hx hb hr (fun t ht hW => ⟨⟨(-1), (), rfl, rfl, by rw [ht]; exact hP9, va_K.moved hW.alike hK9, hD9⟩, hS.F ht⟩) hS.2.2 d_MO_type_99
      · refine lv_lload hx hb d_MO_type_71 (lv_at hl 0 rfl) ?_
        refine lv_ldc2 (v := 126) hx hb hown (hts _ k_1006) d_MO_type_73 ?_
        refine W.lcmp hx hb d_MO_type_76 ?_
        refine lv_if_gt (tgt := 84) hx hb d_MO_type_77 (by decide) (fun hc4 => ?_) (fun hc4 => ?_)
        · refine lv_iconst (v := 0) hx hb d_MO_type_84 (by decide) ?_
          refine lv_istore hx hb d_MO_type_85 hl (by decide) rfl (fun ls hl => ?_)
          have hl : lv_has ls 8 [(4, .int 0), (6, .long (bm x 1)), (5, .int 1), (0, .ref m0), (1, .long x), (3, .int 6)] := hl
          refine lv_iinc (k := 2) (v := 2) hx hb d_MO_type_87 hl rfl (by decide) (by decide) rfl (fun ls hl => ?_)
          have hl : lv_has ls 8 [(5, .int 2), (4, .int 0), (6, .long (bm x 1)), (0, .ref m0), (1, .long x), (3, .int 6)] := hl
          refine lv_goto (tgt := 38) hx hb d_MO_type_90 (by decide) ?_
          refine lv_iload hx hb d_MO_type_38 (lv_at hl 1 rfl) ?_
          refine lv_if_eq (tgt := 93) hx hb d_MO_type_40 (by decide) (fun _ => ?_) (fun h9 => absurd (by decide) h9)
          refine lv_iload hx hb d_MO_type_93 (lv_at hl 1 rfl) ?_
          refine lv_if_ne (tgt := 100) hx hb d_MO_type_95 (by decide) (fun h9 => absurd (by decide) h9) (fun _ => ?_)
          refine lv_iconst (v := (-1)) hx hb d_MO_type_98 (by decide) ?_
          have hP9 := hP.sub (ws' := [(m0, .inr (9, [.int 0, .ref f_text, .int 0, .int (-1), .ref f_kinds, .ref f_places, .ref f_values, .int 0, .ref f_draftLetters, .int 0, .int 0, .int 0, .ref f_draftNumbers, .ref f_draftSigns, .int 0, .int 0, .int 0, .int 0, .ref f_letters, .ref f_numbers, .ref f_isList, .ref f_bounds, .ref f_sizes, .ref f_lists, .ref f_told, .ref f_costs, .int 0, .ref f_times, .int 0, .ref f_bestOne, .ref f_basis, .int 0, .ref f_one, .int 0, .ref f_along, .ref f_now]))]) [0] rfl
          have hD9 := hD.sub (ws' := [(m0, .inr (9, [.int 0, .ref f_text, .int 0, .int (-1), .ref f_kinds, .ref f_places, .ref f_values, .int 0, .ref f_draftLetters, .int 0, .int 0, .int 0, .ref f_draftNumbers, .ref f_draftSigns, .int 0, .int 0, .int 0, .int 0, .ref f_letters, .ref f_numbers, .ref f_isList, .ref f_bounds, .ref f_sizes, .ref f_lists, .ref f_told, .ref f_costs, .int 0, .ref f_times, .int 0, .ref f_bestOne, .ref f_basis, .int 0, .ref f_one, .int 0, .ref f_along, .ref f_now]))]) [0] (by decide) rfl
          have hK9 := hK.sub (tys' := []) [] rfl
          exact W.iret (v := (-1)) hx hb hr (fun t ht hW => ⟨⟨(-1), (), rfl, rfl, by rw [ht]; exact hP9, va_K.moved hW.alike hK9, hD9⟩, hS.F ht⟩) hS.2.2 d_MO_type_99
        · refine lv_iconst (v := 1) hx hb d_MO_type_80 (by decide) ?_
          refine lv_goto (tgt := 85) hx hb d_MO_type_81 (by decide) ?_
          refine lv_istore hx hb d_MO_type_85 hl (by decide) rfl (fun ls hl => ?_)
          have hl : lv_has ls 8 [(4, .int 1), (6, .long (bm x 1)), (5, .int 1), (0, .ref m0), (1, .long x), (3, .int 6)] := hl
          refine lv_iinc (k := 2) (v := 2) hx hb d_MO_type_87 hl rfl (by decide) (by decide) rfl (fun ls hl => ?_)
          have hl : lv_has ls 8 [(5, .int 2), (4, .int 1), (6, .long (bm x 1)), (0, .ref m0), (1, .long x), (3, .int 6)] := hl
          refine lv_goto (tgt := 38) hx hb d_MO_type_90 (by decide) ?_
          refine lv_iload hx hb d_MO_type_38 (lv_at hl 1 rfl) ?_
          refine lv_if_eq (tgt := 93) hx hb d_MO_type_40 (by decide) (fun h9 => absurd h9 (by decide)) (fun _ => ?_)
          refine lv_iload hx hb d_MO_type_43 (lv_at hl 0 rfl) ?_
          refine lv_iload_n hx hb d_MO_type_45 rfl (lv_at hl 5 rfl) ?_
          refine lv_icmp_ge (tgt := 93) hx hb d_MO_type_46 (by decide) (fun h9 => absurd h9 (by decide)) (fun _ => ?_)
          refine lv_lload_n hx hb d_MO_type_49 rfl (lv_at hl 4 rfl) ?_
          refine lv_bipush (v := 8) hx hb d_MO_type_50 (by decide) ?_
          refine lv_iload hx hb d_MO_type_52 (lv_at hl 0 rfl) ?_
          refine lv_imul hx hb d_MO_type_54 ?_
          refine lv_lshr (v := (x >>> (((8 * 2) : Int32).toInt64 &&& 63))) hx hb d_MO_type_55 rfl ?_
          refine lv_ldc2 (v := 255) hx hb hown (hts _ k_1004) d_MO_type_56 ?_
          refine lv_land hx hb d_MO_type_59 ?_
          refine W.eq (g2 := F0 m 60 ls [.long (bm x 2)]) rfl ?_
          refine lv_lstore hx hb d_MO_type_60 hl (by decide) rfl (fun ls hl => ?_)
          have hl : lv_has ls 8 [(6, .long (bm x 2)), (5, .int 2), (4, .int 1), (0, .ref m0), (1, .long x), (3, .int 6)] := hl
          refine lv_lload hx hb d_MO_type_62 (lv_at hl 0 rfl) ?_
          refine lv_ldc2 (v := 32) hx hb hown (hts _ k_1005) d_MO_type_64 ?_
          refine W.lcmp hx hb d_MO_type_67 ?_
          refine lv_if_lt (tgt := 84) hx hb d_MO_type_68 (by decide) (fun hc5 => ?_) (fun hc5 => ?_)
          · refine lv_iconst (v := 0) hx hb d_MO_type_84 (by decide) ?_
            refine lv_istore hx hb d_MO_type_85 hl (by decide) rfl (fun ls hl => ?_)
            have hl : lv_has ls 8 [(4, .int 0), (6, .long (bm x 2)), (5, .int 2), (0, .ref m0), (1, .long x), (3, .int 6)] := hl
            refine lv_iinc (k := 2) (v := 3) hx hb d_MO_type_87 hl rfl (by decide) (by decide) rfl (fun ls hl => ?_)
            have hl : lv_has ls 8 [(5, .int 3), (4, .int 0), (6, .long (bm x 2)), (0, .ref m0), (1, .long x), (3, .int 6)] := hl
            refine lv_goto (tgt := 38) hx hb d_MO_type_90 (by decide) ?_
            refine lv_iload hx hb d_MO_type_38 (lv_at hl 1 rfl) ?_
            refine lv_if_eq (tgt := 93) hx hb d_MO_type_40 (by decide) (fun _ => ?_) (fun h9 => absurd (by decide) h9)
            refine lv_iload hx hb d_MO_type_93 (lv_at hl 1 rfl) ?_
            refine lv_if_ne (tgt := 100) hx hb d_MO_type_95 (by decide) (fun h9 => absurd (by decide) h9) (fun _ => ?_)
            refine lv_iconst (v := (-1)) hx hb d_MO_type_98 (by decide) ?_
            have hP9 := hP.sub (ws' := [(m0, .inr (9, [.int 0, .ref f_text, .int 0, .int (-1), .ref f_kinds, .ref f_places, .ref f_values, .int 0, .ref f_draftLetters, .int 0, .int 0, .int 0, .ref f_draftNumbers, .ref f_draftSigns, .int 0, .int 0, .int 0, .int 0, .ref f_letters, .ref f_numbers, .ref f_isList, .ref f_bounds, .ref f_sizes, .ref f_lists, .ref f_told, .ref f_costs, .int 0, .ref f_times, .int 0, .ref f_bestOne, .ref f_basis, .int 0, .ref f_one, .int 0, .ref f_along, .ref f_now]))]) [0] rfl
            have hD9 := hD.sub (ws' := [(m0, .inr (9, [.int 0, .ref f_text, .int 0, .int (-1), .ref f_kinds, .ref f_places, .ref f_values, .int 0, .ref f_draftLetters, .int 0, .int 0, .int 0, .ref f_draftNumbers, .ref f_draftSigns, .int 0, .int 0, .int 0, .int 0, .ref f_letters, .ref f_numbers, .ref f_isList, .ref f_bounds, .ref f_sizes, .ref f_lists, .ref f_told, .ref f_costs, .int 0, .ref f_times, .int 0, .ref f_bestOne, .ref f_basis, .int 0, .ref f_one, .int 0, .ref f_along, .ref f_now]))]) [0] (by decide) rfl
            have hK9 := hK.sub (tys' := []) [] rfl
            exact W.iret (v := (-1)) hx hb hr (fun t ht hW => ⟨⟨(-1), (), rfl, rfl, by rw [ht]; exact hP9, va_K.moved hW.alike hK9, hD9⟩, hS.F ht⟩) hS.2.2 d_MO_type_99
          · refine lv_lload hx hb d_MO_type_71 (lv_at hl 0 rfl) ?_
            refine lv_ldc2 (v := 126) hx hb hown (hts _ k_1006) d_MO_type_73 ?_
            refine W.lcmp hx hb d_MO_type_76 ?_
            refine lv_if_gt (tgt := 84) hx hb d_MO_type_77 (by decide) (fun hc6 => ?_) (fun hc6 => ?_)
            · refine lv_iconst (v := 0) hx hb d_MO_type_84 (by decide) ?_
              refine lv_istore hx hb d_MO_type_85 hl (by decide) rfl (fun ls hl => ?_)
              have hl : lv_has ls 8 [(4, .int 0), (6, .long (bm x 2)), (5, .int 2), (0, .ref m0), (1, .long x), (3, .int 6)] := hl
              refine lv_iinc (k := 2) (v := 3) hx hb d_MO_type_87 hl rfl (by decide) (by decide) rfl (fun ls hl => ?_)
              have hl : lv_has ls 8 [(5, .int 3), (4, .int 0), (6, .long (bm x 2)), (0, .ref m0), (1, .long x), (3, .int 6)] := hl
              refine lv_goto (tgt := 38) hx hb d_MO_type_90 (by decide) ?_
              refine lv_iload hx hb d_MO_type_38 (lv_at hl 1 rfl) ?_
              refine lv_if_eq (tgt := 93) hx hb d_MO_type_40 (by decide) (fun _ => ?_) (fun h9 => absurd (by decide) h9)
              refine lv_iload hx hb d_MO_type_93 (lv_at hl 1 rfl) ?_
              refine lv_if_ne (tgt := 100) hx hb d_MO_type_95 (by decide) (fun h9 => absurd (by decide) h9) (fun _ => ?_)
              refine lv_iconst (v := (-1)) hx hb d_MO_type_98 (by decide) ?_
              have hP9 := hP.sub (ws' := [(m0, .inr (9, [.int 0, .ref f_text, .int 0, .int (-1), .ref f_kinds, .ref f_places, .ref f_values, .int 0, .ref f_draftLetters, .int 0, .int 0, .int 0, .ref f_draftNumbers, .ref f_draftSigns, .int 0, .int 0, .int 0, .int 0, .ref f_letters, .ref f_numbers, .ref f_isList, .ref f_bounds, .ref f_sizes, .ref f_lists, .ref f_told, .ref f_costs, .int 0, .ref f_times, .int 0, .ref f_bestOne, .ref f_basis, .int 0, .ref f_one, .int 0, .ref f_along, .ref f_now]))]) [0] rfl
              have hD9 := hD.sub (ws' := [(m0, .inr (9, [.int 0, .ref f_text, .int 0, .int (-1), .ref f_kinds, .ref f_places, .ref f_values, .int 0, .ref f_draftLetters, .int 0, .int 0, .int 0, .ref f_draftNumbers, .ref f_draftSigns, .int 0, .int 0, .int 0, .int 0, .ref f_letters, .ref f_numbers, .ref f_isList, .ref f_bounds, .ref f_sizes, .ref f_lists, .ref f_told, .ref f_costs, .int 0, .ref f_times, .int 0, .ref f_bestOne, .ref f_basis, .int 0, .ref f_one, .int 0, .ref f_along, .ref f_now]))]) [0] (by decide) rfl
              have hK9 := hK.sub (tys' := []) [] rfl
              exact W.iret (v := (-1)) hx hb hr (fun t ht hW => ⟨⟨(-1), (), rfl, rfl, by rw [ht]; exact hP9, va_K.moved hW.alike hK9, hD9⟩, hS.F ht⟩) hS.2.2 d_MO_type_99
            · refine lv_iconst (v := 1) hx hb d_MO_type_80 (by decide) ?_
              refine lv_goto (tgt := 85) hx hb d_MO_type_81 (by decide) ?_
              refine lv_istore hx hb d_MO_type_85 hl (by decide) rfl (fun ls hl => ?_)
              have hl : lv_has ls 8 [(4, .int 1), (6, .long (bm x 2)), (5, .int 2), (0, .ref m0), (1, .long x), (3, .int 6)] := hl
              refine lv_iinc (k := 2) (v := 3) hx hb d_MO_type_87 hl rfl (by decide) (by decide) rfl (fun ls hl => ?_)
              have hl : lv_has ls 8 [(5, .int 3), (4, .int 1), (6, .long (bm x 2)), (0, .ref m0), (1, .long x), (3, .int 6)] := hl
              refine lv_goto (tgt := 38) hx hb d_MO_type_90 (by decide) ?_
              refine lv_iload hx hb d_MO_type_38 (lv_at hl 1 rfl) ?_
              refine lv_if_eq (tgt := 93) hx hb d_MO_type_40 (by decide) (fun h9 => absurd h9 (by decide)) (fun _ => ?_)
              refine lv_iload hx hb d_MO_type_43 (lv_at hl 0 rfl) ?_
              refine lv_iload_n hx hb d_MO_type_45 rfl (lv_at hl 5 rfl) ?_
              refine lv_icmp_ge (tgt := 93) hx hb d_MO_type_46 (by decide) (fun h9 => absurd h9 (by decide)) (fun _ => ?_)
              refine lv_lload_n hx hb d_MO_type_49 rfl (lv_at hl 4 rfl) ?_
              refine lv_bipush (v := 8) hx hb d_MO_type_50 (by decide) ?_
              refine lv_iload hx hb d_MO_type_52 (lv_at hl 0 rfl) ?_
              refine lv_imul hx hb d_MO_type_54 ?_
              refine lv_lshr (v := (x >>> (((8 * 3) : Int32).toInt64 &&& 63))) hx hb d_MO_type_55 rfl ?_
              refine lv_ldc2 (v := 255) hx hb hown (hts _ k_1004) d_MO_type_56 ?_
              refine lv_land hx hb d_MO_type_59 ?_
              refine W.eq (g2 := F0 m 60 ls [.long (bm x 3)]) rfl ?_
              refine lv_lstore hx hb d_MO_type_60 hl (by decide) rfl (fun ls hl => ?_)
              have hl : lv_has ls 8 [(6, .long (bm x 3)), (5, .int 3), (4, .int 1), (0, .ref m0), (1, .long x), (3, .int 6)] := hl
              refine lv_lload hx hb d_MO_type_62 (lv_at hl 0 rfl) ?_
              refine lv_ldc2 (v := 32) hx hb hown (hts _ k_1005) d_MO_type_64 ?_
              refine W.lcmp hx hb d_MO_type_67 ?_
              refine lv_if_lt (tgt := 84) hx hb d_MO_type_68 (by decide) (fun hc7 => ?_) (fun hc7 => ?_)
              · refine lv_iconst (v := 0) hx hb d_MO_type_84 (by decide) ?_
                refine lv_istore hx hb d_MO_type_85 hl (by decide) rfl (fun ls hl => ?_)
                have hl : lv_has ls 8 [(4, .int 0), (6, .long (bm x 3)), (5, .int 3), (0, .ref m0), (1, .long x), (3, .int 6)] := hl
                refine lv_iinc (k := 2) (v := 4) hx hb d_MO_type_87 hl rfl (by decide) (by decide) rfl (fun ls hl => ?_)
                have hl : lv_has ls 8 [(5, .int 4), (4, .int 0), (6, .long (bm x 3)), (0, .ref m0), (1, .long x), (3, .int 6)] := hl
                refine lv_goto (tgt := 38) hx hb d_MO_type_90 (by decide) ?_
                refine lv_iload hx hb d_MO_type_38 (lv_at hl 1 rfl) ?_
                refine lv_if_eq (tgt := 93) hx hb d_MO_type_40 (by decide) (fun _ => ?_) (fun h9 => absurd (by decide) h9)
                refine lv_iload hx hb d_MO_type_93 (lv_at hl 1 rfl) ?_
                refine lv_if_ne (tgt := 100) hx hb d_MO_type_95 (by decide) (fun h9 => absurd (by decide) h9) (fun _ => ?_)
                refine lv_iconst (v := (-1)) hx hb d_MO_type_98 (by decide) ?_
                have hP9 := hP.sub (ws' := [(m0, .inr (9, [.int 0, .ref f_text, .int 0, .int (-1), .ref f_kinds, .ref f_places, .ref f_values, .int 0, .ref f_draftLetters, .int 0, .int 0, .int 0, .ref f_draftNumbers, .ref f_draftSigns, .int 0, .int 0, .int 0, .int 0, .ref f_letters, .ref f_numbers, .ref f_isList, .ref f_bounds, .ref f_sizes, .ref f_lists, .ref f_told, .ref f_costs, .int 0, .ref f_times, .int 0, .ref f_bestOne, .ref f_basis, .int 0, .ref f_one, .int 0, .ref f_along, .ref f_now]))]) [0] rfl
                have hD9 := hD.sub (ws' := [(m0, .inr (9, [.int 0, .ref f_text, .int 0, .int (-1), .ref f_kinds, .ref f_places, .ref f_values, .int 0, .ref f_draftLetters, .int 0, .int 0, .int 0, .ref f_draftNumbers, .ref f_draftSigns, .int 0, .int 0, .int 0, .int 0, .ref f_letters, .ref f_numbers, .ref f_isList, .ref f_bounds, .ref f_sizes, .ref f_lists, .ref f_told, .ref f_costs, .int 0, .ref f_times, .int 0, .ref f_bestOne, .ref f_basis, .int 0, .ref f_one, .int 0, .ref f_along, .ref f_now]))]) [0] (by decide) rfl
                have hK9 := hK.sub (tys' := []) [] rfl
                exact W.iret (v := (-1)) hx hb hr (fun t ht hW => ⟨⟨(-1), (), rfl, rfl, by rw [ht]; exact hP9, va_K.moved hW.alike hK9, hD9⟩, hS.F ht⟩) hS.2.2 d_MO_type_99
              · refine lv_lload hx hb d_MO_type_71 (lv_at hl 0 rfl) ?_
                refine lv_ldc2 (v := 126) hx hb hown (hts _ k_1006) d_MO_type_73 ?_
                refine W.lcmp hx hb d_MO_type_76 ?_
                refine lv_if_gt (tgt := 84) hx hb d_MO_type_77 (by decide) (fun hc8 => ?_) (fun hc8 => ?_)
                · refine lv_iconst (v := 0) hx hb d_MO_type_84 (by decide) ?_
                  refine lv_istore hx hb d_MO_type_85 hl (by decide) rfl (fun ls hl => ?_)
                  have hl : lv_has ls 8 [(4, .int 0), (6, .long (bm x 3)), (5, .int 3), (0, .ref m0), (1, .long x), (3, .int 6)] := hl
                  refine lv_iinc (k := 2) (v := 4) hx hb d_MO_type_87 hl rfl (by decide) (by decide) rfl (fun ls hl => ?_)
                  have hl : lv_has ls 8 [(5, .int 4), (4, .int 0), (6, .long (bm x 3)), (0, .ref m0), (1, .long x), (3, .int 6)] := hl
                  refine lv_goto (tgt := 38) hx hb d_MO_type_90 (by decide) ?_
                  refine lv_iload hx hb d_MO_type_38 (lv_at hl 1 rfl) ?_
                  refine lv_if_eq (tgt := 93) hx hb d_MO_type_40 (by decide) (fun _ => ?_) (fun h9 => absurd (by decide) h9)
                  refine lv_iload hx hb d_MO_type_93 (lv_at hl 1 rfl) ?_
                  refine lv_if_ne (tgt := 100) hx hb d_MO_type_95 (by decide) (fun h9 => absurd (by decide) h9) (fun _ => ?_)
                  refine lv_iconst (v := (-1)) hx hb d_MO_type_98 (by decide) ?_
                  have hP9 := hP.sub (ws' := [(m0, .inr (9, [.int 0, .ref f_text, .int 0, .int (-1), .ref f_kinds, .ref f_places, .ref f_values, .int 0, .ref f_draftLetters, .int 0, .int 0, .int 0, .ref f_draftNumbers, .ref f_draftSigns, .int 0, .int 0, .int 0, .int 0, .ref f_letters, .ref f_numbers, .ref f_isList, .ref f_bounds, .ref f_sizes, .ref f_lists, .ref f_told, .ref f_costs, .int 0, .ref f_times, .int 0, .ref f_bestOne, .ref f_basis, .int 0, .ref f_one, .int 0, .ref f_along, .ref f_now]))]) [0] rfl
                  have hD9 := hD.sub (ws' := [(m0, .inr (9, [.int 0, .ref f_text, .int 0, .int (-1), .ref f_kinds, .ref f_places, .ref f_values, .int 0, .ref f_draftLetters, .int 0, .int 0, .int 0, .ref f_draftNumbers, .ref f_draftSigns, .int 0, .int 0, .int 0, .int 0, .ref f_letters, .ref f_numbers, .ref f_isList, .ref f_bounds, .ref f_sizes, .ref f_lists, .ref f_told, .ref f_costs, .int 0, .ref f_times, .int 0, .ref f_bestOne, .ref f_basis, .int 0, .ref f_one, .int 0, .ref f_along, .ref f_now]))]) [0] (by decide) rfl
                  have hK9 := hK.sub (tys' := []) [] rfl
                  exact W.iret (v := (-1)) hx hb hr (fun t ht hW => ⟨⟨(-1), (), rfl, rfl, by rw [ht]; exact hP9, va_K.moved hW.alike hK9, hD9⟩, hS.F ht⟩) hS.2.2 d_MO_type_99
                · refine lv_iconst (v := 1) hx hb d_MO_type_80 (by decide) ?_
                  refine lv_goto (tgt := 85) hx hb d_MO_type_81 (by decide) ?_
                  refine lv_istore hx hb d_MO_type_85 hl (by decide) rfl (fun ls hl => ?_)
                  have hl : lv_has ls 8 [(4, .int 1), (6, .long (bm x 3)), (5, .int 3), (0, .ref m0), (1, .long x), (3, .int 6)] := hl
                  refine lv_iinc (k := 2) (v := 4) hx hb d_MO_type_87 hl rfl (by decide) (by decide) rfl (fun ls hl => ?_)
                  have hl : lv_has ls 8 [(5, .int 4), (4, .int 1), (6, .long (bm x 3)), (0, .ref m0), (1, .long x), (3, .int 6)] := hl
                  refine lv_goto (tgt := 38) hx hb d_MO_type_90 (by decide) ?_
                  refine lv_iload hx hb d_MO_type_38 (lv_at hl 1 rfl) ?_
                  refine lv_if_eq (tgt := 93) hx hb d_MO_type_40 (by decide) (fun h9 => absurd h9 (by decide)) (fun _ => ?_)
                  refine lv_iload hx hb d_MO_type_43 (lv_at hl 0 rfl) ?_
                  refine lv_iload_n hx hb d_MO_type_45 rfl (lv_at hl 5 rfl) ?_
                  refine lv_icmp_ge (tgt := 93) hx hb d_MO_type_46 (by decide) (fun h9 => absurd h9 (by decide)) (fun _ => ?_)
                  refine lv_lload_n hx hb d_MO_type_49 rfl (lv_at hl 4 rfl) ?_
                  refine lv_bipush (v := 8) hx hb d_MO_type_50 (by decide) ?_
                  refine lv_iload hx hb d_MO_type_52 (lv_at hl 0 rfl) ?_
                  refine lv_imul hx hb d_MO_type_54 ?_
                  refine lv_lshr (v := (x >>> (((8 * 4) : Int32).toInt64 &&& 63))) hx hb d_MO_type_55 rfl ?_
                  refine lv_ldc2 (v := 255) hx hb hown (hts _ k_1004) d_MO_type_56 ?_
                  refine lv_land hx hb d_MO_type_59 ?_
                  refine W.eq (g2 := F0 m 60 ls [.long (bm x 4)]) rfl ?_
                  refine lv_lstore hx hb d_MO_type_60 hl (by decide) rfl (fun ls hl => ?_)
                  have hl : lv_has ls 8 [(6, .long (bm x 4)), (5, .int 4), (4, .int 1), (0, .ref m0), (1, .long x), (3, .int 6)] := hl
                  refine lv_lload hx hb d_MO_type_62 (lv_at hl 0 rfl) ?_
                  refine lv_ldc2 (v := 32) hx hb hown (hts _ k_1005) d_MO_type_64 ?_
                  refine W.lcmp hx hb d_MO_type_67 ?_
                  refine lv_if_lt (tgt := 84) hx hb d_MO_type_68 (by decide) (fun hc9 => ?_) (fun hc9 => ?_)
                  · refine lv_iconst (v := 0) hx hb d_MO_type_84 (by decide) ?_
                    refine lv_istore hx hb d_MO_type_85 hl (by decide) rfl (fun ls hl => ?_)
                    have hl : lv_has ls 8 [(4, .int 0), (6, .long (bm x 4)), (5, .int 4), (0, .ref m0), (1, .long x), (3, .int 6)] := hl
                    refine lv_iinc (k := 2) (v := 5) hx hb d_MO_type_87 hl rfl (by decide) (by decide) rfl (fun ls hl => ?_)
                    have hl : lv_has ls 8 [(5, .int 5), (4, .int 0), (6, .long (bm x 4)), (0, .ref m0), (1, .long x), (3, .int 6)] := hl
                    refine lv_goto (tgt := 38) hx hb d_MO_type_90 (by decide) ?_
                    refine lv_iload hx hb d_MO_type_38 (lv_at hl 1 rfl) ?_
                    refine lv_if_eq (tgt := 93) hx hb d_MO_type_40 (by decide) (fun _ => ?_) (fun h9 => absurd (by decide) h9)
                    refine lv_iload hx hb d_MO_type_93 (lv_at hl 1 rfl) ?_
                    refine lv_if_ne (tgt := 100) hx hb d_MO_type_95 (by decide) (fun h9 => absurd (by decide) h9) (fun _ => ?_)
                    refine lv_iconst (v := (-1)) hx hb d_MO_type_98 (by decide) ?_
                    have hP9 := hP.sub (ws' := [(m0, .inr (9, [.int 0, .ref f_text, .int 0, .int (-1), .ref f_kinds, .ref f_places, .ref f_values, .int 0, .ref f_draftLetters, .int 0, .int 0, .int 0, .ref f_draftNumbers, .ref f_draftSigns, .int 0, .int 0, .int 0, .int 0, .ref f_letters, .ref f_numbers, .ref f_isList, .ref f_bounds, .ref f_sizes, .ref f_lists, .ref f_told, .ref f_costs, .int 0, .ref f_times, .int 0, .ref f_bestOne, .ref f_basis, .int 0, .ref f_one, .int 0, .ref f_along, .ref f_now]))]) [0] rfl
                    have hD9 := hD.sub (ws' := [(m0, .inr (9, [.int 0, .ref f_text, .int 0, .int (-1), .ref f_kinds, .ref f_places, .ref f_values, .int 0, .ref f_draftLetters, .int 0, .int 0, .int 0, .ref f_draftNumbers, .ref f_draftSigns, .int 0, .int 0, .int 0, .int 0, .ref f_letters, .ref f_numbers, .ref f_isList, .ref f_bounds, .ref f_sizes, .ref f_lists, .ref f_told, .ref f_costs, .int 0, .ref f_times, .int 0, .ref f_bestOne, .ref f_basis, .int 0, .ref f_one, .int 0, .ref f_along, .ref f_now]))]) [0] (by decide) rfl
                    have hK9 := hK.sub (tys' := []) [] rfl
                    exact W.iret (v := (-1)) hx hb hr (fun t ht hW => ⟨⟨(-1), (), rfl, rfl, by rw [ht]; exact hP9, va_K.moved hW.alike hK9, hD9⟩, hS.F ht⟩) hS.2.2 d_MO_type_99
                  · refine lv_lload hx hb d_MO_type_71 (lv_at hl 0 rfl) ?_
                    refine lv_ldc2 (v := 126) hx hb hown (hts _ k_1006) d_MO_type_73 ?_
                    refine W.lcmp hx hb d_MO_type_76 ?_
                    refine lv_if_gt (tgt := 84) hx hb d_MO_type_77 (by decide) (fun hc10 => ?_) (fun hc10 => ?_)
                    · refine lv_iconst (v := 0) hx hb d_MO_type_84 (by decide) ?_
                      refine lv_istore hx hb d_MO_type_85 hl (by decide) rfl (fun ls hl => ?_)
                      have hl : lv_has ls 8 [(4, .int 0), (6, .long (bm x 4)), (5, .int 4), (0, .ref m0), (1, .long x), (3, .int 6)] := hl
                      refine lv_iinc (k := 2) (v := 5) hx hb d_MO_type_87 hl rfl (by decide) (by decide) rfl (fun ls hl => ?_)
                      have hl : lv_has ls 8 [(5, .int 5), (4, .int 0), (6, .long (bm x 4)), (0, .ref m0), (1, .long x), (3, .int 6)] := hl
                      refine lv_goto (tgt := 38) hx hb d_MO_type_90 (by decide) ?_
                      refine lv_iload hx hb d_MO_type_38 (lv_at hl 1 rfl) ?_
                      refine lv_if_eq (tgt := 93) hx hb d_MO_type_40 (by decide) (fun _ => ?_) (fun h9 => absurd (by decide) h9)
                      refine lv_iload hx hb d_MO_type_93 (lv_at hl 1 rfl) ?_
                      refine lv_if_ne (tgt := 100) hx hb d_MO_type_95 (by decide) (fun h9 => absurd (by decide) h9) (fun _ => ?_)
                      refine lv_iconst (v := (-1)) hx hb d_MO_type_98 (by decide) ?_
                      have hP9 := hP.sub (ws' := [(m0, .inr (9, [.int 0, .ref f_text, .int 0, .int (-1), .ref f_kinds, .ref f_places, .ref f_values, .int 0, .ref f_draftLetters, .int 0, .int 0, .int 0, .ref f_draftNumbers, .ref f_draftSigns, .int 0, .int 0, .int 0, .int 0, .ref f_letters, .ref f_numbers, .ref f_isList, .ref f_bounds, .ref f_sizes, .ref f_lists, .ref f_told, .ref f_costs, .int 0, .ref f_times, .int 0, .ref f_bestOne, .ref f_basis, .int 0, .ref f_one, .int 0, .ref f_along, .ref f_now]))]) [0] rfl
                      have hD9 := hD.sub (ws' := [(m0, .inr (9, [.int 0, .ref f_text, .int 0, .int (-1), .ref f_kinds, .ref f_places, .ref f_values, .int 0, .ref f_draftLetters, .int 0, .int 0, .int 0, .ref f_draftNumbers, .ref f_draftSigns, .int 0, .int 0, .int 0, .int 0, .ref f_letters, .ref f_numbers, .ref f_isList, .ref f_bounds, .ref f_sizes, .ref f_lists, .ref f_told, .ref f_costs, .int 0, .ref f_times, .int 0, .ref f_bestOne, .ref f_basis, .int 0, .ref f_one, .int 0, .ref f_along, .ref f_now]))]) [0] (by decide) rfl
                      have hK9 := hK.sub (tys' := []) [] rfl
                      exact W.iret (v := (-1)) hx hb hr (fun t ht hW => ⟨⟨(-1), (), rfl, rfl, by rw [ht]; exact hP9, va_K.moved hW.alike hK9, hD9⟩, hS.F ht⟩) hS.2.2 d_MO_type_99
                    · refine lv_iconst (v := 1) hx hb d_MO_type_80 (by decide) ?_
                      refine lv_goto (tgt := 85) hx hb d_MO_type_81 (by decide) ?_
                      refine lv_istore hx hb d_MO_type_85 hl (by decide) rfl (fun ls hl => ?_)
                      have hl : lv_has ls 8 [(4, .int 1), (6, .long (bm x 4)), (5, .int 4), (0, .ref m0), (1, .long x), (3, .int 6)] := hl
                      refine lv_iinc (k := 2) (v := 5) hx hb d_MO_type_87 hl rfl (by decide) (by decide) rfl (fun ls hl => ?_)
                      have hl : lv_has ls 8 [(5, .int 5), (4, .int 1), (6, .long (bm x 4)), (0, .ref m0), (1, .long x), (3, .int 6)] := hl
                      refine lv_goto (tgt := 38) hx hb d_MO_type_90 (by decide) ?_
                      refine lv_iload hx hb d_MO_type_38 (lv_at hl 1 rfl) ?_
                      refine lv_if_eq (tgt := 93) hx hb d_MO_type_40 (by decide) (fun h9 => absurd h9 (by decide)) (fun _ => ?_)
                      refine lv_iload hx hb d_MO_type_43 (lv_at hl 0 rfl) ?_
                      refine lv_iload_n hx hb d_MO_type_45 rfl (lv_at hl 5 rfl) ?_
                      refine lv_icmp_ge (tgt := 93) hx hb d_MO_type_46 (by decide) (fun h9 => absurd h9 (by decide)) (fun _ => ?_)
                      refine lv_lload_n hx hb d_MO_type_49 rfl (lv_at hl 4 rfl) ?_
                      refine lv_bipush (v := 8) hx hb d_MO_type_50 (by decide) ?_
                      refine lv_iload hx hb d_MO_type_52 (lv_at hl 0 rfl) ?_
                      refine lv_imul hx hb d_MO_type_54 ?_
                      refine lv_lshr (v := (x >>> (((8 * 5) : Int32).toInt64 &&& 63))) hx hb d_MO_type_55 rfl ?_
                      refine lv_ldc2 (v := 255) hx hb hown (hts _ k_1004) d_MO_type_56 ?_
                      refine lv_land hx hb d_MO_type_59 ?_
                      refine W.eq (g2 := F0 m 60 ls [.long (bm x 5)]) rfl ?_
                      refine lv_lstore hx hb d_MO_type_60 hl (by decide) rfl (fun ls hl => ?_)
                      have hl : lv_has ls 8 [(6, .long (bm x 5)), (5, .int 5), (4, .int 1), (0, .ref m0), (1, .long x), (3, .int 6)] := hl
                      refine lv_lload hx hb d_MO_type_62 (lv_at hl 0 rfl) ?_
                      refine lv_ldc2 (v := 32) hx hb hown (hts _ k_1005) d_MO_type_64 ?_
                      refine W.lcmp hx hb d_MO_type_67 ?_
                      refine lv_if_lt (tgt := 84) hx hb d_MO_type_68 (by decide) (fun hc11 => ?_) (fun hc11 => ?_)
                      · refine lv_iconst (v := 0) hx hb d_MO_type_84 (by decide) ?_
                        refine lv_istore hx hb d_MO_type_85 hl (by decide) rfl (fun ls hl => ?_)
                        have hl : lv_has ls 8 [(4, .int 0), (6, .long (bm x 5)), (5, .int 5), (0, .ref m0), (1, .long x), (3, .int 6)] := hl
                        refine lv_iinc (k := 2) (v := 6) hx hb d_MO_type_87 hl rfl (by decide) (by decide) rfl (fun ls hl => ?_)
                        have hl : lv_has ls 8 [(5, .int 6), (4, .int 0), (6, .long (bm x 5)), (0, .ref m0), (1, .long x), (3, .int 6)] := hl
                        refine lv_goto (tgt := 38) hx hb d_MO_type_90 (by decide) ?_
                        refine lv_iload hx hb d_MO_type_38 (lv_at hl 1 rfl) ?_
                        refine lv_if_eq (tgt := 93) hx hb d_MO_type_40 (by decide) (fun _ => ?_) (fun h9 => absurd (by decide) h9)
                        refine lv_iload hx hb d_MO_type_93 (lv_at hl 1 rfl) ?_
                        refine lv_if_ne (tgt := 100) hx hb d_MO_type_95 (by decide) (fun h9 => absurd (by decide) h9) (fun _ => ?_)
                        refine lv_iconst (v := (-1)) hx hb d_MO_type_98 (by decide) ?_
                        have hP9 := hP.sub (ws' := [(m0, .inr (9, [.int 0, .ref f_text, .int 0, .int (-1), .ref f_kinds, .ref f_places, .ref f_values, .int 0, .ref f_draftLetters, .int 0, .int 0, .int 0, .ref f_draftNumbers, .ref f_draftSigns, .int 0, .int 0, .int 0, .int 0, .ref f_letters, .ref f_numbers, .ref f_isList, .ref f_bounds, .ref f_sizes, .ref f_lists, .ref f_told, .ref f_costs, .int 0, .ref f_times, .int 0, .ref f_bestOne, .ref f_basis, .int 0, .ref f_one, .int 0, .ref f_along, .ref f_now]))]) [0] rfl
                        have hD9 := hD.sub (ws' := [(m0, .inr (9, [.int 0, .ref f_text, .int 0, .int (-1), .ref f_kinds, .ref f_places, .ref f_values, .int 0, .ref f_draftLetters, .int 0, .int 0, .int 0, .ref f_draftNumbers, .ref f_draftSigns, .int 0, .int 0, .int 0, .int 0, .ref f_letters, .ref f_numbers, .ref f_isList, .ref f_bounds, .ref f_sizes, .ref f_lists, .ref f_told, .ref f_costs, .int 0, .ref f_times, .int 0, .ref f_bestOne, .ref f_basis, .int 0, .ref f_one, .int 0, .ref f_along, .ref f_now]))]) [0] (by decide) rfl
                        have hK9 := hK.sub (tys' := []) [] rfl
                        exact W.iret (v := (-1)) hx hb hr (fun t ht hW => ⟨⟨(-1), (), rfl, rfl, by rw [ht]; exact hP9, va_K.moved hW.alike hK9, hD9⟩, hS.F ht⟩) hS.2.2 d_MO_type_99
                      · refine lv_lload hx hb d_MO_type_71 (lv_at hl 0 rfl) ?_
                        refine lv_ldc2 (v := 126) hx hb hown (hts _ k_1006) d_MO_type_73 ?_
                        refine W.lcmp hx hb d_MO_type_76 ?_
                        refine lv_if_gt (tgt := 84) hx hb d_MO_type_77 (by decide) (fun hc12 => ?_) (fun hc12 => ?_)
                        · refine lv_iconst (v := 0) hx hb d_MO_type_84 (by decide) ?_
                          refine lv_istore hx hb d_MO_type_85 hl (by decide) rfl (fun ls hl => ?_)
                          have hl : lv_has ls 8 [(4, .int 0), (6, .long (bm x 5)), (5, .int 5), (0, .ref m0), (1, .long x), (3, .int 6)] := hl
                          refine lv_iinc (k := 2) (v := 6) hx hb d_MO_type_87 hl rfl (by decide) (by decide) rfl (fun ls hl => ?_)
                          have hl : lv_has ls 8 [(5, .int 6), (4, .int 0), (6, .long (bm x 5)), (0, .ref m0), (1, .long x), (3, .int 6)] := hl
                          refine lv_goto (tgt := 38) hx hb d_MO_type_90 (by decide) ?_
                          refine lv_iload hx hb d_MO_type_38 (lv_at hl 1 rfl) ?_
                          refine lv_if_eq (tgt := 93) hx hb d_MO_type_40 (by decide) (fun _ => ?_) (fun h9 => absurd (by decide) h9)
                          refine lv_iload hx hb d_MO_type_93 (lv_at hl 1 rfl) ?_
                          refine lv_if_ne (tgt := 100) hx hb d_MO_type_95 (by decide) (fun h9 => absurd (by decide) h9) (fun _ => ?_)
                          refine lv_iconst (v := (-1)) hx hb d_MO_type_98 (by decide) ?_
                          have hP9 := hP.sub (ws' := [(m0, .inr (9, [.int 0, .ref f_text, .int 0, .int (-1), .ref f_kinds, .ref f_places, .ref f_values, .int 0, .ref f_draftLetters, .int 0, .int 0, .int 0, .ref f_draftNumbers, .ref f_draftSigns, .int 0, .int 0, .int 0, .int 0, .ref f_letters, .ref f_numbers, .ref f_isList, .ref f_bounds, .ref f_sizes, .ref f_lists, .ref f_told, .ref f_costs, .int 0, .ref f_times, .int 0, .ref f_bestOne, .ref f_basis, .int 0, .ref f_one, .int 0, .ref f_along, .ref f_now]))]) [0] rfl
                          have hD9 := hD.sub (ws' := [(m0, .inr (9, [.int 0, .ref f_text, .int 0, .int (-1), .ref f_kinds, .ref f_places, .ref f_values, .int 0, .ref f_draftLetters, .int 0, .int 0, .int 0, .ref f_draftNumbers, .ref f_draftSigns, .int 0, .int 0, .int 0, .int 0, .ref f_letters, .ref f_numbers, .ref f_isList, .ref f_bounds, .ref f_sizes, .ref f_lists, .ref f_told, .ref f_costs, .int 0, .ref f_times, .int 0, .ref f_bestOne, .ref f_basis, .int 0, .ref f_one, .int 0, .ref f_along, .ref f_now]))]) [0] (by decide) rfl
                          have hK9 := hK.sub (tys' := []) [] rfl
                          exact W.iret (v := (-1)) hx hb hr (fun t ht hW => ⟨⟨(-1), (), rfl, rfl, by rw [ht]; exact hP9, va_K.moved hW.alike hK9, hD9⟩, hS.F ht⟩) hS.2.2 d_MO_type_99
                        · refine lv_iconst (v := 1) hx hb d_MO_type_80 (by decide) ?_
                          refine lv_goto (tgt := 85) hx hb d_MO_type_81 (by decide) ?_
                          refine lv_istore hx hb d_MO_type_85 hl (by decide) rfl (fun ls hl => ?_)
                          have hl : lv_has ls 8 [(4, .int 1), (6, .long (bm x 5)), (5, .int 5), (0, .ref m0), (1, .long x), (3, .int 6)] := hl
                          refine lv_iinc (k := 2) (v := 6) hx hb d_MO_type_87 hl rfl (by decide) (by decide) rfl (fun ls hl => ?_)
                          have hl : lv_has ls 8 [(5, .int 6), (4, .int 1), (6, .long (bm x 5)), (0, .ref m0), (1, .long x), (3, .int 6)] := hl
                          refine lv_goto (tgt := 38) hx hb d_MO_type_90 (by decide) ?_
                          refine lv_iload hx hb d_MO_type_38 (lv_at hl 1 rfl) ?_
                          refine lv_if_eq (tgt := 93) hx hb d_MO_type_40 (by decide) (fun h9 => absurd h9 (by decide)) (fun _ => ?_)
                          refine lv_iload hx hb d_MO_type_43 (lv_at hl 0 rfl) ?_
                          refine lv_iload_n hx hb d_MO_type_45 rfl (lv_at hl 5 rfl) ?_
                          refine lv_icmp_ge (tgt := 93) hx hb d_MO_type_46 (by decide) (fun _ => ?_) (fun h9 => absurd (by decide) h9)
                          refine lv_iload hx hb d_MO_type_93 (lv_at hl 1 rfl) ?_
                          refine lv_if_ne (tgt := 100) hx hb d_MO_type_95 (by decide) (fun _ => ?_) (fun h9 => absurd h9 (by decide))
                          exact absurd ⟨okm (d := 0) (by decide +kernel) (by decide) hc1 hc2, okm (d := 8) (by decide +kernel) (by decide) hc3 hc4, okm (d := 16) (by decide +kernel) (by decide) hc5 hc6, okm (d := 24) (by decide +kernel) (by decide) hc7 hc8, okm (d := 32) (by decide +kernel) (by decide) hc9 hc10, okm (d := 40) (by decide +kernel) (by decide) hc11 hc12⟩ g

set_option maxHeartbeats 4000000 in
set_option maxRecDepth 100000 in
theorem c_MO_type_7y (l : Launch) (dC : Nat → ClassId) (dI : Nat → Nat → Nat) (m0 : Nat) (f_text : Nat) (f_kinds : Nat) (f_places : Nat) (f_values : Nat) (f_draftLetters : Nat) (f_draftNumbers : Nat) (f_draftSigns : Nat) (f_letters : Nat) (f_numbers : Nat) (f_isList : Nat) (f_bounds : Nat) (f_sizes : Nat) (f_lists : Nat) (f_told : Nat) (f_costs : Nat) (f_times : Nat) (f_bestOne : Nat) (f_basis : Nat) (f_one : Nat) (f_along : Nat) (f_now : Nat) (th : Int32) (cX : ClassId) (x : Int64) (sz : Nat) (g : ok x 0 ∧ ok x 8 ∧ ok x 16 ∧ ok x 24 ∧ ok x 32 ∧ ok x 40 ∧ ok x 48) : Met l y_MO_type (Cond.code y_MO_type b_MO_type 8 (Option.some Jvm.ClassFile.FieldType.int) :: wd) { frames := 0, cells := 0, slots := 0, locals := 0 } (va_Pc [.ref m0, .long x, .int 7] (fun U => U.heap.size = sz ∧ va_P (dC, dI) cls [(m0, .inr (9, [.int th, .ref f_text, .int 0, .int (-1), .ref f_kinds, .ref f_places, .ref f_values, .int 0, .ref f_draftLetters, .int 0, .int 0, .int 0, .ref f_draftNumbers, .ref f_draftSigns, .int 0, .int 0, .int 0, .int 0, .ref f_letters, .ref f_numbers, .ref f_isList, .ref f_bounds, .ref f_sizes, .ref f_lists, .ref f_told, .ref f_costs, .int 0, .ref f_times, .int 0, .ref f_bestOne, .ref f_basis, .int 0, .ref f_one, .int 0, .ref f_along, .ref f_now])), (f_text, .inl (cX, 300, .inl (fun _ => (0 : Int32))))] U.heap ∧ va_K (dC, dI) cls [(cX, .int)] U ∧ va_D (fun _ => True) [(m0, .inr (9, [.int th, .ref f_text, .int 0, .int (-1), .ref f_kinds, .ref f_places, .ref f_values, .int 0, .ref f_draftLetters, .int 0, .int 0, .int 0, .ref f_draftNumbers, .ref f_draftSigns, .int 0, .int 0, .int 0, .int 0, .ref f_letters, .ref f_numbers, .ref f_isList, .ref f_bounds, .ref f_sizes, .ref f_lists, .ref f_told, .ref f_costs, .int 0, .ref f_times, .int 0, .ref f_bestOne, .ref f_basis, .int 0, .ref f_one, .int 0, .ref f_along, .ref f_now])), (f_text, .inl (cX, 300, .inl (fun _ => (0 : Int32))))] ∧ nw_ok U)) (va_Qi (fun r (_ : Unit) => r = 7) (fun (_ : Unit) t => va_P (dC, dI) cls [(m0, .inr (9, [.int 0, .ref f_text, .int 7, .int (-1), .ref f_kinds, .ref f_places, .ref f_values, .int 0, .ref f_draftLetters, .int 0, .int 0, .int 0, .ref f_draftNumbers, .ref f_draftSigns, .int 0, .int 0, .int 0, .int 0, .ref f_letters, .ref f_numbers, .ref f_isList, .ref f_bounds, .ref f_sizes, .ref f_lists, .ref f_told, .ref f_costs, .int 0, .ref f_times, .int 0, .ref f_bestOne, .ref f_basis, .int 0, .ref f_one, .int 0, .ref f_along, .ref f_now]))] t.heap ∧ va_K (dC, dI) cls [(cX, .int)] t ∧ va_D (va_A [(m0, .inr (9, [.int th, .ref f_text, .int 0, .int (-1), .ref f_kinds, .ref f_places, .ref f_values, .int 0, .ref f_draftLetters, .int 0, .int 0, .int 0, .ref f_draftNumbers, .ref f_draftSigns, .int 0, .int 0, .int 0, .int 0, .ref f_letters, .ref f_numbers, .ref f_isList, .ref f_bounds, .ref f_sizes, .ref f_lists, .ref f_told, .ref f_costs, .int 0, .ref f_times, .int 0, .ref f_bestOne, .ref f_basis, .int 0, .ref f_one, .int 0, .ref f_along, .ref f_now])), (f_text, .inl (cX, 300, .inl (fun _ => (0 : Int32))))] sz) [(m0, .inr (9, [.int 0, .ref f_text, .int 7, .int (-1), .ref f_kinds, .ref f_places, .ref f_values, .int 0, .ref f_draftLetters, .int 0, .int 0, .int 0, .ref f_draftNumbers, .ref f_draftSigns, .int 0, .int 0, .int 0, .int 0, .ref f_letters, .ref f_numbers, .ref f_isList, .ref f_bounds, .ref f_sizes, .ref f_lists, .ref f_told, .ref f_costs, .int 0, .ref f_times, .int 0, .ref f_bestOne, .ref f_basis, .int 0, .ref f_one, .int 0, .ref f_along, .ref f_now]))]) (va_A [(m0, .inr (9, [.int th, .ref f_text, .int 0, .int (-1), .ref f_kinds, .ref f_places, .ref f_values, .int 0, .ref f_draftLetters, .int 0, .int 0, .int 0, .ref f_draftNumbers, .ref f_draftSigns, .int 0, .int 0, .int 0, .int 0, .ref f_letters, .ref f_numbers, .ref f_isList, .ref f_bounds, .ref f_sizes, .ref f_lists, .ref f_told, .ref f_costs, .int 0, .ref f_times, .int 0, .ref f_bestOne, .ref f_basis, .int 0, .ref f_one, .int 0, .ref f_along, .ref f_now])), (f_text, .inl (cX, 300, .inl (fun _ => (0 : Int32))))] sz)) 0 0 (va_A [(m0, .inr (9, [.int th, .ref f_text, .int 0, .int (-1), .ref f_kinds, .ref f_places, .ref f_values, .int 0, .ref f_draftLetters, .int 0, .int 0, .int 0, .ref f_draftNumbers, .ref f_draftSigns, .int 0, .int 0, .int 0, .int 0, .ref f_letters, .ref f_numbers, .ref f_isList, .ref f_bounds, .ref f_sizes, .ref f_lists, .ref f_told, .ref f_costs, .int 0, .ref f_times, .int 0, .ref f_bestOne, .ref f_basis, .int 0, .ref f_one, .int 0, .ref f_along, .ref f_now])), (f_text, .inl (cX, 300, .inl (fun _ => (0 : Int32))))] sz) := by
  refine Met.ofW (cc := b_MO_type) (maxL := 8) (ret := (Option.some Jvm.ClassFile.FieldType.int)) (by decide) rfl ?_
  intro p e s m args below meth c s₁ B hml hv
  obtain ⟨rfl, hsz, hP, hK, hD0, hN⟩ := hv
  have hx := B.exec
  have hb := B.bytes
  have hr := B.returns
  have hlocks := B.notSynchronized
  have hts : ∀ w ∈ wd, w.before ([.ref m0, .long x, .int 7] : List Value).toArray s = true := fun w hw => atoms_spec (ws := (Cond.code y_MO_type b_MO_type 8 (Option.some Jvm.ClassFile.FieldType.int) :: wd)) B.pre w (List.mem_cons_of_mem _ hw)
  have hown : s.vm.findClass "LeastSolutionsModel" = some m.cls := findClass_of_methodNamed B.named
  subst hsz
  have hD := hD0.self (sz := s.heap.size)
  generalize hAe : va_A [(m0, .inr (9, [.int th, .ref f_text, .int 0, .int (-1), .ref f_kinds, .ref f_places, .ref f_values, .int 0, .ref f_draftLetters, .int 0, .int 0, .int 0, .ref f_draftNumbers, .ref f_draftSigns, .int 0, .int 0, .int 0, .int 0, .ref f_letters, .ref f_numbers, .ref f_isList, .ref f_bounds, .ref f_sizes, .ref f_lists, .ref f_told, .ref f_costs, .int 0, .ref f_times, .int 0, .ref f_bestOne, .ref f_basis, .int 0, .ref f_one, .int 0, .ref f_along, .ref f_now])), (f_text, .inl (cX, 300, .inl (fun _ => (0 : Int32))))] s.heap.size = A at hD ⊢
  have hA : ∀ q : Nat, s.heap.size ≤ q → A q := fun q h => by rw [← hAe]; exact Or.inr h
  have hS : va_S A s.heap s.heap [] := va_S.rf
  have hl := lv_entry ([.ref m0, .long x, .int 7]) (n := 8) (Nat.le_of_ble_eq_true rfl)
  rw [lg_entry_eq]
  generalize (lg_sl ([.ref m0, .long x, .int 7]) ++ List.replicate (8 - (lg_sl ([.ref m0, .long x, .int 7])).length) Slot.unset).toArray = ls at hl ⊢
  have hl : lv_has ls 8 [(0, .ref m0), (1, .long x), (3, .int 7)] := hl
  refine lv_aload_n hx hb d_MO_type_0 rfl (lv_at hl 0 rfl) ?_
  refine lv_iconst (v := 0) hx hb d_MO_type_1 (by decide) ?_
  refine va_put (D := (dC, dI)) (ci := 9) (v := .int 0) (ty := .int) (C := R_MO) (T := T_MO) (N := 36) hx hb hts in_MO t_MO t_MO_ok n_MO hown hK hP hD hS 0 rfl rfl 0 (by decide) (hts _ k_886) (fun _ h9 => h9) rfl (by decide +kernel) rfl rfl (Nat.le_of_ble_eq_true rfl) d_MO_type_2 (fun H1 locs hP hD hS => ?_)
  have hP : va_P (dC, dI) cls [(m0, .inr (9, [.int 0, .ref f_text, .int 0, .int (-1), .ref f_kinds, .ref f_places, .ref f_values, .int 0, .ref f_draftLetters, .int 0, .int 0, .int 0, .ref f_draftNumbers, .ref f_draftSigns, .int 0, .int 0, .int 0, .int 0, .ref f_letters, .ref f_numbers, .ref f_isList, .ref f_bounds, .ref f_sizes, .ref f_lists, .ref f_told, .ref f_costs, .int 0, .ref f_times, .int 0, .ref f_bestOne, .ref f_basis, .int 0, .ref f_one, .int 0, .ref f_along, .ref f_now])), (f_text, .inl (cX, 300, .inl (fun _ => (0 : Int32))))] H1 := hP
  have hD : va_D A [(m0, .inr (9, [.int 0, .ref f_text, .int 0, .int (-1), .ref f_kinds, .ref f_places, .ref f_values, .int 0, .ref f_draftLetters, .int 0, .int 0, .int 0, .ref f_draftNumbers, .ref f_draftSigns, .int 0, .int 0, .int 0, .int 0, .ref f_letters, .ref f_numbers, .ref f_isList, .ref f_bounds, .ref f_sizes, .ref f_lists, .ref f_told, .ref f_costs, .int 0, .ref f_times, .int 0, .ref f_bestOne, .ref f_basis, .int 0, .ref f_one, .int 0, .ref f_along, .ref f_now])), (f_text, .inl (cX, 300, .inl (fun _ => (0 : Int32))))] := hD
  refine lv_iload_n hx hb d_MO_type_5 rfl (lv_at hl 2 rfl) ?_
  refine lv_iconst (v := 1) hx hb d_MO_type_6 (by decide) ?_
  refine lv_icmp_lt (tgt := 32) hx hb d_MO_type_7 (by decide) (fun h9 => absurd h9 (by decide)) (fun _ => ?_)
  refine lv_iload_n hx hb d_MO_type_10 rfl (lv_at hl 2 rfl) ?_
  refine lv_bipush (v := 8) hx hb d_MO_type_11 (by decide) ?_
  refine lv_icmp_gt (tgt := 32) hx hb d_MO_type_13 (by decide) (fun h9 => absurd h9 (by decide)) (fun _ => ?_)
  refine lv_aload_n hx hb d_MO_type_16 rfl (lv_at hl 0 rfl) ?_
  refine va_get (D := (dC, dI)) (ci := 9) (v := .int 0) (C := R_MO) (T := T_MO) (N := 36) hx hb hts in_MO hown hK hP 0 rfl rfl 2 (by decide) (hts _ k_888) (fun _ h9 => h9) rfl d_MO_type_17 ?_
  refine lv_iload_n hx hb d_MO_type_20 rfl (lv_at hl 2 rfl) ?_
  refine lv_iadd hx hb d_MO_type_21 ?_
  refine W.eq (g2 := F0 m 22 ls [.int 7]) rfl ?_
  refine lv_sipush (v := 300) hx hb d_MO_type_22 (by decide) ?_
  refine lv_icmp_gt (tgt := 32) hx hb d_MO_type_25 (by decide) (fun h9 => absurd h9 (by decide)) (fun _ => ?_)
  refine lv_iconst (v := 1) hx hb d_MO_type_28 (by decide) ?_
  refine lv_goto (tgt := 33) hx hb d_MO_type_29 (by decide) ?_
  refine lv_istore hx hb d_MO_type_33 hl (by decide) rfl (fun ls hl => ?_)
  have hl : lv_has ls 8 [(4, .int 1), (0, .ref m0), (1, .long x), (3, .int 7)] := hl
  refine lv_iconst (v := 0) hx hb d_MO_type_35 (by decide) ?_
  refine lv_istore hx hb d_MO_type_36 hl (by decide) rfl (fun ls hl => ?_)
  have hl : lv_has ls 8 [(5, .int 0), (4, .int 1), (0, .ref m0), (1, .long x), (3, .int 7)] := hl
  refine lv_iload hx hb d_MO_type_38 (lv_at hl 1 rfl) ?_
  refine lv_if_eq (tgt := 93) hx hb d_MO_type_40 (by decide) (fun h9 => absurd h9 (by decide)) (fun _ => ?_)
  refine lv_iload hx hb d_MO_type_43 (lv_at hl 0 rfl) ?_
  refine lv_iload_n hx hb d_MO_type_45 rfl (lv_at hl 4 rfl) ?_
  refine lv_icmp_ge (tgt := 93) hx hb d_MO_type_46 (by decide) (fun h9 => absurd h9 (by decide)) (fun _ => ?_)
  refine lv_lload_n hx hb d_MO_type_49 rfl (lv_at hl 3 rfl) ?_
  refine lv_bipush (v := 8) hx hb d_MO_type_50 (by decide) ?_
  refine lv_iload hx hb d_MO_type_52 (lv_at hl 0 rfl) ?_
  refine lv_imul hx hb d_MO_type_54 ?_
  refine lv_lshr (v := (x >>> (((8 * 0) : Int32).toInt64 &&& 63))) hx hb d_MO_type_55 rfl ?_
  refine lv_ldc2 (v := 255) hx hb hown (hts _ k_1004) d_MO_type_56 ?_
  refine lv_land hx hb d_MO_type_59 ?_
  refine W.eq (g2 := F0 m 60 ls [.long (bm x 0)]) rfl ?_
  refine lv_lstore hx hb d_MO_type_60 hl (by decide) rfl (fun ls hl => ?_)
  have hl : lv_has ls 8 [(6, .long (bm x 0)), (5, .int 0), (4, .int 1), (0, .ref m0), (1, .long x), (3, .int 7)] := hl
  refine lv_lload hx hb d_MO_type_62 (lv_at hl 0 rfl) ?_
  refine lv_ldc2 (v := 32) hx hb hown (hts _ k_1005) d_MO_type_64 ?_
  refine W.lcmp hx hb d_MO_type_67 ?_
  refine lv_if_lt (tgt := 84) hx hb d_MO_type_68 (by decide) (fun h9 => absurd h9 (okm1 (d := 0) (by decide +kernel) (by decide) (g.1))) (fun _ => ?_)
  refine lv_lload hx hb d_MO_type_71 (lv_at hl 0 rfl) ?_
  refine lv_ldc2 (v := 126) hx hb hown (hts _ k_1006) d_MO_type_73 ?_
  refine W.lcmp hx hb d_MO_type_76 ?_
  refine lv_if_gt (tgt := 84) hx hb d_MO_type_77 (by decide) (fun h9 => absurd h9 (okm2 (d := 0) (by decide +kernel) (by decide) (g.1))) (fun _ => ?_)
  refine lv_iconst (v := 1) hx hb d_MO_type_80 (by decide) ?_
  refine lv_goto (tgt := 85) hx hb d_MO_type_81 (by decide) ?_
  refine lv_istore hx hb d_MO_type_85 hl (by decide) rfl (fun ls hl => ?_)
  have hl : lv_has ls 8 [(4, .int 1), (6, .long (bm x 0)), (5, .int 0), (0, .ref m0), (1, .long x), (3, .int 7)] := hl
  refine lv_iinc (k := 2) (v := 1) hx hb d_MO_type_87 hl rfl (by decide) (by decide) rfl (fun ls hl => ?_)
  have hl : lv_has ls 8 [(5, .int 1), (4, .int 1), (6, .long (bm x 0)), (0, .ref m0), (1, .long x), (3, .int 7)] := hl
  refine lv_goto (tgt := 38) hx hb d_MO_type_90 (by decide) ?_
  refine lv_iload hx hb d_MO_type_38 (lv_at hl 1 rfl) ?_
  refine lv_if_eq (tgt := 93) hx hb d_MO_type_40 (by decide) (fun h9 => absurd h9 (by decide)) (fun _ => ?_)
  refine lv_iload hx hb d_MO_type_43 (lv_at hl 0 rfl) ?_
  refine lv_iload_n hx hb d_MO_type_45 rfl (lv_at hl 5 rfl) ?_
  refine lv_icmp_ge (tgt := 93) hx hb d_MO_type_46 (by decide) (fun h9 => absurd h9 (by decide)) (fun _ => ?_)
  refine lv_lload_n hx hb d_MO_type_49 rfl (lv_at hl 4 rfl) ?_
  refine lv_bipush (v := 8) hx hb d_MO_type_50 (by decide) ?_
  refine lv_iload hx hb d_MO_type_52 (lv_at hl 0 rfl) ?_
  refine lv_imul hx hb d_MO_type_54 ?_
  refine lv_lshr (v := (x >>> (((8 * 1) : Int32).toInt64 &&& 63))) hx hb d_MO_type_55 rfl ?_
  refine lv_ldc2 (v := 255) hx hb hown (hts _ k_1004) d_MO_type_56 ?_
  refine lv_land hx hb d_MO_type_59 ?_
  refine W.eq (g2 := F0 m 60 ls [.long (bm x 1)]) rfl ?_
  refine lv_lstore hx hb d_MO_type_60 hl (by decide) rfl (fun ls hl => ?_)
  have hl : lv_has ls 8 [(6, .long (bm x 1)), (5, .int 1), (4, .int 1), (0, .ref m0), (1, .long x), (3, .int 7)] := hl
  refine lv_lload hx hb d_MO_type_62 (lv_at hl 0 rfl) ?_
  refine lv_ldc2 (v := 32) hx hb hown (hts _ k_1005) d_MO_type_64 ?_
  refine W.lcmp hx hb d_MO_type_67 ?_
  refine lv_if_lt (tgt := 84) hx hb d_MO_type_68 (by decide) (fun h9 => absurd h9 (okm1 (d := 8) (by decide +kernel) (by decide) (g.2.1))) (fun _ => ?_)
  refine lv_lload hx hb d_MO_type_71 (lv_at hl 0 rfl) ?_
  refine lv_ldc2 (v := 126) hx hb hown (hts _ k_1006) d_MO_type_73 ?_
  refine W.lcmp hx hb d_MO_type_76 ?_
  refine lv_if_gt (tgt := 84) hx hb d_MO_type_77 (by decide) (fun h9 => absurd h9 (okm2 (d := 8) (by decide +kernel) (by decide) (g.2.1))) (fun _ => ?_)
  refine lv_iconst (v := 1) hx hb d_MO_type_80 (by decide) ?_
  refine lv_goto (tgt := 85) hx hb d_MO_type_81 (by decide) ?_
  refine lv_istore hx hb d_MO_type_85 hl (by decide) rfl (fun ls hl => ?_)
  have hl : lv_has ls 8 [(4, .int 1), (6, .long (bm x 1)), (5, .int 1), (0, .ref m0), (1, .long x), (3, .int 7)] := hl
  refine lv_iinc (k := 2) (v := 2) hx hb d_MO_type_87 hl rfl (by decide) (by decide) rfl (fun ls hl => ?_)
  have hl : lv_has ls 8 [(5, .int 2), (4, .int 1), (6, .long (bm x 1)), (0, .ref m0), (1, .long x), (3, .int 7)] := hl
  refine lv_goto (tgt := 38) hx hb d_MO_type_90 (by decide) ?_
  refine lv_iload hx hb d_MO_type_38 (lv_at hl 1 rfl) ?_
  refine lv_if_eq (tgt := 93) hx hb d_MO_type_40 (by decide) (fun h9 => absurd h9 (by decide)) (fun _ => ?_)
  refine lv_iload hx hb d_MO_type_43 (lv_at hl 0 rfl) ?_
  refine lv_iload_n hx hb d_MO_type_45 rfl (lv_at hl 5 rfl) ?_
  refine lv_icmp_ge (tgt := 93) hx hb d_MO_type_46 (by decide) (fun h9 => absurd h9 (by decide)) (fun _ => ?_)
  refine lv_lload_n hx hb d_MO_type_49 rfl (lv_at hl 4 rfl) ?_
  refine lv_bipush (v := 8) hx hb d_MO_type_50 (by decide) ?_
  refine lv_iload hx hb d_MO_type_52 (lv_at hl 0 rfl) ?_
  refine lv_imul hx hb d_MO_type_54 ?_
  refine lv_lshr (v := (x >>> (((8 * 2) : Int32).toInt64 &&& 63))) hx hb d_MO_type_55 rfl ?_
  refine lv_ldc2 (v := 255) hx hb hown (hts _ k_1004) d_MO_type_56 ?_
  refine lv_land hx hb d_MO_type_59 ?_
  refine W.eq (g2 := F0 m 60 ls [.long (bm x 2)]) rfl ?_
  refine lv_lstore hx hb d_MO_type_60 hl (by decide) rfl (fun ls hl => ?_)
  have hl : lv_has ls 8 [(6, .long (bm x 2)), (5, .int 2), (4, .int 1), (0, .ref m0), (1, .long x), (3, .int 7)] := hl
  refine lv_lload hx hb d_MO_type_62 (lv_at hl 0 rfl) ?_
  refine lv_ldc2 (v := 32) hx hb hown (hts _ k_1005) d_MO_type_64 ?_
  refine W.lcmp hx hb d_MO_type_67 ?_
  refine lv_if_lt (tgt := 84) hx hb d_MO_type_68 (by decide) (fun h9 => absurd h9 (okm1 (d := 16) (by decide +kernel) (by decide) (g.2.2.1))) (fun _ => ?_)
  refine lv_lload hx hb d_MO_type_71 (lv_at hl 0 rfl) ?_
  refine lv_ldc2 (v := 126) hx hb hown (hts _ k_1006) d_MO_type_73 ?_
  refine W.lcmp hx hb d_MO_type_76 ?_
  refine lv_if_gt (tgt := 84) hx hb d_MO_type_77 (by decide) (fun h9 => absurd h9 (okm2 (d := 16) (by decide +kernel) (by decide) (g.2.2.1))) (fun _ => ?_)
  refine lv_iconst (v := 1) hx hb d_MO_type_80 (by decide) ?_
  refine lv_goto (tgt := 85) hx hb d_MO_type_81 (by decide) ?_
  refine lv_istore hx hb d_MO_type_85 hl (by decide) rfl (fun ls hl => ?_)
  have hl : lv_has ls 8 [(4, .int 1), (6, .long (bm x 2)), (5, .int 2), (0, .ref m0), (1, .long x), (3, .int 7)] := hl
  refine lv_iinc (k := 2) (v := 3) hx hb d_MO_type_87 hl rfl (by decide) (by decide) rfl (fun ls hl => ?_)
  have hl : lv_has ls 8 [(5, .int 3), (4, .int 1), (6, .long (bm x 2)), (0, .ref m0), (1, .long x), (3, .int 7)] := hl
  refine lv_goto (tgt := 38) hx hb d_MO_type_90 (by decide) ?_
  refine lv_iload hx hb d_MO_type_38 (lv_at hl 1 rfl) ?_
  refine lv_if_eq (tgt := 93) hx hb d_MO_type_40 (by decide) (fun h9 => absurd h9 (by decide)) (fun _ => ?_)
  refine lv_iload hx hb d_MO_type_43 (lv_at hl 0 rfl) ?_
  refine lv_iload_n hx hb d_MO_type_45 rfl (lv_at hl 5 rfl) ?_
  refine lv_icmp_ge (tgt := 93) hx hb d_MO_type_46 (by decide) (fun h9 => absurd h9 (by decide)) (fun _ => ?_)
  refine lv_lload_n hx hb d_MO_type_49 rfl (lv_at hl 4 rfl) ?_
  refine lv_bipush (v := 8) hx hb d_MO_type_50 (by decide) ?_
  refine lv_iload hx hb d_MO_type_52 (lv_at hl 0 rfl) ?_
  refine lv_imul hx hb d_MO_type_54 ?_
  refine lv_lshr (v := (x >>> (((8 * 3) : Int32).toInt64 &&& 63))) hx hb d_MO_type_55 rfl ?_
  refine lv_ldc2 (v := 255) hx hb hown (hts _ k_1004) d_MO_type_56 ?_
  refine lv_land hx hb d_MO_type_59 ?_
  refine W.eq (g2 := F0 m 60 ls [.long (bm x 3)]) rfl ?_
  refine lv_lstore hx hb d_MO_type_60 hl (by decide) rfl (fun ls hl => ?_)
  have hl : lv_has ls 8 [(6, .long (bm x 3)), (5, .int 3), (4, .int 1), (0, .ref m0), (1, .long x), (3, .int 7)] := hl
  refine lv_lload hx hb d_MO_type_62 (lv_at hl 0 rfl) ?_
  refine lv_ldc2 (v := 32) hx hb hown (hts _ k_1005) d_MO_type_64 ?_
  refine W.lcmp hx hb d_MO_type_67 ?_
  refine lv_if_lt (tgt := 84) hx hb d_MO_type_68 (by decide) (fun h9 => absurd h9 (okm1 (d := 24) (by decide +kernel) (by decide) (g.2.2.2.1))) (fun _ => ?_)
  refine lv_lload hx hb d_MO_type_71 (lv_at hl 0 rfl) ?_
  refine lv_ldc2 (v := 126) hx hb hown (hts _ k_1006) d_MO_type_73 ?_
  refine W.lcmp hx hb d_MO_type_76 ?_
  refine lv_if_gt (tgt := 84) hx hb d_MO_type_77 (by decide) (fun h9 => absurd h9 (okm2 (d := 24) (by decide +kernel) (by decide) (g.2.2.2.1))) (fun _ => ?_)
  refine lv_iconst (v := 1) hx hb d_MO_type_80 (by decide) ?_
  refine lv_goto (tgt := 85) hx hb d_MO_type_81 (by decide) ?_
  refine lv_istore hx hb d_MO_type_85 hl (by decide) rfl (fun ls hl => ?_)
  have hl : lv_has ls 8 [(4, .int 1), (6, .long (bm x 3)), (5, .int 3), (0, .ref m0), (1, .long x), (3, .int 7)] := hl
  refine lv_iinc (k := 2) (v := 4) hx hb d_MO_type_87 hl rfl (by decide) (by decide) rfl (fun ls hl => ?_)
  have hl : lv_has ls 8 [(5, .int 4), (4, .int 1), (6, .long (bm x 3)), (0, .ref m0), (1, .long x), (3, .int 7)] := hl
  refine lv_goto (tgt := 38) hx hb d_MO_type_90 (by decide) ?_
  refine lv_iload hx hb d_MO_type_38 (lv_at hl 1 rfl) ?_
  refine lv_if_eq (tgt := 93) hx hb d_MO_type_40 (by decide) (fun h9 => absurd h9 (by decide)) (fun _ => ?_)
  refine lv_iload hx hb d_MO_type_43 (lv_at hl 0 rfl) ?_
  refine lv_iload_n hx hb d_MO_type_45 rfl (lv_at hl 5 rfl) ?_
  refine lv_icmp_ge (tgt := 93) hx hb d_MO_type_46 (by decide) (fun h9 => absurd h9 (by decide)) (fun _ => ?_)
  refine lv_lload_n hx hb d_MO_type_49 rfl (lv_at hl 4 rfl) ?_
  refine lv_bipush (v := 8) hx hb d_MO_type_50 (by decide) ?_
  refine lv_iload hx hb d_MO_type_52 (lv_at hl 0 rfl) ?_
  refine lv_imul hx hb d_MO_type_54 ?_
  refine lv_lshr (v := (x >>> (((8 * 4) : Int32).toInt64 &&& 63))) hx hb d_MO_type_55 rfl ?_
  refine lv_ldc2 (v := 255) hx hb hown (hts _ k_1004) d_MO_type_56 ?_
  refine lv_land hx hb d_MO_type_59 ?_
  refine W.eq (g2 := F0 m 60 ls [.long (bm x 4)]) rfl ?_
  refine lv_lstore hx hb d_MO_type_60 hl (by decide) rfl (fun ls hl => ?_)
  have hl : lv_has ls 8 [(6, .long (bm x 4)), (5, .int 4), (4, .int 1), (0, .ref m0), (1, .long x), (3, .int 7)] := hl
  refine lv_lload hx hb d_MO_type_62 (lv_at hl 0 rfl) ?_
  refine lv_ldc2 (v := 32) hx hb hown (hts _ k_1005) d_MO_type_64 ?_
  refine W.lcmp hx hb d_MO_type_67 ?_
  refine lv_if_lt (tgt := 84) hx hb d_MO_type_68 (by decide) (fun h9 => absurd h9 (okm1 (d := 32) (by decide +kernel) (by decide) (g.2.2.2.2.1))) (fun _ => ?_)
  refine lv_lload hx hb d_MO_type_71 (lv_at hl 0 rfl) ?_
  refine lv_ldc2 (v := 126) hx hb hown (hts _ k_1006) d_MO_type_73 ?_
  refine W.lcmp hx hb d_MO_type_76 ?_
  refine lv_if_gt (tgt := 84) hx hb d_MO_type_77 (by decide) (fun h9 => absurd h9 (okm2 (d := 32) (by decide +kernel) (by decide) (g.2.2.2.2.1))) (fun _ => ?_)
  refine lv_iconst (v := 1) hx hb d_MO_type_80 (by decide) ?_
  refine lv_goto (tgt := 85) hx hb d_MO_type_81 (by decide) ?_
  refine lv_istore hx hb d_MO_type_85 hl (by decide) rfl (fun ls hl => ?_)
  have hl : lv_has ls 8 [(4, .int 1), (6, .long (bm x 4)), (5, .int 4), (0, .ref m0), (1, .long x), (3, .int 7)] := hl
  refine lv_iinc (k := 2) (v := 5) hx hb d_MO_type_87 hl rfl (by decide) (by decide) rfl (fun ls hl => ?_)
  have hl : lv_has ls 8 [(5, .int 5), (4, .int 1), (6, .long (bm x 4)), (0, .ref m0), (1, .long x), (3, .int 7)] := hl
  refine lv_goto (tgt := 38) hx hb d_MO_type_90 (by decide) ?_
  refine lv_iload hx hb d_MO_type_38 (lv_at hl 1 rfl) ?_
  refine lv_if_eq (tgt := 93) hx hb d_MO_type_40 (by decide) (fun h9 => absurd h9 (by decide)) (fun _ => ?_)
  refine lv_iload hx hb d_MO_type_43 (lv_at hl 0 rfl) ?_
  refine lv_iload_n hx hb d_MO_type_45 rfl (lv_at hl 5 rfl) ?_
  refine lv_icmp_ge (tgt := 93) hx hb d_MO_type_46 (by decide) (fun h9 => absurd h9 (by decide)) (fun _ => ?_)
  refine lv_lload_n hx hb d_MO_type_49 rfl (lv_at hl 4 rfl) ?_
  refine lv_bipush (v := 8) hx hb d_MO_type_50 (by decide) ?_
  refine lv_iload hx hb d_MO_type_52 (lv_at hl 0 rfl) ?_
  refine lv_imul hx hb d_MO_type_54 ?_
  refine lv_lshr (v := (x >>> (((8 * 5) : Int32).toInt64 &&& 63))) hx hb d_MO_type_55 rfl ?_
  refine lv_ldc2 (v := 255) hx hb hown (hts _ k_1004) d_MO_type_56 ?_
  refine lv_land hx hb d_MO_type_59 ?_
  refine W.eq (g2 := F0 m 60 ls [.long (bm x 5)]) rfl ?_
  refine lv_lstore hx hb d_MO_type_60 hl (by decide) rfl (fun ls hl => ?_)
  have hl : lv_has ls 8 [(6, .long (bm x 5)), (5, .int 5), (4, .int 1), (0, .ref m0), (1, .long x), (3, .int 7)] := hl
  refine lv_lload hx hb d_MO_type_62 (lv_at hl 0 rfl) ?_
  refine lv_ldc2 (v := 32) hx hb hown (hts _ k_1005) d_MO_type_64 ?_
  refine W.lcmp hx hb d_MO_type_67 ?_
  refine lv_if_lt (tgt := 84) hx hb d_MO_type_68 (by decide) (fun h9 => absurd h9 (okm1 (d := 40) (by decide +kernel) (by decide) (g.2.2.2.2.2.1))) (fun _ => ?_)
  refine lv_lload hx hb d_MO_type_71 (lv_at hl 0 rfl) ?_
  refine lv_ldc2 (v := 126) hx hb hown (hts _ k_1006) d_MO_type_73 ?_
  refine W.lcmp hx hb d_MO_type_76 ?_
  refine lv_if_gt (tgt := 84) hx hb d_MO_type_77 (by decide) (fun h9 => absurd h9 (okm2 (d := 40) (by decide +kernel) (by decide) (g.2.2.2.2.2.1))) (fun _ => ?_)
  refine lv_iconst (v := 1) hx hb d_MO_type_80 (by decide) ?_
  refine lv_goto (tgt := 85) hx hb d_MO_type_81 (by decide) ?_
  refine lv_istore hx hb d_MO_type_85 hl (by decide) rfl (fun ls hl => ?_)
  have hl : lv_has ls 8 [(4, .int 1), (6, .long (bm x 5)), (5, .int 5), (0, .ref m0), (1, .long x), (3, .int 7)] := hl
  refine lv_iinc (k := 2) (v := 6) hx hb d_MO_type_87 hl rfl (by decide) (by decide) rfl (fun ls hl => ?_)
  have hl : lv_has ls 8 [(5, .int 6), (4, .int 1), (6, .long (bm x 5)), (0, .ref m0), (1, .long x), (3, .int 7)] := hl
  refine lv_goto (tgt := 38) hx hb d_MO_type_90 (by decide) ?_
  refine lv_iload hx hb d_MO_type_38 (lv_at hl 1 rfl) ?_
  refine lv_if_eq (tgt := 93) hx hb d_MO_type_40 (by decide) (fun h9 => absurd h9 (by decide)) (fun _ => ?_)
  refine lv_iload hx hb d_MO_type_43 (lv_at hl 0 rfl) ?_
  refine lv_iload_n hx hb d_MO_type_45 rfl (lv_at hl 5 rfl) ?_
  refine lv_icmp_ge (tgt := 93) hx hb d_MO_type_46 (by decide) (fun h9 => absurd h9 (by decide)) (fun _ => ?_)
  refine lv_lload_n hx hb d_MO_type_49 rfl (lv_at hl 4 rfl) ?_
  refine lv_bipush (v := 8) hx hb d_MO_type_50 (by decide) ?_
  refine lv_iload hx hb d_MO_type_52 (lv_at hl 0 rfl) ?_
  refine lv_imul hx hb d_MO_type_54 ?_
  refine lv_lshr (v := (x >>> (((8 * 6) : Int32).toInt64 &&& 63))) hx hb d_MO_type_55 rfl ?_
  refine lv_ldc2 (v := 255) hx hb hown (hts _ k_1004) d_MO_type_56 ?_
  refine lv_land hx hb d_MO_type_59 ?_
  refine W.eq (g2 := F0 m 60 ls [.long (bm x 6)]) rfl ?_
  refine lv_lstore hx hb d_MO_type_60 hl (by decide) rfl (fun ls hl => ?_)
  have hl : lv_has ls 8 [(6, .long (bm x 6)), (5, .int 6), (4, .int 1), (0, .ref m0), (1, .long x), (3, .int 7)] := hl
  refine lv_lload hx hb d_MO_type_62 (lv_at hl 0 rfl) ?_
  refine lv_ldc2 (v := 32) hx hb hown (hts _ k_1005) d_MO_type_64 ?_
  refine W.lcmp hx hb d_MO_type_67 ?_
  refine lv_if_lt (tgt := 84) hx hb d_MO_type_68 (by decide) (fun h9 => absurd h9 (okm1 (d := 48) (by decide +kernel) (by decide) (g.2.2.2.2.2.2))) (fun _ => ?_)
  refine lv_lload hx hb d_MO_type_71 (lv_at hl 0 rfl) ?_
  refine lv_ldc2 (v := 126) hx hb hown (hts _ k_1006) d_MO_type_73 ?_
  refine W.lcmp hx hb d_MO_type_76 ?_
  refine lv_if_gt (tgt := 84) hx hb d_MO_type_77 (by decide) (fun h9 => absurd h9 (okm2 (d := 48) (by decide +kernel) (by decide) (g.2.2.2.2.2.2))) (fun _ => ?_)
  refine lv_iconst (v := 1) hx hb d_MO_type_80 (by decide) ?_
  refine lv_goto (tgt := 85) hx hb d_MO_type_81 (by decide) ?_
  refine lv_istore hx hb d_MO_type_85 hl (by decide) rfl (fun ls hl => ?_)
  have hl : lv_has ls 8 [(4, .int 1), (6, .long (bm x 6)), (5, .int 6), (0, .ref m0), (1, .long x), (3, .int 7)] := hl
  refine lv_iinc (k := 2) (v := 7) hx hb d_MO_type_87 hl rfl (by decide) (by decide) rfl (fun ls hl => ?_)
  have hl : lv_has ls 8 [(5, .int 7), (4, .int 1), (6, .long (bm x 6)), (0, .ref m0), (1, .long x), (3, .int 7)] := hl
  refine lv_goto (tgt := 38) hx hb d_MO_type_90 (by decide) ?_
  refine lv_iload hx hb d_MO_type_38 (lv_at hl 1 rfl) ?_
  refine lv_if_eq (tgt := 93) hx hb d_MO_type_40 (by decide) (fun h9 => absurd h9 (by decide)) (fun _ => ?_)
  refine lv_iload hx hb d_MO_type_43 (lv_at hl 0 rfl) ?_
  refine lv_iload_n hx hb d_MO_type_45 rfl (lv_at hl 5 rfl) ?_
  refine lv_icmp_ge (tgt := 93) hx hb d_MO_type_46 (by decide) (fun _ => ?_) (fun h9 => absurd (by decide) h9)
  refine lv_iload hx hb d_MO_type_93 (lv_at hl 1 rfl) ?_
  refine lv_if_ne (tgt := 100) hx hb d_MO_type_95 (by decide) (fun _ => ?_) (fun h9 => absurd h9 (by decide))
  refine lv_iload_n hx hb d_MO_type_100 rfl (lv_at hl 5 rfl) ?_
  refine lv_iconst (v := 1) hx hb d_MO_type_101 (by decide) ?_
  refine lv_isub hx hb d_MO_type_102 ?_
  refine W.eq (g2 := F0 m 103 ls [.int 6]) rfl ?_
  refine lv_istore hx hb d_MO_type_103 hl (by decide) rfl (fun ls hl => ?_)
  have hl : lv_has ls 8 [(5, .int 6), (4, .int 1), (6, .long (bm x 6)), (0, .ref m0), (1, .long x), (3, .int 7)] := hl
  refine lv_iload hx hb d_MO_type_105 (lv_at hl 0 rfl) ?_
  refine lv_if_lt (tgt := 147) hx hb d_MO_type_107 (by decide) (fun h9 => absurd h9 (by decide)) (fun _ => ?_)
  refine lv_aload_n hx hb d_MO_type_110 rfl (lv_at hl 3 rfl) ?_
  refine va_get (D := (dC, dI)) (ci := 9) (v := .ref f_text) (C := R_MO) (T := T_MO) (N := 36) hx hb hts in_MO hown hK hP 0 rfl rfl 1 (by decide) (hts _ k_887) (fun _ h9 => h9) rfl d_MO_type_111 ?_
  refine lv_aload_n hx hb d_MO_type_114 rfl (lv_at hl 3 rfl) ?_
  refine va_get (D := (dC, dI)) (ci := 9) (v := .int 0) (C := R_MO) (T := T_MO) (N := 36) hx hb hts in_MO hown hK hP 0 rfl rfl 2 (by decide) (hts _ k_888) (fun _ h9 => h9) rfl d_MO_type_115 ?_
  refine lv_lload_n hx hb d_MO_type_118 rfl (lv_at hl 4 rfl) ?_
  refine lv_bipush (v := 8) hx hb d_MO_type_119 (by decide) ?_
  refine lv_iload hx hb d_MO_type_121 (lv_at hl 0 rfl) ?_
  refine lv_imul hx hb d_MO_type_123 ?_
  refine lv_lshr (v := (x >>> (((8 * 6) : Int32).toInt64 &&& 63))) hx hb d_MO_type_124 rfl ?_
  refine lv_ldc2 (v := 255) hx hb hown (hts _ k_1004) d_MO_type_125 ?_
  refine lv_land hx hb d_MO_type_128 ?_
  refine W.eq (g2 := F0 m 129 ls [.long (bm x 6), .int 0, .ref f_text]) rfl ?_
  refine lv_l2i (v := (bm x 6).toInt32) hx hb d_MO_type_129 rfl ?_
  refine va_iast hx hb hK hP hD hS 1 0 rfl rfl (show ¬ ((0 : Int32) < 0 ∨ 300 ≤ (0 : Int32).toNatClampNeg) from by decide) d_MO_type_130 (fun H2 locs hP hD hS => ?_)
  have hP : va_P (dC, dI) cls [(m0, .inr (9, [.int 0, .ref f_text, .int 0, .int (-1), .ref f_kinds, .ref f_places, .ref f_values, .int 0, .ref f_draftLetters, .int 0, .int 0, .int 0, .ref f_draftNumbers, .ref f_draftSigns, .int 0, .int 0, .int 0, .int 0, .ref f_letters, .ref f_numbers, .ref f_isList, .ref f_bounds, .ref f_sizes, .ref f_lists, .ref f_told, .ref f_costs, .int 0, .ref f_times, .int 0, .ref f_bestOne, .ref f_basis, .int 0, .ref f_one, .int 0, .ref f_along, .ref f_now])), (f_text, .inl (cX, 300, .inl (upd (fun _ => (0 : Int32)) (0 : Int32).toNatClampNeg (bm x 6).toInt32)))] H2 := hP
  have hD : va_D A [(m0, .inr (9, [.int 0, .ref f_text, .int 0, .int (-1), .ref f_kinds, .ref f_places, .ref f_values, .int 0, .ref f_draftLetters, .int 0, .int 0, .int 0, .ref f_draftNumbers, .ref f_draftSigns, .int 0, .int 0, .int 0, .int 0, .ref f_letters, .ref f_numbers, .ref f_isList, .ref f_bounds, .ref f_sizes, .ref f_lists, .ref f_told, .ref f_costs, .int 0, .ref f_times, .int 0, .ref f_bestOne, .ref f_basis, .int 0, .ref f_one, .int 0, .ref f_along, .ref f_now])), (f_text, .inl (cX, 300, .inl (upd (fun _ => (0 : Int32)) (0 : Int32).toNatClampNeg (bm x 6).toInt32)))] := hD
  refine lv_aload_n hx hb d_MO_type_131 rfl (lv_at hl 3 rfl) ?_
  refine lv_dup hx hb d_MO_type_132 rfl ?_
  refine va_get (D := (dC, dI)) (ci := 9) (v := .int 0) (C := R_MO) (T := T_MO) (N := 36) hx hb hts in_MO hown hK hP 0 rfl rfl 2 (by decide) (hts _ k_888) (fun _ h9 => h9) rfl d_MO_type_133 ?_
  refine lv_iconst (v := 1) hx hb d_MO_type_136 (by decide) ?_
  refine lv_iadd hx hb d_MO_type_137 ?_
  refine W.eq (g2 := F0 m 138 ls [.int 1, .ref m0]) rfl ?_
  refine va_put (D := (dC, dI)) (ci := 9) (v := .int 1) (ty := .int) (C := R_MO) (T := T_MO) (N := 36) hx hb hts in_MO t_MO t_MO_ok n_MO hown hK hP hD hS 0 rfl rfl 2 (by decide) (hts _ k_888) (fun _ h9 => h9) rfl (by decide +kernel) rfl rfl (Nat.le_of_ble_eq_true rfl) d_MO_type_138 (fun H3 locs hP hD hS => ?_)
  have hP : va_P (dC, dI) cls [(m0, .inr (9, [.int 0, .ref f_text, .int 1, .int (-1), .ref f_kinds, .ref f_places, .ref f_values, .int 0, .ref f_draftLetters, .int 0, .int 0, .int 0, .ref f_draftNumbers, .ref f_draftSigns, .int 0, .int 0, .int 0, .int 0, .ref f_letters, .ref f_numbers, .ref f_isList, .ref f_bounds, .ref f_sizes, .ref f_lists, .ref f_told, .ref f_costs, .int 0, .ref f_times, .int 0, .ref f_bestOne, .ref f_basis, .int 0, .ref f_one, .int 0, .ref f_along, .ref f_now])), (f_text, .inl (cX, 300, .inl (upd (fun _ => (0 : Int32)) (0 : Int32).toNatClampNeg (bm x 6).toInt32)))] H3 := hP
  have hD : va_D A [(m0, .inr (9, [.int 0, .ref f_text, .int 1, .int (-1), .ref f_kinds, .ref f_places, .ref f_values, .int 0, .ref f_draftLetters, .int 0, .int 0, .int 0, .ref f_draftNumbers, .ref f_draftSigns, .int 0, .int 0, .int 0, .int 0, .ref f_letters, .ref f_numbers, .ref f_isList, .ref f_bounds, .ref f_sizes, .ref f_lists, .ref f_told, .ref f_costs, .int 0, .ref f_times, .int 0, .ref f_bestOne, .ref f_basis, .int 0, .ref f_one, .int 0, .ref f_along, .ref f_now])), (f_text, .inl (cX, 300, .inl (upd (fun _ => (0 : Int32)) (0 : Int32).toNatClampNeg (bm x 6).toInt32)))] := hD
  refine lv_iinc (k := 0) (v := 5) hx hb d_MO_type_141 hl rfl (by decide) (by decide) rfl (fun ls hl => ?_)
  have hl : lv_has ls 8 [(5, .int 5), (4, .int 1), (6, .long (bm x 6)), (0, .ref m0), (1, .long x), (3, .int 7)] := hl
  refine lv_goto (tgt := 105) hx hb d_MO_type_144 (by decide) ?_
  refine lv_iload hx hb d_MO_type_105 (lv_at hl 0 rfl) ?_
  refine lv_if_lt (tgt := 147) hx hb d_MO_type_107 (by decide) (fun h9 => absurd h9 (by decide)) (fun _ => ?_)
  refine lv_aload_n hx hb d_MO_type_110 rfl (lv_at hl 3 rfl) ?_
  refine va_get (D := (dC, dI)) (ci := 9) (v := .ref f_text) (C := R_MO) (T := T_MO) (N := 36) hx hb hts in_MO hown hK hP 0 rfl rfl 1 (by decide) (hts _ k_887) (fun _ h9 => h9) rfl d_MO_type_111 ?_
  refine lv_aload_n hx hb d_MO_type_114 rfl (lv_at hl 3 rfl) ?_
  refine va_get (D := (dC, dI)) (ci := 9) (v := .int 1) (C := R_MO) (T := T_MO) (N := 36) hx hb hts in_MO hown hK hP 0 rfl rfl 2 (by decide) (hts _ k_888) (fun _ h9 => h9) rfl d_MO_type_115 ?_
  refine lv_lload_n hx hb d_MO_type_118 rfl (lv_at hl 4 rfl) ?_
  refine lv_bipush (v := 8) hx hb d_MO_type_119 (by decide) ?_
  refine lv_iload hx hb d_MO_type_121 (lv_at hl 0 rfl) ?_
  refine lv_imul hx hb d_MO_type_123 ?_
  refine lv_lshr (v := (x >>> (((8 * 5) : Int32).toInt64 &&& 63))) hx hb d_MO_type_124 rfl ?_
  refine lv_ldc2 (v := 255) hx hb hown (hts _ k_1004) d_MO_type_125 ?_
  refine lv_land hx hb d_MO_type_128 ?_
  refine W.eq (g2 := F0 m 129 ls [.long (bm x 5), .int 1, .ref f_text]) rfl ?_
  refine lv_l2i (v := (bm x 5).toInt32) hx hb d_MO_type_129 rfl ?_
  refine va_iast hx hb hK hP hD hS 1 0 rfl rfl (show ¬ ((1 : Int32) < 0 ∨ 300 ≤ (1 : Int32).toNatClampNeg) from by decide) d_MO_type_130 (fun H4 locs hP hD hS => ?_)
  have hP : va_P (dC, dI) cls [(m0, .inr (9, [.int 0, .ref f_text, .int 1, .int (-1), .ref f_kinds, .ref f_places, .ref f_values, .int 0, .ref f_draftLetters, .int 0, .int 0, .int 0, .ref f_draftNumbers, .ref f_draftSigns, .int 0, .int 0, .int 0, .int 0, .ref f_letters, .ref f_numbers, .ref f_isList, .ref f_bounds, .ref f_sizes, .ref f_lists, .ref f_told, .ref f_costs, .int 0, .ref f_times, .int 0, .ref f_bestOne, .ref f_basis, .int 0, .ref f_one, .int 0, .ref f_along, .ref f_now])), (f_text, .inl (cX, 300, .inl (upd (upd (fun _ => (0 : Int32)) (0 : Int32).toNatClampNeg (bm x 6).toInt32) (1 : Int32).toNatClampNeg (bm x 5).toInt32)))] H4 := hP
  have hD : va_D A [(m0, .inr (9, [.int 0, .ref f_text, .int 1, .int (-1), .ref f_kinds, .ref f_places, .ref f_values, .int 0, .ref f_draftLetters, .int 0, .int 0, .int 0, .ref f_draftNumbers, .ref f_draftSigns, .int 0, .int 0, .int 0, .int 0, .ref f_letters, .ref f_numbers, .ref f_isList, .ref f_bounds, .ref f_sizes, .ref f_lists, .ref f_told, .ref f_costs, .int 0, .ref f_times, .int 0, .ref f_bestOne, .ref f_basis, .int 0, .ref f_one, .int 0, .ref f_along, .ref f_now])), (f_text, .inl (cX, 300, .inl (upd (upd (fun _ => (0 : Int32)) (0 : Int32).toNatClampNeg (bm x 6).toInt32) (1 : Int32).toNatClampNeg (bm x 5).toInt32)))] := hD
  refine lv_aload_n hx hb d_MO_type_131 rfl (lv_at hl 3 rfl) ?_
  refine lv_dup hx hb d_MO_type_132 rfl ?_
  refine va_get (D := (dC, dI)) (ci := 9) (v := .int 1) (C := R_MO) (T := T_MO) (N := 36) hx hb hts in_MO hown hK hP 0 rfl rfl 2 (by decide) (hts _ k_888) (fun _ h9 => h9) rfl d_MO_type_133 ?_
  refine lv_iconst (v := 1) hx hb d_MO_type_136 (by decide) ?_
  refine lv_iadd hx hb d_MO_type_137 ?_
  refine W.eq (g2 := F0 m 138 ls [.int 2, .ref m0]) rfl ?_
  refine va_put (D := (dC, dI)) (ci := 9) (v := .int 2) (ty := .int) (C := R_MO) (T := T_MO) (N := 36) hx hb hts in_MO t_MO t_MO_ok n_MO hown hK hP hD hS 0 rfl rfl 2 (by decide) (hts _ k_888) (fun _ h9 => h9) rfl (by decide +kernel) rfl rfl (Nat.le_of_ble_eq_true rfl) d_MO_type_138 (fun H5 locs hP hD hS => ?_)
  have hP : va_P (dC, dI) cls [(m0, .inr (9, [.int 0, .ref f_text, .int 2, .int (-1), .ref f_kinds, .ref f_places, .ref f_values, .int 0, .ref f_draftLetters, .int 0, .int 0, .int 0, .ref f_draftNumbers, .ref f_draftSigns, .int 0, .int 0, .int 0, .int 0, .ref f_letters, .ref f_numbers, .ref f_isList, .ref f_bounds, .ref f_sizes, .ref f_lists, .ref f_told, .ref f_costs, .int 0, .ref f_times, .int 0, .ref f_bestOne, .ref f_basis, .int 0, .ref f_one, .int 0, .ref f_along, .ref f_now])), (f_text, .inl (cX, 300, .inl (upd (upd (fun _ => (0 : Int32)) (0 : Int32).toNatClampNeg (bm x 6).toInt32) (1 : Int32).toNatClampNeg (bm x 5).toInt32)))] H5 := hP
  have hD : va_D A [(m0, .inr (9, [.int 0, .ref f_text, .int 2, .int (-1), .ref f_kinds, .ref f_places, .ref f_values, .int 0, .ref f_draftLetters, .int 0, .int 0, .int 0, .ref f_draftNumbers, .ref f_draftSigns, .int 0, .int 0, .int 0, .int 0, .ref f_letters, .ref f_numbers, .ref f_isList, .ref f_bounds, .ref f_sizes, .ref f_lists, .ref f_told, .ref f_costs, .int 0, .ref f_times, .int 0, .ref f_bestOne, .ref f_basis, .int 0, .ref f_one, .int 0, .ref f_along, .ref f_now])), (f_text, .inl (cX, 300, .inl (upd (upd (fun _ => (0 : Int32)) (0 : Int32).toNatClampNeg (bm x 6).toInt32) (1 : Int32).toNatClampNeg (bm x 5).toInt32)))] := hD
  refine lv_iinc (k := 0) (v := 4) hx hb d_MO_type_141 hl rfl (by decide) (by decide) rfl (fun ls hl => ?_)
  have hl : lv_has ls 8 [(5, .int 4), (4, .int 1), (6, .long (bm x 6)), (0, .ref m0), (1, .long x), (3, .int 7)] := hl
  refine lv_goto (tgt := 105) hx hb d_MO_type_144 (by decide) ?_
  refine lv_iload hx hb d_MO_type_105 (lv_at hl 0 rfl) ?_
  refine lv_if_lt (tgt := 147) hx hb d_MO_type_107 (by decide) (fun h9 => absurd h9 (by decide)) (fun _ => ?_)
  refine lv_aload_n hx hb d_MO_type_110 rfl (lv_at hl 3 rfl) ?_
  refine va_get (D := (dC, dI)) (ci := 9) (v := .ref f_text) (C := R_MO) (T := T_MO) (N := 36) hx hb hts in_MO hown hK hP 0 rfl rfl 1 (by decide) (hts _ k_887) (fun _ h9 => h9) rfl d_MO_type_111 ?_
  refine lv_aload_n hx hb d_MO_type_114 rfl (lv_at hl 3 rfl) ?_
  refine va_get (D := (dC, dI)) (ci := 9) (v := .int 2) (C := R_MO) (T := T_MO) (N := 36) hx hb hts in_MO hown hK hP 0 rfl rfl 2 (by decide) (hts _ k_888) (fun _ h9 => h9) rfl d_MO_type_115 ?_
  refine lv_lload_n hx hb d_MO_type_118 rfl (lv_at hl 4 rfl) ?_
  refine lv_bipush (v := 8) hx hb d_MO_type_119 (by decide) ?_
  refine lv_iload hx hb d_MO_type_121 (lv_at hl 0 rfl) ?_
  refine lv_imul hx hb d_MO_type_123 ?_
  refine lv_lshr (v := (x >>> (((8 * 4) : Int32).toInt64 &&& 63))) hx hb d_MO_type_124 rfl ?_
  refine lv_ldc2 (v := 255) hx hb hown (hts _ k_1004) d_MO_type_125 ?_
  refine lv_land hx hb d_MO_type_128 ?_
  refine W.eq (g2 := F0 m 129 ls [.long (bm x 4), .int 2, .ref f_text]) rfl ?_
  refine lv_l2i (v := (bm x 4).toInt32) hx hb d_MO_type_129 rfl ?_
  refine va_iast hx hb hK hP hD hS 1 0 rfl rfl (show ¬ ((2 : Int32) < 0 ∨ 300 ≤ (2 : Int32).toNatClampNeg) from by decide) d_MO_type_130 (fun H6 locs hP hD hS => ?_)
  have hP : va_P (dC, dI) cls [(m0, .inr (9, [.int 0, .ref f_text, .int 2, .int (-1), .ref f_kinds, .ref f_places, .ref f_values, .int 0, .ref f_draftLetters, .int 0, .int 0, .int 0, .ref f_draftNumbers, .ref f_draftSigns, .int 0, .int 0, .int 0, .int 0, .ref f_letters, .ref f_numbers, .ref f_isList, .ref f_bounds, .ref f_sizes, .ref f_lists, .ref f_told, .ref f_costs, .int 0, .ref f_times, .int 0, .ref f_bestOne, .ref f_basis, .int 0, .ref f_one, .int 0, .ref f_along, .ref f_now])), (f_text, .inl (cX, 300, .inl (upd (upd (upd (fun _ => (0 : Int32)) (0 : Int32).toNatClampNeg (bm x 6).toInt32) (1 : Int32).toNatClampNeg (bm x 5).toInt32) (2 : Int32).toNatClampNeg (bm x 4).toInt32)))] H6 := hP
  have hD : va_D A [(m0, .inr (9, [.int 0, .ref f_text, .int 2, .int (-1), .ref f_kinds, .ref f_places, .ref f_values, .int 0, .ref f_draftLetters, .int 0, .int 0, .int 0, .ref f_draftNumbers, .ref f_draftSigns, .int 0, .int 0, .int 0, .int 0, .ref f_letters, .ref f_numbers, .ref f_isList, .ref f_bounds, .ref f_sizes, .ref f_lists, .ref f_told, .ref f_costs, .int 0, .ref f_times, .int 0, .ref f_bestOne, .ref f_basis, .int 0, .ref f_one, .int 0, .ref f_along, .ref f_now])), (f_text, .inl (cX, 300, .inl (upd (upd (upd (fun _ => (0 : Int32)) (0 : Int32).toNatClampNeg (bm x 6).toInt32) (1 : Int32).toNatClampNeg (bm x 5).toInt32) (2 : Int32).toNatClampNeg (bm x 4).toInt32)))] := hD
  refine lv_aload_n hx hb d_MO_type_131 rfl (lv_at hl 3 rfl) ?_
  refine lv_dup hx hb d_MO_type_132 rfl ?_
  refine va_get (D := (dC, dI)) (ci := 9) (v := .int 2) (C := R_MO) (T := T_MO) (N := 36) hx hb hts in_MO hown hK hP 0 rfl rfl 2 (by decide) (hts _ k_888) (fun _ h9 => h9) rfl d_MO_type_133 ?_
  refine lv_iconst (v := 1) hx hb d_MO_type_136 (by decide) ?_
  refine lv_iadd hx hb d_MO_type_137 ?_
  refine W.eq (g2 := F0 m 138 ls [.int 3, .ref m0]) rfl ?_
  refine va_put (D := (dC, dI)) (ci := 9) (v := .int 3) (ty := .int) (C := R_MO) (T := T_MO) (N := 36) hx hb hts in_MO t_MO t_MO_ok n_MO hown hK hP hD hS 0 rfl rfl 2 (by decide) (hts _ k_888) (fun _ h9 => h9) rfl (by decide +kernel) rfl rfl (Nat.le_of_ble_eq_true rfl) d_MO_type_138 (fun H7 locs hP hD hS => ?_)
  have hP : va_P (dC, dI) cls [(m0, .inr (9, [.int 0, .ref f_text, .int 3, .int (-1), .ref f_kinds, .ref f_places, .ref f_values, .int 0, .ref f_draftLetters, .int 0, .int 0, .int 0, .ref f_draftNumbers, .ref f_draftSigns, .int 0, .int 0, .int 0, .int 0, .ref f_letters, .ref f_numbers, .ref f_isList, .ref f_bounds, .ref f_sizes, .ref f_lists, .ref f_told, .ref f_costs, .int 0, .ref f_times, .int 0, .ref f_bestOne, .ref f_basis, .int 0, .ref f_one, .int 0, .ref f_along, .ref f_now])), (f_text, .inl (cX, 300, .inl (upd (upd (upd (fun _ => (0 : Int32)) (0 : Int32).toNatClampNeg (bm x 6).toInt32) (1 : Int32).toNatClampNeg (bm x 5).toInt32) (2 : Int32).toNatClampNeg (bm x 4).toInt32)))] H7 := hP
  have hD : va_D A [(m0, .inr (9, [.int 0, .ref f_text, .int 3, .int (-1), .ref f_kinds, .ref f_places, .ref f_values, .int 0, .ref f_draftLetters, .int 0, .int 0, .int 0, .ref f_draftNumbers, .ref f_draftSigns, .int 0, .int 0, .int 0, .int 0, .ref f_letters, .ref f_numbers, .ref f_isList, .ref f_bounds, .ref f_sizes, .ref f_lists, .ref f_told, .ref f_costs, .int 0, .ref f_times, .int 0, .ref f_bestOne, .ref f_basis, .int 0, .ref f_one, .int 0, .ref f_along, .ref f_now])), (f_text, .inl (cX, 300, .inl (upd (upd (upd (fun _ => (0 : Int32)) (0 : Int32).toNatClampNeg (bm x 6).toInt32) (1 : Int32).toNatClampNeg (bm x 5).toInt32) (2 : Int32).toNatClampNeg (bm x 4).toInt32)))] := hD
  refine lv_iinc (k := 0) (v := 3) hx hb d_MO_type_141 hl rfl (by decide) (by decide) rfl (fun ls hl => ?_)
  have hl : lv_has ls 8 [(5, .int 3), (4, .int 1), (6, .long (bm x 6)), (0, .ref m0), (1, .long x), (3, .int 7)] := hl
  refine lv_goto (tgt := 105) hx hb d_MO_type_144 (by decide) ?_
  refine lv_iload hx hb d_MO_type_105 (lv_at hl 0 rfl) ?_
  refine lv_if_lt (tgt := 147) hx hb d_MO_type_107 (by decide) (fun h9 => absurd h9 (by decide)) (fun _ => ?_)
  refine lv_aload_n hx hb d_MO_type_110 rfl (lv_at hl 3 rfl) ?_
  refine va_get (D := (dC, dI)) (ci := 9) (v := .ref f_text) (C := R_MO) (T := T_MO) (N := 36) hx hb hts in_MO hown hK hP 0 rfl rfl 1 (by decide) (hts _ k_887) (fun _ h9 => h9) rfl d_MO_type_111 ?_
  refine lv_aload_n hx hb d_MO_type_114 rfl (lv_at hl 3 rfl) ?_
  refine va_get (D := (dC, dI)) (ci := 9) (v := .int 3) (C := R_MO) (T := T_MO) (N := 36) hx hb hts in_MO hown hK hP 0 rfl rfl 2 (by decide) (hts _ k_888) (fun _ h9 => h9) rfl d_MO_type_115 ?_
  refine lv_lload_n hx hb d_MO_type_118 rfl (lv_at hl 4 rfl) ?_
  refine lv_bipush (v := 8) hx hb d_MO_type_119 (by decide) ?_
  refine lv_iload hx hb d_MO_type_121 (lv_at hl 0 rfl) ?_
  refine lv_imul hx hb d_MO_type_123 ?_
  refine lv_lshr (v := (x >>> (((8 * 3) : Int32).toInt64 &&& 63))) hx hb d_MO_type_124 rfl ?_
  refine lv_ldc2 (v := 255) hx hb hown (hts _ k_1004) d_MO_type_125 ?_
  refine lv_land hx hb d_MO_type_128 ?_
  refine W.eq (g2 := F0 m 129 ls [.long (bm x 3), .int 3, .ref f_text]) rfl ?_
  refine lv_l2i (v := (bm x 3).toInt32) hx hb d_MO_type_129 rfl ?_
  refine va_iast hx hb hK hP hD hS 1 0 rfl rfl (show ¬ ((3 : Int32) < 0 ∨ 300 ≤ (3 : Int32).toNatClampNeg) from by decide) d_MO_type_130 (fun H8 locs hP hD hS => ?_)
  have hP : va_P (dC, dI) cls [(m0, .inr (9, [.int 0, .ref f_text, .int 3, .int (-1), .ref f_kinds, .ref f_places, .ref f_values, .int 0, .ref f_draftLetters, .int 0, .int 0, .int 0, .ref f_draftNumbers, .ref f_draftSigns, .int 0, .int 0, .int 0, .int 0, .ref f_letters, .ref f_numbers, .ref f_isList, .ref f_bounds, .ref f_sizes, .ref f_lists, .ref f_told, .ref f_costs, .int 0, .ref f_times, .int 0, .ref f_bestOne, .ref f_basis, .int 0, .ref f_one, .int 0, .ref f_along, .ref f_now])), (f_text, .inl (cX, 300, .inl (upd (upd (upd (upd (fun _ => (0 : Int32)) (0 : Int32).toNatClampNeg (bm x 6).toInt32) (1 : Int32).toNatClampNeg (bm x 5).toInt32) (2 : Int32).toNatClampNeg (bm x 4).toInt32) (3 : Int32).toNatClampNeg (bm x 3).toInt32)))] H8 := hP
  have hD : va_D A [(m0, .inr (9, [.int 0, .ref f_text, .int 3, .int (-1), .ref f_kinds, .ref f_places, .ref f_values, .int 0, .ref f_draftLetters, .int 0, .int 0, .int 0, .ref f_draftNumbers, .ref f_draftSigns, .int 0, .int 0, .int 0, .int 0, .ref f_letters, .ref f_numbers, .ref f_isList, .ref f_bounds, .ref f_sizes, .ref f_lists, .ref f_told, .ref f_costs, .int 0, .ref f_times, .int 0, .ref f_bestOne, .ref f_basis, .int 0, .ref f_one, .int 0, .ref f_along, .ref f_now])), (f_text, .inl (cX, 300, .inl (upd (upd (upd (upd (fun _ => (0 : Int32)) (0 : Int32).toNatClampNeg (bm x 6).toInt32) (1 : Int32).toNatClampNeg (bm x 5).toInt32) (2 : Int32).toNatClampNeg (bm x 4).toInt32) (3 : Int32).toNatClampNeg (bm x 3).toInt32)))] := hD
  refine lv_aload_n hx hb d_MO_type_131 rfl (lv_at hl 3 rfl) ?_
  refine lv_dup hx hb d_MO_type_132 rfl ?_
  refine va_get (D := (dC, dI)) (ci := 9) (v := .int 3) (C := R_MO) (T := T_MO) (N := 36) hx hb hts in_MO hown hK hP 0 rfl rfl 2 (by decide) (hts _ k_888) (fun _ h9 => h9) rfl d_MO_type_133 ?_
  refine lv_iconst (v := 1) hx hb d_MO_type_136 (by decide) ?_
  refine lv_iadd hx hb d_MO_type_137 ?_
  refine W.eq (g2 := F0 m 138 ls [.int 4, .ref m0]) rfl ?_
  refine va_put (D := (dC, dI)) (ci := 9) (v := .int 4) (ty := .int) (C := R_MO) (T := T_MO) (N := 36) hx hb hts in_MO t_MO t_MO_ok n_MO hown hK hP hD hS 0 rfl rfl 2 (by decide) (hts _ k_888) (fun _ h9 => h9) rfl (by decide +kernel) rfl rfl (Nat.le_of_ble_eq_true rfl) d_MO_type_138 (fun H9 locs hP hD hS => ?_)
  have hP : va_P (dC, dI) cls [(m0, .inr (9, [.int 0, .ref f_text, .int 4, .int (-1), .ref f_kinds, .ref f_places, .ref f_values, .int 0, .ref f_draftLetters, .int 0, .int 0, .int 0, .ref f_draftNumbers, .ref f_draftSigns, .int 0, .int 0, .int 0, .int 0, .ref f_letters, .ref f_numbers, .ref f_isList, .ref f_bounds, .ref f_sizes, .ref f_lists, .ref f_told, .ref f_costs, .int 0, .ref f_times, .int 0, .ref f_bestOne, .ref f_basis, .int 0, .ref f_one, .int 0, .ref f_along, .ref f_now])), (f_text, .inl (cX, 300, .inl (upd (upd (upd (upd (fun _ => (0 : Int32)) (0 : Int32).toNatClampNeg (bm x 6).toInt32) (1 : Int32).toNatClampNeg (bm x 5).toInt32) (2 : Int32).toNatClampNeg (bm x 4).toInt32) (3 : Int32).toNatClampNeg (bm x 3).toInt32)))] H9 := hP
  have hD : va_D A [(m0, .inr (9, [.int 0, .ref f_text, .int 4, .int (-1), .ref f_kinds, .ref f_places, .ref f_values, .int 0, .ref f_draftLetters, .int 0, .int 0, .int 0, .ref f_draftNumbers, .ref f_draftSigns, .int 0, .int 0, .int 0, .int 0, .ref f_letters, .ref f_numbers, .ref f_isList, .ref f_bounds, .ref f_sizes, .ref f_lists, .ref f_told, .ref f_costs, .int 0, .ref f_times, .int 0, .ref f_bestOne, .ref f_basis, .int 0, .ref f_one, .int 0, .ref f_along, .ref f_now])), (f_text, .inl (cX, 300, .inl (upd (upd (upd (upd (fun _ => (0 : Int32)) (0 : Int32).toNatClampNeg (bm x 6).toInt32) (1 : Int32).toNatClampNeg (bm x 5).toInt32) (2 : Int32).toNatClampNeg (bm x 4).toInt32) (3 : Int32).toNatClampNeg (bm x 3).toInt32)))] := hD
  refine lv_iinc (k := 0) (v := 2) hx hb d_MO_type_141 hl rfl (by decide) (by decide) rfl (fun ls hl => ?_)
  have hl : lv_has ls 8 [(5, .int 2), (4, .int 1), (6, .long (bm x 6)), (0, .ref m0), (1, .long x), (3, .int 7)] := hl
  refine lv_goto (tgt := 105) hx hb d_MO_type_144 (by decide) ?_
  refine lv_iload hx hb d_MO_type_105 (lv_at hl 0 rfl) ?_
  refine lv_if_lt (tgt := 147) hx hb d_MO_type_107 (by decide) (fun h9 => absurd h9 (by decide)) (fun _ => ?_)
  refine lv_aload_n hx hb d_MO_type_110 rfl (lv_at hl 3 rfl) ?_
  refine va_get (D := (dC, dI)) (ci := 9) (v := .ref f_text) (C := R_MO) (T := T_MO) (N := 36) hx hb hts in_MO hown hK hP 0 rfl rfl 1 (by decide) (hts _ k_887) (fun _ h9 => h9) rfl d_MO_type_111 ?_
  refine lv_aload_n hx hb d_MO_type_114 rfl (lv_at hl 3 rfl) ?_
  refine va_get (D := (dC, dI)) (ci := 9) (v := .int 4) (C := R_MO) (T := T_MO) (N := 36) hx hb hts in_MO hown hK hP 0 rfl rfl 2 (by decide) (hts _ k_888) (fun _ h9 => h9) rfl d_MO_type_115 ?_
  refine lv_lload_n hx hb d_MO_type_118 rfl (lv_at hl 4 rfl) ?_
  refine lv_bipush (v := 8) hx hb d_MO_type_119 (by decide) ?_
  refine lv_iload hx hb d_MO_type_121 (lv_at hl 0 rfl) ?_
  refine lv_imul hx hb d_MO_type_123 ?_
  refine lv_lshr (v := (x >>> (((8 * 2) : Int32).toInt64 &&& 63))) hx hb d_MO_type_124 rfl ?_
  refine lv_ldc2 (v := 255) hx hb hown (hts _ k_1004) d_MO_type_125 ?_
  refine lv_land hx hb d_MO_type_128 ?_
  refine W.eq (g2 := F0 m 129 ls [.long (bm x 2), .int 4, .ref f_text]) rfl ?_
  refine lv_l2i (v := (bm x 2).toInt32) hx hb d_MO_type_129 rfl ?_
  refine va_iast hx hb hK hP hD hS 1 0 rfl rfl (show ¬ ((4 : Int32) < 0 ∨ 300 ≤ (4 : Int32).toNatClampNeg) from by decide) d_MO_type_130 (fun H10 locs hP hD hS => ?_)
  have hP : va_P (dC, dI) cls [(m0, .inr (9, [.int 0, .ref f_text, .int 4, .int (-1), .ref f_kinds, .ref f_places, .ref f_values, .int 0, .ref f_draftLetters, .int 0, .int 0, .int 0, .ref f_draftNumbers, .ref f_draftSigns, .int 0, .int 0, .int 0, .int 0, .ref f_letters, .ref f_numbers, .ref f_isList, .ref f_bounds, .ref f_sizes, .ref f_lists, .ref f_told, .ref f_costs, .int 0, .ref f_times, .int 0, .ref f_bestOne, .ref f_basis, .int 0, .ref f_one, .int 0, .ref f_along, .ref f_now])), (f_text, .inl (cX, 300, .inl (upd (upd (upd (upd (upd (fun _ => (0 : Int32)) (0 : Int32).toNatClampNeg (bm x 6).toInt32) (1 : Int32).toNatClampNeg (bm x 5).toInt32) (2 : Int32).toNatClampNeg (bm x 4).toInt32) (3 : Int32).toNatClampNeg (bm x 3).toInt32) (4 : Int32).toNatClampNeg (bm x 2).toInt32)))] H10 := hP
  have hD : va_D A [(m0, .inr (9, [.int 0, .ref f_text, .int 4, .int (-1), .ref f_kinds, .ref f_places, .ref f_values, .int 0, .ref f_draftLetters, .int 0, .int 0, .int 0, .ref f_draftNumbers, .ref f_draftSigns, .int 0, .int 0, .int 0, .int 0, .ref f_letters, .ref f_numbers, .ref f_isList, .ref f_bounds, .ref f_sizes, .ref f_lists, .ref f_told, .ref f_costs, .int 0, .ref f_times, .int 0, .ref f_bestOne, .ref f_basis, .int 0, .ref f_one, .int 0, .ref f_along, .ref f_now])), (f_text, .inl (cX, 300, .inl (upd (upd (upd (upd (upd (fun _ => (0 : Int32)) (0 : Int32).toNatClampNeg (bm x 6).toInt32) (1 : Int32).toNatClampNeg (bm x 5).toInt32) (2 : Int32).toNatClampNeg (bm x 4).toInt32) (3 : Int32).toNatClampNeg (bm x 3).toInt32) (4 : Int32).toNatClampNeg (bm x 2).toInt32)))] := hD
  refine lv_aload_n hx hb d_MO_type_131 rfl (lv_at hl 3 rfl) ?_
  refine lv_dup hx hb d_MO_type_132 rfl ?_
  refine va_get (D := (dC, dI)) (ci := 9) (v := .int 4) (C := R_MO) (T := T_MO) (N := 36) hx hb hts in_MO hown hK hP 0 rfl rfl 2 (by decide) (hts _ k_888) (fun _ h9 => h9) rfl d_MO_type_133 ?_
  refine lv_iconst (v := 1) hx hb d_MO_type_136 (by decide) ?_
  refine lv_iadd hx hb d_MO_type_137 ?_
  refine W.eq (g2 := F0 m 138 ls [.int 5, .ref m0]) rfl ?_
  refine va_put (D := (dC, dI)) (ci := 9) (v := .int 5) (ty := .int) (C := R_MO) (T := T_MO) (N := 36) hx hb hts in_MO t_MO t_MO_ok n_MO hown hK hP hD hS 0 rfl rfl 2 (by decide) (hts _ k_888) (fun _ h9 => h9) rfl (by decide +kernel) rfl rfl (Nat.le_of_ble_eq_true rfl) d_MO_type_138 (fun H11 locs hP hD hS => ?_)
  have hP : va_P (dC, dI) cls [(m0, .inr (9, [.int 0, .ref f_text, .int 5, .int (-1), .ref f_kinds, .ref f_places, .ref f_values, .int 0, .ref f_draftLetters, .int 0, .int 0, .int 0, .ref f_draftNumbers, .ref f_draftSigns, .int 0, .int 0, .int 0, .int 0, .ref f_letters, .ref f_numbers, .ref f_isList, .ref f_bounds, .ref f_sizes, .ref f_lists, .ref f_told, .ref f_costs, .int 0, .ref f_times, .int 0, .ref f_bestOne, .ref f_basis, .int 0, .ref f_one, .int 0, .ref f_along, .ref f_now])), (f_text, .inl (cX, 300, .inl (upd (upd (upd (upd (upd (fun _ => (0 : Int32)) (0 : Int32).toNatClampNeg (bm x 6).toInt32) (1 : Int32).toNatClampNeg (bm x 5).toInt32) (2 : Int32).toNatClampNeg (bm x 4).toInt32) (3 : Int32).toNatClampNeg (bm x 3).toInt32) (4 : Int32).toNatClampNeg (bm x 2).toInt32)))] H11 := hP
  have hD : va_D A [(m0, .inr (9, [.int 0, .ref f_text, .int 5, .int (-1), .ref f_kinds, .ref f_places, .ref f_values, .int 0, .ref f_draftLetters, .int 0, .int 0, .int 0, .ref f_draftNumbers, .ref f_draftSigns, .int 0, .int 0, .int 0, .int 0, .ref f_letters, .ref f_numbers, .ref f_isList, .ref f_bounds, .ref f_sizes, .ref f_lists, .ref f_told, .ref f_costs, .int 0, .ref f_times, .int 0, .ref f_bestOne, .ref f_basis, .int 0, .ref f_one, .int 0, .ref f_along, .ref f_now])), (f_text, .inl (cX, 300, .inl (upd (upd (upd (upd (upd (fun _ => (0 : Int32)) (0 : Int32).toNatClampNeg (bm x 6).toInt32) (1 : Int32).toNatClampNeg (bm x 5).toInt32) (2 : Int32).toNatClampNeg (bm x 4).toInt32) (3 : Int32).toNatClampNeg (bm x 3).toInt32) (4 : Int32).toNatClampNeg (bm x 2).toInt32)))] := hD
  refine lv_iinc (k := 0) (v := 1) hx hb d_MO_type_141 hl rfl (by decide) (by decide) rfl (fun ls hl => ?_)
  have hl : lv_has ls 8 [(5, .int 1), (4, .int 1), (6, .long (bm x 6)), (0, .ref m0), (1, .long x), (3, .int 7)] := hl
  refine lv_goto (tgt := 105) hx hb d_MO_type_144 (by decide) ?_
  refine lv_iload hx hb d_MO_type_105 (lv_at hl 0 rfl) ?_
  refine lv_if_lt (tgt := 147) hx hb d_MO_type_107 (by decide) (fun h9 => absurd h9 (by decide)) (fun _ => ?_)
  refine lv_aload_n hx hb d_MO_type_110 rfl (lv_at hl 3 rfl) ?_
  refine va_get (D := (dC, dI)) (ci := 9) (v := .ref f_text) (C := R_MO) (T := T_MO) (N := 36) hx hb hts in_MO hown hK hP 0 rfl rfl 1 (by decide) (hts _ k_887) (fun _ h9 => h9) rfl d_MO_type_111 ?_
  refine lv_aload_n hx hb d_MO_type_114 rfl (lv_at hl 3 rfl) ?_
  refine va_get (D := (dC, dI)) (ci := 9) (v := .int 5) (C := R_MO) (T := T_MO) (N := 36) hx hb hts in_MO hown hK hP 0 rfl rfl 2 (by decide) (hts _ k_888) (fun _ h9 => h9) rfl d_MO_type_115 ?_
  refine lv_lload_n hx hb d_MO_type_118 rfl (lv_at hl 4 rfl) ?_
  refine lv_bipush (v := 8) hx hb d_MO_type_119 (by decide) ?_
  refine lv_iload hx hb d_MO_type_121 (lv_at hl 0 rfl) ?_
  refine lv_imul hx hb d_MO_type_123 ?_
  refine lv_lshr (v := (x >>> (((8 * 1) : Int32).toInt64 &&& 63))) hx hb d_MO_type_124 rfl ?_
  refine lv_ldc2 (v := 255) hx hb hown (hts _ k_1004) d_MO_type_125 ?_
  refine lv_land hx hb d_MO_type_128 ?_
  refine W.eq (g2 := F0 m 129 ls [.long (bm x 1), .int 5, .ref f_text]) rfl ?_
  refine lv_l2i (v := (bm x 1).toInt32) hx hb d_MO_type_129 rfl ?_
  refine va_iast hx hb hK hP hD hS 1 0 rfl rfl (show ¬ ((5 : Int32) < 0 ∨ 300 ≤ (5 : Int32).toNatClampNeg) from by decide) d_MO_type_130 (fun H12 locs hP hD hS => ?_)
  have hP : va_P (dC, dI) cls [(m0, .inr (9, [.int 0, .ref f_text, .int 5, .int (-1), .ref f_kinds, .ref f_places, .ref f_values, .int 0, .ref f_draftLetters, .int 0, .int 0, .int 0, .ref f_draftNumbers, .ref f_draftSigns, .int 0, .int 0, .int 0, .int 0, .ref f_letters, .ref f_numbers, .ref f_isList, .ref f_bounds, .ref f_sizes, .ref f_lists, .ref f_told, .ref f_costs, .int 0, .ref f_times, .int 0, .ref f_bestOne, .ref f_basis, .int 0, .ref f_one, .int 0, .ref f_along, .ref f_now])), (f_text, .inl (cX, 300, .inl (upd (upd (upd (upd (upd (upd (fun _ => (0 : Int32)) (0 : Int32).toNatClampNeg (bm x 6).toInt32) (1 : Int32).toNatClampNeg (bm x 5).toInt32) (2 : Int32).toNatClampNeg (bm x 4).toInt32) (3 : Int32).toNatClampNeg (bm x 3).toInt32) (4 : Int32).toNatClampNeg (bm x 2).toInt32) (5 : Int32).toNatClampNeg (bm x 1).toInt32)))] H12 := hP
  have hD : va_D A [(m0, .inr (9, [.int 0, .ref f_text, .int 5, .int (-1), .ref f_kinds, .ref f_places, .ref f_values, .int 0, .ref f_draftLetters, .int 0, .int 0, .int 0, .ref f_draftNumbers, .ref f_draftSigns, .int 0, .int 0, .int 0, .int 0, .ref f_letters, .ref f_numbers, .ref f_isList, .ref f_bounds, .ref f_sizes, .ref f_lists, .ref f_told, .ref f_costs, .int 0, .ref f_times, .int 0, .ref f_bestOne, .ref f_basis, .int 0, .ref f_one, .int 0, .ref f_along, .ref f_now])), (f_text, .inl (cX, 300, .inl (upd (upd (upd (upd (upd (upd (fun _ => (0 : Int32)) (0 : Int32).toNatClampNeg (bm x 6).toInt32) (1 : Int32).toNatClampNeg (bm x 5).toInt32) (2 : Int32).toNatClampNeg (bm x 4).toInt32) (3 : Int32).toNatClampNeg (bm x 3).toInt32) (4 : Int32).toNatClampNeg (bm x 2).toInt32) (5 : Int32).toNatClampNeg (bm x 1).toInt32)))] := hD
  refine lv_aload_n hx hb d_MO_type_131 rfl (lv_at hl 3 rfl) ?_
  refine lv_dup hx hb d_MO_type_132 rfl ?_
  refine va_get (D := (dC, dI)) (ci := 9) (v := .int 5) (C := R_MO) (T := T_MO) (N := 36) hx hb hts in_MO hown hK hP 0 rfl rfl 2 (by decide) (hts _ k_888) (fun _ h9 => h9) rfl d_MO_type_133 ?_
  refine lv_iconst (v := 1) hx hb d_MO_type_136 (by decide) ?_
  refine lv_iadd hx hb d_MO_type_137 ?_
  refine W.eq (g2 := F0 m 138 ls [.int 6, .ref m0]) rfl ?_
  refine va_put (D := (dC, dI)) (ci := 9) (v := .int 6) (ty := .int) (C := R_MO) (T := T_MO) (N := 36) hx hb hts in_MO t_MO t_MO_ok n_MO hown hK hP hD hS 0 rfl rfl 2 (by decide) (hts _ k_888) (fun _ h9 => h9) rfl (by decide +kernel) rfl rfl (Nat.le_of_ble_eq_true rfl) d_MO_type_138 (fun H13 locs hP hD hS => ?_)
  have hP : va_P (dC, dI) cls [(m0, .inr (9, [.int 0, .ref f_text, .int 6, .int (-1), .ref f_kinds, .ref f_places, .ref f_values, .int 0, .ref f_draftLetters, .int 0, .int 0, .int 0, .ref f_draftNumbers, .ref f_draftSigns, .int 0, .int 0, .int 0, .int 0, .ref f_letters, .ref f_numbers, .ref f_isList, .ref f_bounds, .ref f_sizes, .ref f_lists, .ref f_told, .ref f_costs, .int 0, .ref f_times, .int 0, .ref f_bestOne, .ref f_basis, .int 0, .ref f_one, .int 0, .ref f_along, .ref f_now])), (f_text, .inl (cX, 300, .inl (upd (upd (upd (upd (upd (upd (fun _ => (0 : Int32)) (0 : Int32).toNatClampNeg (bm x 6).toInt32) (1 : Int32).toNatClampNeg (bm x 5).toInt32) (2 : Int32).toNatClampNeg (bm x 4).toInt32) (3 : Int32).toNatClampNeg (bm x 3).toInt32) (4 : Int32).toNatClampNeg (bm x 2).toInt32) (5 : Int32).toNatClampNeg (bm x 1).toInt32)))] H13 := hP
  have hD : va_D A [(m0, .inr (9, [.int 0, .ref f_text, .int 6, .int (-1), .ref f_kinds, .ref f_places, .ref f_values, .int 0, .ref f_draftLetters, .int 0, .int 0, .int 0, .ref f_draftNumbers, .ref f_draftSigns, .int 0, .int 0, .int 0, .int 0, .ref f_letters, .ref f_numbers, .ref f_isList, .ref f_bounds, .ref f_sizes, .ref f_lists, .ref f_told, .ref f_costs, .int 0, .ref f_times, .int 0, .ref f_bestOne, .ref f_basis, .int 0, .ref f_one, .int 0, .ref f_along, .ref f_now])), (f_text, .inl (cX, 300, .inl (upd (upd (upd (upd (upd (upd (fun _ => (0 : Int32)) (0 : Int32).toNatClampNeg (bm x 6).toInt32) (1 : Int32).toNatClampNeg (bm x 5).toInt32) (2 : Int32).toNatClampNeg (bm x 4).toInt32) (3 : Int32).toNatClampNeg (bm x 3).toInt32) (4 : Int32).toNatClampNeg (bm x 2).toInt32) (5 : Int32).toNatClampNeg (bm x 1).toInt32)))] := hD
  refine lv_iinc (k := 0) (v := 0) hx hb d_MO_type_141 hl rfl (by decide) (by decide) rfl (fun ls hl => ?_)
  have hl : lv_has ls 8 [(5, .int 0), (4, .int 1), (6, .long (bm x 6)), (0, .ref m0), (1, .long x), (3, .int 7)] := hl
  refine lv_goto (tgt := 105) hx hb d_MO_type_144 (by decide) ?_
  refine lv_iload hx hb d_MO_type_105 (lv_at hl 0 rfl) ?_
  refine lv_if_lt (tgt := 147) hx hb d_MO_type_107 (by decide) (fun h9 => absurd h9 (by decide)) (fun _ => ?_)
  refine lv_aload_n hx hb d_MO_type_110 rfl (lv_at hl 3 rfl) ?_
  refine va_get (D := (dC, dI)) (ci := 9) (v := .ref f_text) (C := R_MO) (T := T_MO) (N := 36) hx hb hts in_MO hown hK hP 0 rfl rfl 1 (by decide) (hts _ k_887) (fun _ h9 => h9) rfl d_MO_type_111 ?_
  refine lv_aload_n hx hb d_MO_type_114 rfl (lv_at hl 3 rfl) ?_
  refine va_get (D := (dC, dI)) (ci := 9) (v := .int 6) (C := R_MO) (T := T_MO) (N := 36) hx hb hts in_MO hown hK hP 0 rfl rfl 2 (by decide) (hts _ k_888) (fun _ h9 => h9) rfl d_MO_type_115 ?_
  refine lv_lload_n hx hb d_MO_type_118 rfl (lv_at hl 4 rfl) ?_
  refine lv_bipush (v := 8) hx hb d_MO_type_119 (by decide) ?_
  refine lv_iload hx hb d_MO_type_121 (lv_at hl 0 rfl) ?_
  refine lv_imul hx hb d_MO_type_123 ?_
  refine lv_lshr (v := (x >>> (((8 * 0) : Int32).toInt64 &&& 63))) hx hb d_MO_type_124 rfl ?_
  refine lv_ldc2 (v := 255) hx hb hown (hts _ k_1004) d_MO_type_125 ?_
  refine lv_land hx hb d_MO_type_128 ?_
  refine W.eq (g2 := F0 m 129 ls [.long (bm x 0), .int 6, .ref f_text]) rfl ?_
  refine lv_l2i (v := (bm x 0).toInt32) hx hb d_MO_type_129 rfl ?_
  refine va_iast hx hb hK hP hD hS 1 0 rfl rfl (show ¬ ((6 : Int32) < 0 ∨ 300 ≤ (6 : Int32).toNatClampNeg) from by decide) d_MO_type_130 (fun H14 locs hP hD hS => ?_)
  have hP : va_P (dC, dI) cls [(m0, .inr (9, [.int 0, .ref f_text, .int 6, .int (-1), .ref f_kinds, .ref f_places, .ref f_values, .int 0, .ref f_draftLetters, .int 0, .int 0, .int 0, .ref f_draftNumbers, .ref f_draftSigns, .int 0, .int 0, .int 0, .int 0, .ref f_letters, .ref f_numbers, .ref f_isList, .ref f_bounds, .ref f_sizes, .ref f_lists, .ref f_told, .ref f_costs, .int 0, .ref f_times, .int 0, .ref f_bestOne, .ref f_basis, .int 0, .ref f_one, .int 0, .ref f_along, .ref f_now])), (f_text, .inl (cX, 300, .inl (upd (upd (upd (upd (upd (upd (upd (fun _ => (0 : Int32)) (0 : Int32).toNatClampNeg (bm x 6).toInt32) (1 : Int32).toNatClampNeg (bm x 5).toInt32) (2 : Int32).toNatClampNeg (bm x 4).toInt32) (3 : Int32).toNatClampNeg (bm x 3).toInt32) (4 : Int32).toNatClampNeg (bm x 2).toInt32) (5 : Int32).toNatClampNeg (bm x 1).toInt32) (6 : Int32).toNatClampNeg (bm x 0).toInt32)))] H14 := hP
  have hD : va_D A [(m0, .inr (9, [.int 0, .ref f_text, .int 6, .int (-1), .ref f_kinds, .ref f_places, .ref f_values, .int 0, .ref f_draftLetters, .int 0, .int 0, .int 0, .ref f_draftNumbers, .ref f_draftSigns, .int 0, .int 0, .int 0, .int 0, .ref f_letters, .ref f_numbers, .ref f_isList, .ref f_bounds, .ref f_sizes, .ref f_lists, .ref f_told, .ref f_costs, .int 0, .ref f_times, .int 0, .ref f_bestOne, .ref f_basis, .int 0, .ref f_one, .int 0, .ref f_along, .ref f_now])), (f_text, .inl (cX, 300, .inl (upd (upd (upd (upd (upd (upd (upd (fun _ => (0 : Int32)) (0 : Int32).toNatClampNeg (bm x 6).toInt32) (1 : Int32).toNatClampNeg (bm x 5).toInt32) (2 : Int32).toNatClampNeg (bm x 4).toInt32) (3 : Int32).toNatClampNeg (bm x 3).toInt32) (4 : Int32).toNatClampNeg (bm x 2).toInt32) (5 : Int32).toNatClampNeg (bm x 1).toInt32) (6 : Int32).toNatClampNeg (bm x 0).toInt32)))] := hD
  refine lv_aload_n hx hb d_MO_type_131 rfl (lv_at hl 3 rfl) ?_
  refine lv_dup hx hb d_MO_type_132 rfl ?_
  refine va_get (D := (dC, dI)) (ci := 9) (v := .int 6) (C := R_MO) (T := T_MO) (N := 36) hx hb hts in_MO hown hK hP 0 rfl rfl 2 (by decide) (hts _ k_888) (fun _ h9 => h9) rfl d_MO_type_133 ?_
  refine lv_iconst (v := 1) hx hb d_MO_type_136 (by decide) ?_
  refine lv_iadd hx hb d_MO_type_137 ?_
  refine W.eq (g2 := F0 m 138 ls [.int 7, .ref m0]) rfl ?_
  refine va_put (D := (dC, dI)) (ci := 9) (v := .int 7) (ty := .int) (C := R_MO) (T := T_MO) (N := 36) hx hb hts in_MO t_MO t_MO_ok n_MO hown hK hP hD hS 0 rfl rfl 2 (by decide) (hts _ k_888) (fun _ h9 => h9) rfl (by decide +kernel) rfl rfl (Nat.le_of_ble_eq_true rfl) d_MO_type_138 (fun H15 locs hP hD hS => ?_)
  have hP : va_P (dC, dI) cls [(m0, .inr (9, [.int 0, .ref f_text, .int 7, .int (-1), .ref f_kinds, .ref f_places, .ref f_values, .int 0, .ref f_draftLetters, .int 0, .int 0, .int 0, .ref f_draftNumbers, .ref f_draftSigns, .int 0, .int 0, .int 0, .int 0, .ref f_letters, .ref f_numbers, .ref f_isList, .ref f_bounds, .ref f_sizes, .ref f_lists, .ref f_told, .ref f_costs, .int 0, .ref f_times, .int 0, .ref f_bestOne, .ref f_basis, .int 0, .ref f_one, .int 0, .ref f_along, .ref f_now])), (f_text, .inl (cX, 300, .inl (upd (upd (upd (upd (upd (upd (upd (fun _ => (0 : Int32)) (0 : Int32).toNatClampNeg (bm x 6).toInt32) (1 : Int32).toNatClampNeg (bm x 5).toInt32) (2 : Int32).toNatClampNeg (bm x 4).toInt32) (3 : Int32).toNatClampNeg (bm x 3).toInt32) (4 : Int32).toNatClampNeg (bm x 2).toInt32) (5 : Int32).toNatClampNeg (bm x 1).toInt32) (6 : Int32).toNatClampNeg (bm x 0).toInt32)))] H15 := hP
  have hD : va_D A [(m0, .inr (9, [.int 0, .ref f_text, .int 7, .int (-1), .ref f_kinds, .ref f_places, .ref f_values, .int 0, .ref f_draftLetters, .int 0, .int 0, .int 0, .ref f_draftNumbers, .ref f_draftSigns, .int 0, .int 0, .int 0, .int 0, .ref f_letters, .ref f_numbers, .ref f_isList, .ref f_bounds, .ref f_sizes, .ref f_lists, .ref f_told, .ref f_costs, .int 0, .ref f_times, .int 0, .ref f_bestOne, .ref f_basis, .int 0, .ref f_one, .int 0, .ref f_along, .ref f_now])), (f_text, .inl (cX, 300, .inl (upd (upd (upd (upd (upd (upd (upd (fun _ => (0 : Int32)) (0 : Int32).toNatClampNeg (bm x 6).toInt32) (1 : Int32).toNatClampNeg (bm x 5).toInt32) (2 : Int32).toNatClampNeg (bm x 4).toInt32) (3 : Int32).toNatClampNeg (bm x 3).toInt32) (4 : Int32).toNatClampNeg (bm x 2).toInt32) (5 : Int32).toNatClampNeg (bm x 1).toInt32) (6 : Int32).toNatClampNeg (bm x 0).toInt32)))] := hD
  refine lv_iinc (k := 0) (v := (-1)) hx hb d_MO_type_141 hl rfl (by decide) (by decide) rfl (fun ls hl => ?_)
  have hl : lv_has ls 8 [(5, .int (-1)), (4, .int 1), (6, .long (bm x 6)), (0, .ref m0), (1, .long x), (3, .int 7)] := hl
  refine lv_goto (tgt := 105) hx hb d_MO_type_144 (by decide) ?_
  refine lv_iload hx hb d_MO_type_105 (lv_at hl 0 rfl) ?_
  refine lv_if_lt (tgt := 147) hx hb d_MO_type_107 (by decide) (fun _ => ?_) (fun h9 => absurd (by decide) h9)
  refine lv_aload_n hx hb d_MO_type_147 rfl (lv_at hl 3 rfl) ?_
  refine va_get (D := (dC, dI)) (ci := 9) (v := .int 7) (C := R_MO) (T := T_MO) (N := 36) hx hb hts in_MO hown hK hP 0 rfl rfl 2 (by decide) (hts _ k_888) (fun _ h9 => h9) rfl d_MO_type_148 ?_
  have hP9 := hP.sub (ws' := [(m0, .inr (9, [.int 0, .ref f_text, .int 7, .int (-1), .ref f_kinds, .ref f_places, .ref f_values, .int 0, .ref f_draftLetters, .int 0, .int 0, .int 0, .ref f_draftNumbers, .ref f_draftSigns, .int 0, .int 0, .int 0, .int 0, .ref f_letters, .ref f_numbers, .ref f_isList, .ref f_bounds, .ref f_sizes, .ref f_lists, .ref f_told, .ref f_costs, .int 0, .ref f_times, .int 0, .ref f_bestOne, .ref f_basis, .int 0, .ref f_one, .int 0, .ref f_along, .ref f_now]))]) [0] rfl
  have hD9 := hD.sub (ws' := [(m0, .inr (9, [.int 0, .ref f_text, .int 7, .int (-1), .ref f_kinds, .ref f_places, .ref f_values, .int 0, .ref f_draftLetters, .int 0, .int 0, .int 0, .ref f_draftNumbers, .ref f_draftSigns, .int 0, .int 0, .int 0, .int 0, .ref f_letters, .ref f_numbers, .ref f_isList, .ref f_bounds, .ref f_sizes, .ref f_lists, .ref f_told, .ref f_costs, .int 0, .ref f_times, .int 0, .ref f_bestOne, .ref f_basis, .int 0, .ref f_one, .int 0, .ref f_along, .ref f_now]))]) [0] (by decide) rfl
  have hK9 := hK.sub (tys' := [(cX, .int)]) [0] rfl
  exact W.iret (v := 7) hx hb hr (fun t ht hW => ⟨⟨7, (), rfl, rfl, by rw [ht]; exact hP9, va_K.moved hW.alike hK9, hD9⟩, hS.F ht⟩) hS.2.2 d_MO_type_151

set_option maxHeartbeats 4000000 in
set_option maxRecDepth 100000 in
theorem c_MO_type_7n (l : Launch) (dC : Nat → ClassId) (dI : Nat → Nat → Nat) (m0 : Nat) (f_text : Nat) (f_kinds : Nat) (f_places : Nat) (f_values : Nat) (f_draftLetters : Nat) (f_draftNumbers : Nat) (f_draftSigns : Nat) (f_letters : Nat) (f_numbers : Nat) (f_isList : Nat) (f_bounds : Nat) (f_sizes : Nat) (f_lists : Nat) (f_told : Nat) (f_costs : Nat) (f_times : Nat) (f_bestOne : Nat) (f_basis : Nat) (f_one : Nat) (f_along : Nat) (f_now : Nat) (th : Int32) (x : Int64) (sz : Nat) (g : ¬ (ok x 0 ∧ ok x 8 ∧ ok x 16 ∧ ok x 24 ∧ ok x 32 ∧ ok x 40 ∧ ok x 48)) : Met l y_MO_type (Cond.code y_MO_type b_MO_type 8 (Option.some Jvm.ClassFile.FieldType.int) :: wd) { frames := 0, cells := 0, slots := 0, locals := 0 } (va_Pc [.ref m0, .long x, .int 7] (fun U => U.heap.size = sz ∧ va_P (dC, dI) cls [(m0, .inr (9, [.int th, .ref f_text, .int 0, .int (-1), .ref f_kinds, .ref f_places, .ref f_values, .int 0, .ref f_draftLetters, .int 0, .int 0, .int 0, .ref f_draftNumbers, .ref f_draftSigns, .int 0, .int 0, .int 0, .int 0, .ref f_letters, .ref f_numbers, .ref f_isList, .ref f_bounds, .ref f_sizes, .ref f_lists, .ref f_told, .ref f_costs, .int 0, .ref f_times, .int 0, .ref f_bestOne, .ref f_basis, .int 0, .ref f_one, .int 0, .ref f_along, .ref f_now]))] U.heap ∧ va_K (dC, dI) cls [] U ∧ va_D (fun _ => True) [(m0, .inr (9, [.int th, .ref f_text, .int 0, .int (-1), .ref f_kinds, .ref f_places, .ref f_values, .int 0, .ref f_draftLetters, .int 0, .int 0, .int 0, .ref f_draftNumbers, .ref f_draftSigns, .int 0, .int 0, .int 0, .int 0, .ref f_letters, .ref f_numbers, .ref f_isList, .ref f_bounds, .ref f_sizes, .ref f_lists, .ref f_told, .ref f_costs, .int 0, .ref f_times, .int 0, .ref f_bestOne, .ref f_basis, .int 0, .ref f_one, .int 0, .ref f_along, .ref f_now]))] ∧ nw_ok U)) (va_Qi (fun r (_ : Unit) => r = (-1)) (fun (_ : Unit) t => va_P (dC, dI) cls [(m0, .inr (9, [.int 0, .ref f_text, .int 0, .int (-1), .ref f_kinds, .ref f_places, .ref f_values, .int 0, .ref f_draftLetters, .int 0, .int 0, .int 0, .ref f_draftNumbers, .ref f_draftSigns, .int 0, .int 0, .int 0, .int 0, .ref f_letters, .ref f_numbers, .ref f_isList, .ref f_bounds, .ref f_sizes, .ref f_lists, .ref f_told, .ref f_costs, .int 0, .ref f_times, .int 0, .ref f_bestOne, .ref f_basis, .int 0, .ref f_one, .int 0, .ref f_along, .ref f_now]))] t.heap ∧ va_K (dC, dI) cls [] t ∧ va_D (va_A [(m0, .inr (9, [.int th, .ref f_text, .int 0, .int (-1), .ref f_kinds, .ref f_places, .ref f_values, .int 0, .ref f_draftLetters, .int 0, .int 0, .int 0, .ref f_draftNumbers, .ref f_draftSigns, .int 0, .int 0, .int 0, .int 0, .ref f_letters, .ref f_numbers, .ref f_isList, .ref f_bounds, .ref f_sizes, .ref f_lists, .ref f_told, .ref f_costs, .int 0, .ref f_times, .int 0, .ref f_bestOne, .ref f_basis, .int 0, .ref f_one, .int 0, .ref f_along, .ref f_now]))] sz) [(m0, .inr (9, [.int 0, .ref f_text, .int 0, .int (-1), .ref f_kinds, .ref f_places, .ref f_values, .int 0, .ref f_draftLetters, .int 0, .int 0, .int 0, .ref f_draftNumbers, .ref f_draftSigns, .int 0, .int 0, .int 0, .int 0, .ref f_letters, .ref f_numbers, .ref f_isList, .ref f_bounds, .ref f_sizes, .ref f_lists, .ref f_told, .ref f_costs, .int 0, .ref f_times, .int 0, .ref f_bestOne, .ref f_basis, .int 0, .ref f_one, .int 0, .ref f_along, .ref f_now]))]) (va_A [(m0, .inr (9, [.int th, .ref f_text, .int 0, .int (-1), .ref f_kinds, .ref f_places, .ref f_values, .int 0, .ref f_draftLetters, .int 0, .int 0, .int 0, .ref f_draftNumbers, .ref f_draftSigns, .int 0, .int 0, .int 0, .int 0, .ref f_letters, .ref f_numbers, .ref f_isList, .ref f_bounds, .ref f_sizes, .ref f_lists, .ref f_told, .ref f_costs, .int 0, .ref f_times, .int 0, .ref f_bestOne, .ref f_basis, .int 0, .ref f_one, .int 0, .ref f_along, .ref f_now]))] sz)) 0 0 (va_A [(m0, .inr (9, [.int th, .ref f_text, .int 0, .int (-1), .ref f_kinds, .ref f_places, .ref f_values, .int 0, .ref f_draftLetters, .int 0, .int 0, .int 0, .ref f_draftNumbers, .ref f_draftSigns, .int 0, .int 0, .int 0, .int 0, .ref f_letters, .ref f_numbers, .ref f_isList, .ref f_bounds, .ref f_sizes, .ref f_lists, .ref f_told, .ref f_costs, .int 0, .ref f_times, .int 0, .ref f_bestOne, .ref f_basis, .int 0, .ref f_one, .int 0, .ref f_along, .ref f_now]))] sz) := by
  refine Met.ofW (cc := b_MO_type) (maxL := 8) (ret := (Option.some Jvm.ClassFile.FieldType.int)) (by decide) rfl ?_
  intro p e s m args below meth c s₁ B hml hv
  obtain ⟨rfl, hsz, hP, hK, hD0, hN⟩ := hv
  have hx := B.exec
  have hb := B.bytes
  have hr := B.returns
  have hlocks := B.notSynchronized
  have hts : ∀ w ∈ wd, w.before ([.ref m0, .long x, .int 7] : List Value).toArray s = true := fun w hw => atoms_spec (ws := (Cond.code y_MO_type b_MO_type 8 (Option.some Jvm.ClassFile.FieldType.int) :: wd)) B.pre w (List.mem_cons_of_mem _ hw)
  have hown : s.vm.findClass "LeastSolutionsModel" = some m.cls := findClass_of_methodNamed B.named
  subst hsz
  have hD := hD0.self (sz := s.heap.size)
  generalize hAe : va_A [(m0, .inr (9, [.int th, .ref f_text, .int 0, .int (-1), .ref f_kinds, .ref f_places, .ref f_values, .int 0, .ref f_draftLetters, .int 0, .int 0, .int 0, .ref f_draftNumbers, .ref f_draftSigns, .int 0, .int 0, .int 0, .int 0, .ref f_letters, .ref f_numbers, .ref f_isList, .ref f_bounds, .ref f_sizes, .ref f_lists, .ref f_told, .ref f_costs, .int 0, .ref f_times, .int 0, .ref f_bestOne, .ref f_basis, .int 0, .ref f_one, .int 0, .ref f_along, .ref f_now]))] s.heap.size = A at hD ⊢
  have hA : ∀ q : Nat, s.heap.size ≤ q → A q := fun q h => by rw [← hAe]; exact Or.inr h
  have hS : va_S A s.heap s.heap [] := va_S.rf
  have hl := lv_entry ([.ref m0, .long x, .int 7]) (n := 8) (Nat.le_of_ble_eq_true rfl)
  rw [lg_entry_eq]
  generalize (lg_sl ([.ref m0, .long x, .int 7]) ++ List.replicate (8 - (lg_sl ([.ref m0, .long x, .int 7])).length) Slot.unset).toArray = ls at hl ⊢
  have hl : lv_has ls 8 [(0, .ref m0), (1, .long x), (3, .int 7)] := hl
  refine lv_aload_n hx hb d_MO_type_0 rfl (lv_at hl 0 rfl) ?_
  refine lv_iconst (v := 0) hx hb d_MO_type_1 (by decide) ?_
  refine va_put (D := (dC, dI)) (ci := 9) (v := .int 0) (ty := .int) (C := R_MO) (T := T_MO) (N := 36) hx hb hts in_MO t_MO t_MO_ok n_MO hown hK hP hD hS 0 rfl rfl 0 (by decide) (hts _ k_886) (fun _ h9 => h9) rfl (by decide +kernel) rfl rfl (Nat.le_of_ble_eq_true rfl) d_MO_type_2 (fun H1 locs hP hD hS => ?_)
  have hP : va_P (dC, dI) cls [(m0, .inr (9, [.int 0, .ref f_text, .int 0, .int (-1), .ref f_kinds, .ref f_places, .ref f_values, .int 0, .ref f_draftLetters, .int 0, .int 0, .int 0, .ref f_draftNumbers, .ref f_draftSigns, .int 0, .int 0, .int 0, .int 0, .ref f_letters, .ref f_numbers, .ref f_isList, .ref f_bounds, .ref f_sizes, .ref f_lists, .ref f_told, .ref f_costs, .int 0, .ref f_times, .int 0, .ref f_bestOne, .ref f_basis, .int 0, .ref f_one, .int 0, .ref f_along, .ref f_now]))] H1 := hP
  have hD : va_D A [(m0, .inr (9, [.int 0, .ref f_text, .int 0, .int (-1), .ref f_kinds, .ref f_places, .ref f_values, .int 0, .ref f_draftLetters, .int 0, .int 0, .int 0, .ref f_draftNumbers, .ref f_draftSigns, .int 0, .int 0, .int 0, .int 0, .ref f_letters, .ref f_numbers, .ref f_isList, .ref f_bounds, .ref f_sizes, .ref f_lists, .ref f_told, .ref f_costs, .int 0, .ref f_times, .int 0, .ref f_bestOne, .ref f_basis, .int 0, .ref f_one, .int 0, .ref f_along, .ref f_now]))] := hD
  refine lv_iload_n hx hb d_MO_type_5 rfl (lv_at hl 2 rfl) ?_
  refine lv_iconst (v := 1) hx hb d_MO_type_6 (by decide) ?_
  refine lv_icmp_lt (tgt := 32) hx hb d_MO_type_7 (by decide) (fun h9 => absurd h9 (by decide)) (fun _ => ?_)
  refine lv_iload_n hx hb d_MO_type_10 rfl (lv_at hl 2 rfl) ?_
  refine lv_bipush (v := 8) hx hb d_MO_type_11 (by decide) ?_
  refine lv_icmp_gt (tgt := 32) hx hb d_MO_type_13 (by decide) (fun h9 => absurd h9 (by decide)) (fun _ => ?_)
  refine lv_aload_n hx hb d_MO_type_16 rfl (lv_at hl 0 rfl) ?_
  refine va_get (D := (dC, dI)) (ci := 9) (v := .int 0) (C := R_MO) (T := T_MO) (N := 36) hx hb hts in_MO hown hK hP 0 rfl rfl 2 (by decide) (hts _ k_888) (fun _ h9 => h9) rfl d_MO_type_17 ?_
  refine lv_iload_n hx hb d_MO_type_20 rfl (lv_at hl 2 rfl) ?_
  refine lv_iadd hx hb d_MO_type_21 ?_
  refine W.eq (g2 := F0 m 22 ls [.int 7]) rfl ?_
  refine lv_sipush (v := 300) hx hb d_MO_type_22 (by decide) ?_
  refine lv_icmp_gt (tgt := 32) hx hb d_MO_type_25 (by decide) (fun h9 => absurd h9 (by decide)) (fun _ => ?_)
  refine lv_iconst (v := 1) hx hb d_MO_type_28 (by decide) ?_
  refine lv_goto (tgt := 33) hx hb d_MO_type_29 (by decide) ?_
  refine lv_istore hx hb d_MO_type_33 hl (by decide) rfl (fun ls hl => ?_)
  have hl : lv_has ls 8 [(4, .int 1), (0, .ref m0), (1, .long x), (3, .int 7)] := hl
  refine lv_iconst (v := 0) hx hb d_MO_type_35 (by decide) ?_
  refine lv_istore hx hb d_MO_type_36 hl (by decide) rfl (fun ls hl => ?_)
  have hl : lv_has ls 8 [(5, .int 0), (4, .int 1), (0, .ref m0), (1, .long x), (3, .int 7)] := hl
  refine lv_iload hx hb d_MO_type_38 (lv_at hl 1 rfl) ?_
  refine lv_if_eq (tgt := 93) hx hb d_MO_type_40 (by decide) (fun h9 => absurd h9 (by decide)) (fun _ => ?_)
  refine lv_iload hx hb d_MO_type_43 (lv_at hl 0 rfl) ?_
  refine lv_iload_n hx hb d_MO_type_45 rfl (lv_at hl 4 rfl) ?_
  refine lv_icmp_ge (tgt := 93) hx hb d_MO_type_46 (by decide) (fun h9 => absurd h9 (by decide)) (fun _ => ?_)
  refine lv_lload_n hx hb d_MO_type_49 rfl (lv_at hl 3 rfl) ?_
  refine lv_bipush (v := 8) hx hb d_MO_type_50 (by decide) ?_
  refine lv_iload hx hb d_MO_type_52 (lv_at hl 0 rfl) ?_
  refine lv_imul hx hb d_MO_type_54 ?_
  refine lv_lshr (v := (x >>> (((8 * 0) : Int32).toInt64 &&& 63))) hx hb d_MO_type_55 rfl ?_
  refine lv_ldc2 (v := 255) hx hb hown (hts _ k_1004) d_MO_type_56 ?_
  refine lv_land hx hb d_MO_type_59 ?_
  refine W.eq (g2 := F0 m 60 ls [.long (bm x 0)]) rfl ?_
  refine lv_lstore hx hb d_MO_type_60 hl (by decide) rfl (fun ls hl => ?_)
  have hl : lv_has ls 8 [(6, .long (bm x 0)), (5, .int 0), (4, .int 1), (0, .ref m0), (1, .long x), (3, .int 7)] := hl
  refine lv_lload hx hb d_MO_type_62 (lv_at hl 0 rfl) ?_
  refine lv_ldc2 (v := 32) hx hb hown (hts _ k_1005) d_MO_type_64 ?_
  refine W.lcmp hx hb d_MO_type_67 ?_
  refine lv_if_lt (tgt := 84) hx hb d_MO_type_68 (by decide) (fun hc1 => ?_) (fun hc1 => ?_)
  · refine lv_iconst (v := 0) hx hb d_MO_type_84 (by decide) ?_
    refine lv_istore hx hb d_MO_type_85 hl (by decide) rfl (fun ls hl => ?_)
    have hl : lv_has ls 8 [(4, .int 0), (6, .long (bm x 0)), (5, .int 0), (0, .ref m0), (1, .long x), (3, .int 7)] := hl
    refine lv_iinc (k := 2) (v := 1) hx hb d_MO_type_87 hl rfl (by decide) (by decide) rfl (fun ls hl => ?_)
    have hl : lv_has ls 8 [(5, .int 1), (4, .int 0), (6, .long (bm x 0)), (0, .ref m0), (1, .long x), (3, .int 7)] := hl
    refine lv_goto (tgt := 38) hx hb d_MO_type_90 (by decide) ?_
    refine lv_iload hx hb d_MO_type_38 (lv_at hl 1 rfl) ?_
    refine lv_if_eq (tgt := 93) hx hb d_MO_type_40 (by decide) (fun _ => ?_) (fun h9 => absurd (by decide) h9)
    refine lv_iload hx hb d_MO_type_93 (lv_at hl 1 rfl) ?_
    refine lv_if_ne (tgt := 100) hx hb d_MO_type_95 (by decide) (fun h9 => absurd (by decide) h9) (fun _ => ?_)
    refine lv_iconst (v := (-1)) hx hb d_MO_type_98 (by decide) ?_
    have hP9 := hP.sub (ws' := [(m0, .inr (9, [.int 0, .ref f_text, .int 0, .int (-1), .ref f_kinds, .ref f_places, .ref f_values, .int 0, .ref f_draftLetters, .int 0, .int 0, .int 0, .ref f_draftNumbers, .ref f_draftSigns, .int 0, .int 0, .int 0, .int 0, .ref f_letters, .ref f_numbers, .ref f_isList, .ref f_bounds, .ref f_sizes, .ref f_lists, .ref f_told, .ref f_costs, .int 0, .ref f_times, .int 0, .ref f_bestOne, .ref f_basis, .int 0, .ref f_one, .int 0, .ref f_along, .ref f_now]))]) [0] rfl
    have hD9 := hD.sub (ws' := [(m0, .inr (9, [.int 0, .ref f_text, .int 0, .int (-1), .ref f_kinds, .ref f_places, .ref f_values, .int 0, .ref f_draftLetters, .int 0, .int 0, .int 0, .ref f_draftNumbers, .ref f_draftSigns, .int 0, .int 0, .int 0, .int 0, .ref f_letters, .ref f_numbers, .ref f_isList, .ref f_bounds, .ref f_sizes, .ref f_lists, .ref f_told, .ref f_costs, .int 0, .ref f_times, .int 0, .ref f_bestOne, .ref f_basis, .int 0, .ref f_one, .int 0, .ref f_along, .ref f_now]))]) [0] (by decide) rfl
    have hK9 := hK.sub (tys' := []) [] rfl
    exact W.iret (v := (-1)) hx hb hr (fun t ht hW => ⟨⟨(-1), (), rfl, rfl, by rw [ht]; exact hP9, va_K.moved hW.alike hK9, hD9⟩, hS.F ht⟩) hS.2.2 d_MO_type_99
  · refine lv_lload hx hb d_MO_type_71 (lv_at hl 0 rfl) ?_
    refine lv_ldc2 (v := 126) hx hb hown (hts _ k_1006) d_MO_type_73 ?_
    refine W.lcmp hx hb d_MO_type_76 ?_
    refine lv_if_gt (tgt := 84) hx hb d_MO_type_77 (by decide) (fun hc2 => ?_) (fun hc2 => ?_)
    · refine lv_iconst (v := 0) hx hb d_MO_type_84 (by decide) ?_
      refine lv_istore hx hb d_MO_type_85 hl (by decide) rfl (fun ls hl => ?_)
      have hl : lv_has ls 8 [(4, .int 0), (6, .long (bm x 0)), (5, .int 0), (0, .ref m0), (1, .long x), (3, .int 7)] := hl
      refine lv_iinc (k := 2) (v := 1) hx hb d_MO_type_87 hl rfl (by decide) (by decide) rfl (fun ls hl => ?_)
      have hl : lv_has ls 8 [(5, .int 1), (4, .int 0), (6, .long (bm x 0)), (0, .ref m0), (1, .long x), (3, .int 7)] := hl
      refine lv_goto (tgt := 38) hx hb d_MO_type_90 (by decide) ?_
      refine lv_iload hx hb d_MO_type_38 (lv_at hl 1 rfl) ?_
      refine lv_if_eq (tgt := 93) hx hb d_MO_type_40 (by decide) (fun _ => ?_) (fun h9 => absurd (by decide) h9)
      refine lv_iload hx hb d_MO_type_93 (lv_at hl 1 rfl) ?_
      refine lv_if_ne (tgt := 100) hx hb d_MO_type_95 (by decide) (fun h9 => absurd (by decide) h9) (fun _ => ?_)
      refine lv_iconst (v := (-1)) hx hb d_MO_type_98 (by decide) ?_
      have hP9 := hP.sub (ws' := [(m0, .inr (9, [.int 0, .ref f_text, .int 0, .int (-1), .ref f_kinds, .ref f_places, .ref f_values, .int 0, .ref f_draftLetters, .int 0, .int 0, .int 0, .ref f_draftNumbers, .ref f_draftSigns, .int 0, .int 0, .int 0, .int 0, .ref f_letters, .ref f_numbers, .ref f_isList, .ref f_bounds, .ref f_sizes, .ref f_lists, .ref f_told, .ref f_costs, .int 0, .ref f_times, .int 0, .ref f_bestOne, .ref f_basis, .int 0, .ref f_one, .int 0, .ref f_along, .ref f_now]))]) [0] rfl
      have hD9 := hD.sub (ws' := [(m0, .inr (9, [.int 0, .ref f_text, .int 0, .int (-1), .ref f_kinds, .ref f_places, .ref f_values, .int 0, .ref f_draftLetters, .int 0, .int 0, .int 0, .ref f_draftNumbers, .ref f_draftSigns, .int 0, .int 0, .int 0, .int 0, .ref f_letters, .ref f_numbers, .ref f_isList, .ref f_bounds, .ref f_sizes, .ref f_lists, .ref f_told, .ref f_costs, .int 0, .ref f_times, .int 0, .ref f_bestOne, .ref f_basis, .int 0, .ref f_one, .int 0, .ref f_along, .ref f_now]))]) [0] (by decide) rfl
      have hK9 := hK.sub (tys' := []) [] rfl
      exact W.iret (v := (-1)) hx hb hr (fun t ht hW => ⟨⟨(-1), (), rfl, rfl, by rw [ht]; exact hP9, va_K.moved hW.alike hK9, hD9⟩, hS.F ht⟩) hS.2.2 d_MO_type_99
    · refine lv_iconst (v := 1) hx hb d_MO_type_80 (by decide) ?_
      refine lv_goto (tgt := 85) hx hb d_MO_type_81 (by decide) ?_
      refine lv_istore hx hb d_MO_type_85 hl (by decide) rfl (fun ls hl => ?_)
      have hl : lv_has ls 8 [(4, .int 1), (6, .long (bm x 0)), (5, .int 0), (0, .ref m0), (1, .long x), (3, .int 7)] := hl
      refine lv_iinc (k := 2) (v := 1) hx hb d_MO_type_87 hl rfl (by decide) (by decide) rfl (fun ls hl => ?_)
      have hl : lv_has ls 8 [(5, .int 1), (4, .int 1), (6, .long (bm x 0)), (0, .ref m0), (1, .long x), (3, .int 7)] := hl
      refine lv_goto (tgt := 38) hx hb d_MO_type_90 (by decide) ?_
      refine lv_iload hx hb d_MO_type_38 (lv_at hl 1 rfl) ?_
      refine lv_if_eq (tgt := 93) hx hb d_MO_type_40 (by decide) (fun h9 => absurd h9 (by decide)) (fun _ => ?_)
      refine lv_iload hx hb d_MO_type_43 (lv_at hl 0 rfl) ?_
      refine lv_iload_n hx hb d_MO_type_45 rfl (lv_at hl 5 rfl) ?_
      refine lv_icmp_ge (tgt := 93) hx hb d_MO_type_46 (by decide) (fun h9 => absurd h9 (by decide)) (fun _ => ?_)
      refine lv_lload_n hx hb d_MO_type_49 rfl (lv_at hl 4 rfl) ?_
      refine lv_bipush (v := 8) hx hb d_MO_type_50 (by decide) ?_
      refine lv_iload hx hb d_MO_type_52 (lv_at hl 0 rfl) ?_
      refine lv_imul hx hb d_MO_type_54 ?_
      refine lv_lshr (v := (x >>> (((8 * 1) : Int32).toInt64 &&& 63))) hx hb d_MO_type_55 rfl ?_
      refine lv_ldc2 (v := 255) hx hb hown (hts _ k_1004) d_MO_type_56 ?_
      refine lv_land hx hb d_MO_type_59 ?_
      refine W.eq (g2 := F0 m 60 ls [.long (bm x 1)]) rfl ?_
      refine lv_lstore hx hb d_MO_type_60 hl (by decide) rfl (fun ls hl => ?_)
      have hl : lv_has ls 8 [(6, .long (bm x 1)), (5, .int 1), (4, .int 1), (0, .ref m0), (1, .long x), (3, .int 7)] := hl
      refine lv_lload hx hb d_MO_type_62 (lv_at hl 0 rfl) ?_
      refine lv_ldc2 (v := 32) hx hb hown (hts _ k_1005) d_MO_type_64 ?_
      refine W.lcmp hx hb d_MO_type_67 ?_
      refine lv_if_lt (tgt := 84) hx hb d_MO_type_68 (by decide) (fun hc3 => ?_) (fun hc3 => ?_)
      · refine lv_iconst (v := 0) hx hb d_MO_type_84 (by decide) ?_
        refine lv_istore hx hb d_MO_type_85 hl (by decide) rfl (fun ls hl => ?_)
        have hl : lv_has ls 8 [(4, .int 0), (6, .long (bm x 1)), (5, .int 1), (0, .ref m0), (1, .long x), (3, .int 7)] := hl
        refine lv_iinc (k := 2) (v := 2) hx hb d_MO_type_87 hl rfl (by decide) (by decide) rfl (fun ls hl => ?_)
        have hl : lv_has ls 8 [(5, .int 2), (4, .int 0), (6, .long (bm x 1)), (0, .ref m0), (1, .long x), (3, .int 7)] := hl
        refine lv_goto (tgt := 38) hx hb d_MO_type_90 (by decide) ?_
        refine lv_iload hx hb d_MO_type_38 (lv_at hl 1 rfl) ?_
        refine lv_if_eq (tgt := 93) hx hb d_MO_type_40 (by decide) (fun _ => ?_) (fun h9 => absurd (by decide) h9)
        refine lv_iload hx hb d_MO_type_93 (lv_at hl 1 rfl) ?_
        refine lv_if_ne (tgt := 100) hx hb d_MO_type_95 (by decide) (fun h9 => absurd (by decide) h9) (fun _ => ?_)
        refine lv_iconst (v := (-1)) hx hb d_MO_type_98 (by decide) ?_
        have hP9 := hP.sub (ws' := [(m0, .inr (9, [.int 0, .ref f_text, .int 0, .int (-1), .ref f_kinds, .ref f_places, .ref f_values, .int 0, .ref f_draftLetters, .int 0, .int 0, .int 0, .ref f_draftNumbers, .ref f_draftSigns, .int 0, .int 0, .int 0, .int 0, .ref f_letters, .ref f_numbers, .ref f_isList, .ref f_bounds, .ref f_sizes, .ref f_lists, .ref f_told, .ref f_costs, .int 0, .ref f_times, .int 0, .ref f_bestOne, .ref f_basis, .int 0, .ref f_one, .int 0, .ref f_along, .ref f_now]))]) [0] rfl
        have hD9 := hD.sub (ws' := [(m0, .inr (9, [.int 0, .ref f_text, .int 0, .int (-1), .ref f_kinds, .ref f_places, .ref f_values, .int 0, .ref f_draftLetters, .int 0, .int 0, .int 0, .ref f_draftNumbers, .ref f_draftSigns, .int 0, .int 0, .int 0, .int 0, .ref f_letters, .ref f_numbers, .ref f_isList, .ref f_bounds, .ref f_sizes, .ref f_lists, .ref f_told, .ref f_costs, .int 0, .ref f_times, .int 0, .ref f_bestOne, .ref f_basis, .int 0, .ref f_one, .int 0, .ref f_along, .ref f_now]))]) [0] (by decide) rfl
        have hK9 := hK.sub (tys' := []) [] rfl
        exact W.iret (v := (-1)) hx hb hr (fun t ht hW => ⟨⟨(-1), (), rfl, rfl, by rw [ht]; exact hP9, va_K.moved hW.alike hK9, hD9⟩, hS.F ht⟩) hS.2.2 d_MO_type_99
      · refine lv_lload hx hb d_MO_type_71 (lv_at hl 0 rfl) ?_
        refine lv_ldc2 (v := 126) hx hb hown (hts _ k_1006) d_MO_type_73 ?_
        refine W.lcmp hx hb d_MO_type_76 ?_
        refine lv_if_gt (tgt := 84) hx hb d_MO_type_77 (by decide) (fun hc4 => ?_) (fun hc4 => ?_)
        · refine lv_iconst (v := 0) hx hb d_MO_type_84 (by decide) ?_
          refine lv_istore hx hb d_MO_type_85 hl (by decide) rfl (fun ls hl => ?_)
          have hl : lv_has ls 8 [(4, .int 0), (6, .long (bm x 1)), (5, .int 1), (0, .ref m0), (1, .long x), (3, .int 7)] := hl
          refine lv_iinc (k := 2) (v := 2) hx hb d_MO_type_87 hl rfl (by decide) (by decide) rfl (fun ls hl => ?_)
          have hl : lv_has ls 8 [(5, .int 2), (4, .int 0), (6, .long (bm x 1)), (0, .ref m0), (1, .long x), (3, .int 7)] := hl
          refine lv_goto (tgt := 38) hx hb d_MO_type_90 (by decide) ?_
          refine lv_iload hx hb d_MO_type_38 (lv_at hl 1 rfl) ?_
          refine lv_if_eq (tgt := 93) hx hb d_MO_type_40 (by decide) (fun _ => ?_) (fun h9 => absurd (by decide) h9)
          refine lv_iload hx hb d_MO_type_93 (lv_at hl 1 rfl) ?_
          refine lv_if_ne (tgt := 100) hx hb d_MO_type_95 (by decide) (fun h9 => absurd (by decide) h9) (fun _ => ?_)
          refine lv_iconst (v := (-1)) hx hb d_MO_type_98 (by decide) ?_
          have hP9 := hP.sub (ws' := [(m0, .inr (9, [.int 0, .ref f_text, .int 0, .int (-1), .ref f_kinds, .ref f_places, .ref f_values, .int 0, .ref f_draftLetters, .int 0, .int 0, .int 0, .ref f_draftNumbers, .ref f_draftSigns, .int 0, .int 0, .int 0, .int 0, .ref f_letters, .ref f_numbers, .ref f_isList, .ref f_bounds, .ref f_sizes, .ref f_lists, .ref f_told, .ref f_costs, .int 0, .ref f_times, .int 0, .ref f_bestOne, .ref f_basis, .int 0, .ref f_one, .int 0, .ref f_along, .ref f_now]))]) [0] rfl
          have hD9 := hD.sub (ws' := [(m0, .inr (9, [.int 0, .ref f_text, .int 0, .int (-1), .ref f_kinds, .ref f_places, .ref f_values, .int 0, .ref f_draftLetters, .int 0, .int 0, .int 0, .ref f_draftNumbers, .ref f_draftSigns, .int 0, .int 0, .int 0, .int 0, .ref f_letters, .ref f_numbers, .ref f_isList, .ref f_bounds, .ref f_sizes, .ref f_lists, .ref f_told, .ref f_costs, .int 0, .ref f_times, .int 0, .ref f_bestOne, .ref f_basis, .int 0, .ref f_one, .int 0, .ref f_along, .ref f_now]))]) [0] (by decide) rfl
          have hK9 := hK.sub (tys' := []) [] rfl
          exact W.iret (v := (-1)) hx hb hr (fun t ht hW => ⟨⟨(-1), (), rfl, rfl, by rw [ht]; exact hP9, va_K.moved hW.alike hK9, hD9⟩, hS.F ht⟩) hS.2.2 d_MO_type_99
        · refine lv_iconst (v := 1) hx hb d_MO_type_80 (by decide) ?_
          refine lv_goto (tgt := 85) hx hb d_MO_type_81 (by decide) ?_
          refine lv_istore hx hb d_MO_type_85 hl (by decide) rfl (fun ls hl => ?_)
          have hl : lv_has ls 8 [(4, .int 1), (6, .long (bm x 1)), (5, .int 1), (0, .ref m0), (1, .long x), (3, .int 7)] := hl
          refine lv_iinc (k := 2) (v := 2) hx hb d_MO_type_87 hl rfl (by decide) (by decide) rfl (fun ls hl => ?_)
          have hl : lv_has ls 8 [(5, .int 2), (4, .int 1), (6, .long (bm x 1)), (0, .ref m0), (1, .long x), (3, .int 7)] := hl
          refine lv_goto (tgt := 38) hx hb d_MO_type_90 (by decide) ?_
          refine lv_iload hx hb d_MO_type_38 (lv_at hl 1 rfl) ?_
          refine lv_if_eq (tgt := 93) hx hb d_MO_type_40 (by decide) (fun h9 => absurd h9 (by decide)) (fun _ => ?_)
          refine lv_iload hx hb d_MO_type_43 (lv_at hl 0 rfl) ?_
          refine lv_iload_n hx hb d_MO_type_45 rfl (lv_at hl 5 rfl) ?_
          refine lv_icmp_ge (tgt := 93) hx hb d_MO_type_46 (by decide) (fun h9 => absurd h9 (by decide)) (fun _ => ?_)
          refine lv_lload_n hx hb d_MO_type_49 rfl (lv_at hl 4 rfl) ?_
          refine lv_bipush (v := 8) hx hb d_MO_type_50 (by decide) ?_
          refine lv_iload hx hb d_MO_type_52 (lv_at hl 0 rfl) ?_
          refine lv_imul hx hb d_MO_type_54 ?_
          refine lv_lshr (v := (x >>> (((8 * 2) : Int32).toInt64 &&& 63))) hx hb d_MO_type_55 rfl ?_
          refine lv_ldc2 (v := 255) hx hb hown (hts _ k_1004) d_MO_type_56 ?_
          refine lv_land hx hb d_MO_type_59 ?_
          refine W.eq (g2 := F0 m 60 ls [.long (bm x 2)]) rfl ?_
          refine lv_lstore hx hb d_MO_type_60 hl (by decide) rfl (fun ls hl => ?_)
          have hl : lv_has ls 8 [(6, .long (bm x 2)), (5, .int 2), (4, .int 1), (0, .ref m0), (1, .long x), (3, .int 7)] := hl
          refine lv_lload hx hb d_MO_type_62 (lv_at hl 0 rfl) ?_
          refine lv_ldc2 (v := 32) hx hb hown (hts _ k_1005) d_MO_type_64 ?_
          refine W.lcmp hx hb d_MO_type_67 ?_
          refine lv_if_lt (tgt := 84) hx hb d_MO_type_68 (by decide) (fun hc5 => ?_) (fun hc5 => ?_)
          · refine lv_iconst (v := 0) hx hb d_MO_type_84 (by decide) ?_
            refine lv_istore hx hb d_MO_type_85 hl (by decide) rfl (fun ls hl => ?_)
            have hl : lv_has ls 8 [(4, .int 0), (6, .long (bm x 2)), (5, .int 2), (0, .ref m0), (1, .long x), (3, .int 7)] := hl
            refine lv_iinc (k := 2) (v := 3) hx hb d_MO_type_87 hl rfl (by decide) (by decide) rfl (fun ls hl => ?_)
            have hl : lv_has ls 8 [(5, .int 3), (4, .int 0), (6, .long (bm x 2)), (0, .ref m0), (1, .long x), (3, .int 7)] := hl
            refine lv_goto (tgt := 38) hx hb d_MO_type_90 (by decide) ?_
            refine lv_iload hx hb d_MO_type_38 (lv_at hl 1 rfl) ?_
            refine lv_if_eq (tgt := 93) hx hb d_MO_type_40 (by decide) (fun _ => ?_) (fun h9 => absurd (by decide) h9)
            refine lv_iload hx hb d_MO_type_93 (lv_at hl 1 rfl) ?_
            refine lv_if_ne (tgt := 100) hx hb d_MO_type_95 (by decide) (fun h9 => absurd (by decide) h9) (fun _ => ?_)
            refine lv_iconst (v := (-1)) hx hb d_MO_type_98 (by decide) ?_
            have hP9 := hP.sub (ws' := [(m0, .inr (9, [.int 0, .ref f_text, .int 0, .int (-1), .ref f_kinds, .ref f_places, .ref f_values, .int 0, .ref f_draftLetters, .int 0, .int 0, .int 0, .ref f_draftNumbers, .ref f_draftSigns, .int 0, .int 0, .int 0, .int 0, .ref f_letters, .ref f_numbers, .ref f_isList, .ref f_bounds, .ref f_sizes, .ref f_lists, .ref f_told, .ref f_costs, .int 0, .ref f_times, .int 0, .ref f_bestOne, .ref f_basis, .int 0, .ref f_one, .int 0, .ref f_along, .ref f_now]))]) [0] rfl
            have hD9 := hD.sub (ws' := [(m0, .inr (9, [.int 0, .ref f_text, .int 0, .int (-1), .ref f_kinds, .ref f_places, .ref f_values, .int 0, .ref f_draftLetters, .int 0, .int 0, .int 0, .ref f_draftNumbers, .ref f_draftSigns, .int 0, .int 0, .int 0, .int 0, .ref f_letters, .ref f_numbers, .ref f_isList, .ref f_bounds, .ref f_sizes, .ref f_lists, .ref f_told, .ref f_costs, .int 0, .ref f_times, .int 0, .ref f_bestOne, .ref f_basis, .int 0, .ref f_one, .int 0, .ref f_along, .ref f_now]))]) [0] (by decide) rfl
            have hK9 := hK.sub (tys' := []) [] rfl
            exact W.iret (v := (-1)) hx hb hr (fun t ht hW => ⟨⟨(-1), (), rfl, rfl, by rw [ht]; exact hP9, va_K.moved hW.alike hK9, hD9⟩, hS.F ht⟩) hS.2.2 d_MO_type_99
          · refine lv_lload hx hb d_MO_type_71 (lv_at hl 0 rfl) ?_
            refine lv_ldc2 (v := 126) hx hb hown (hts _ k_1006) d_MO_type_73 ?_
            refine W.lcmp hx hb d_MO_type_76 ?_
            refine lv_if_gt (tgt := 84) hx hb d_MO_type_77 (by decide) (fun hc6 => ?_) (fun hc6 => ?_)
            · refine lv_iconst (v := 0) hx hb d_MO_type_84 (by decide) ?_
              refine lv_istore hx hb d_MO_type_85 hl (by decide) rfl (fun ls hl => ?_)
              have hl : lv_has ls 8 [(4, .int 0), (6, .long (bm x 2)), (5, .int 2), (0, .ref m0), (1, .long x), (3, .int 7)] := hl
              refine lv_iinc (k := 2) (v := 3) hx hb d_MO_type_87 hl rfl (by decide) (by decide) rfl (fun ls hl => ?_)
              have hl : lv_has ls 8 [(5, .int 3), (4, .int 0), (6, .long (bm x 2)), (0, .ref m0), (1, .long x), (3, .int 7)] := hl
              refine lv_goto (tgt := 38) hx hb d_MO_type_90 (by decide) ?_
              refine lv_iload hx hb d_MO_type_38 (lv_at hl 1 rfl) ?_
              refine lv_if_eq (tgt := 93) hx hb d_MO_type_40 (by decide) (fun _ => ?_) (fun h9 => absurd (by decide) h9)
              refine lv_iload hx hb d_MO_type_93 (lv_at hl 1 rfl) ?_
              refine lv_if_ne (tgt := 100) hx hb d_MO_type_95 (by decide) (fun h9 => absurd (by decide) h9) (fun _ => ?_)
              refine lv_iconst (v := (-1)) hx hb d_MO_type_98 (by decide) ?_
              have hP9 := hP.sub (ws' := [(m0, .inr (9, [.int 0, .ref f_text, .int 0, .int (-1), .ref f_kinds, .ref f_places, .ref f_values, .int 0, .ref f_draftLetters, .int 0, .int 0, .int 0, .ref f_draftNumbers, .ref f_draftSigns, .int 0, .int 0, .int 0, .int 0, .ref f_letters, .ref f_numbers, .ref f_isList, .ref f_bounds, .ref f_sizes, .ref f_lists, .ref f_told, .ref f_costs, .int 0, .ref f_times, .int 0, .ref f_bestOne, .ref f_basis, .int 0, .ref f_one, .int 0, .ref f_along, .ref f_now]))]) [0] rfl
              have hD9 := hD.sub (ws' := [(m0, .inr (9, [.int 0, .ref f_text, .int 0, .int (-1), .ref f_kinds, .ref f_places, .ref f_values, .int 0, .ref f_draftLetters, .int 0, .int 0, .int 0, .ref f_draftNumbers, .ref f_draftSigns, .int 0, .int 0, .int 0, .int 0, .ref f_letters, .ref f_numbers, .ref f_isList, .ref f_bounds, .ref f_sizes, .ref f_lists, .ref f_told, .ref f_costs, .int 0, .ref f_times, .int 0, .ref f_bestOne, .ref f_basis, .int 0, .ref f_one, .int 0, .ref f_along, .ref f_now]))]) [0] (by decide) rfl
              have hK9 := hK.sub (tys' := []) [] rfl
              exact W.iret (v := (-1)) hx hb hr (fun t ht hW => ⟨⟨(-1), (), rfl, rfl, by rw [ht]; exact hP9, va_K.moved hW.alike hK9, hD9⟩, hS.F ht⟩) hS.2.2 d_MO_type_99
            · refine lv_iconst (v := 1) hx hb d_MO_type_80 (by decide) ?_
              refine lv_goto (tgt := 85) hx hb d_MO_type_81 (by decide) ?_
              refine lv_istore hx hb d_MO_type_85 hl (by decide) rfl (fun ls hl => ?_)
              have hl : lv_has ls 8 [(4, .int 1), (6, .long (bm x 2)), (5, .int 2), (0, .ref m0), (1, .long x), (3, .int 7)] := hl
              refine lv_iinc (k := 2) (v := 3) hx hb d_MO_type_87 hl rfl (by decide) (by decide) rfl (fun ls hl => ?_)
              have hl : lv_has ls 8 [(5, .int 3), (4, .int 1), (6, .long (bm x 2)), (0, .ref m0), (1, .long x), (3, .int 7)] := hl
              refine lv_goto (tgt := 38) hx hb d_MO_type_90 (by decide) ?_
              refine lv_iload hx hb d_MO_type_38 (lv_at hl 1 rfl) ?_
              refine lv_if_eq (tgt := 93) hx hb d_MO_type_40 (by decide) (fun h9 => absurd h9 (by decide)) (fun _ => ?_)
              refine lv_iload hx hb d_MO_type_43 (lv_at hl 0 rfl) ?_
              refine lv_iload_n hx hb d_MO_type_45 rfl (lv_at hl 5 rfl) ?_
              refine lv_icmp_ge (tgt := 93) hx hb d_MO_type_46 (by decide) (fun h9 => absurd h9 (by decide)) (fun _ => ?_)
              refine lv_lload_n hx hb d_MO_type_49 rfl (lv_at hl 4 rfl) ?_
              refine lv_bipush (v := 8) hx hb d_MO_type_50 (by decide) ?_
              refine lv_iload hx hb d_MO_type_52 (lv_at hl 0 rfl) ?_
              refine lv_imul hx hb d_MO_type_54 ?_
              refine lv_lshr (v := (x >>> (((8 * 3) : Int32).toInt64 &&& 63))) hx hb d_MO_type_55 rfl ?_
              refine lv_ldc2 (v := 255) hx hb hown (hts _ k_1004) d_MO_type_56 ?_
              refine lv_land hx hb d_MO_type_59 ?_
              refine W.eq (g2 := F0 m 60 ls [.long (bm x 3)]) rfl ?_
              refine lv_lstore hx hb d_MO_type_60 hl (by decide) rfl (fun ls hl => ?_)
              have hl : lv_has ls 8 [(6, .long (bm x 3)), (5, .int 3), (4, .int 1), (0, .ref m0), (1, .long x), (3, .int 7)] := hl
              refine lv_lload hx hb d_MO_type_62 (lv_at hl 0 rfl) ?_
              refine lv_ldc2 (v := 32) hx hb hown (hts _ k_1005) d_MO_type_64 ?_
              refine W.lcmp hx hb d_MO_type_67 ?_
              refine lv_if_lt (tgt := 84) hx hb d_MO_type_68 (by decide) (fun hc7 => ?_) (fun hc7 => ?_)
              · refine lv_iconst (v := 0) hx hb d_MO_type_84 (by decide) ?_
                refine lv_istore hx hb d_MO_type_85 hl (by decide) rfl (fun ls hl => ?_)
                have hl : lv_has ls 8 [(4, .int 0), (6, .long (bm x 3)), (5, .int 3), (0, .ref m0), (1, .long x), (3, .int 7)] := hl
                refine lv_iinc (k := 2) (v := 4) hx hb d_MO_type_87 hl rfl (by decide) (by decide) rfl (fun ls hl => ?_)
                have hl : lv_has ls 8 [(5, .int 4), (4, .int 0), (6, .long (bm x 3)), (0, .ref m0), (1, .long x), (3, .int 7)] := hl
                refine lv_goto (tgt := 38) hx hb d_MO_type_90 (by decide) ?_
                refine lv_iload hx hb d_MO_type_38 (lv_at hl 1 rfl) ?_
                refine lv_if_eq (tgt := 93) hx hb d_MO_type_40 (by decide) (fun _ => ?_) (fun h9 => absurd (by decide) h9)
                refine lv_iload hx hb d_MO_type_93 (lv_at hl 1 rfl) ?_
                refine lv_if_ne (tgt := 100) hx hb d_MO_type_95 (by decide) (fun h9 => absurd (by decide) h9) (fun _ => ?_)
                refine lv_iconst (v := (-1)) hx hb d_MO_type_98 (by decide) ?_
                have hP9 := hP.sub (ws' := [(m0, .inr (9, [.int 0, .ref f_text, .int 0, .int (-1), .ref f_kinds, .ref f_places, .ref f_values, .int 0, .ref f_draftLetters, .int 0, .int 0, .int 0, .ref f_draftNumbers, .ref f_draftSigns, .int 0, .int 0, .int 0, .int 0, .ref f_letters, .ref f_numbers, .ref f_isList, .ref f_bounds, .ref f_sizes, .ref f_lists, .ref f_told, .ref f_costs, .int 0, .ref f_times, .int 0, .ref f_bestOne, .ref f_basis, .int 0, .ref f_one, .int 0, .ref f_along, .ref f_now]))]) [0] rfl
                have hD9 := hD.sub (ws' := [(m0, .inr (9, [.int 0, .ref f_text, .int 0, .int (-1), .ref f_kinds, .ref f_places, .ref f_values, .int 0, .ref f_draftLetters, .int 0, .int 0, .int 0, .ref f_draftNumbers, .ref f_draftSigns, .int 0, .int 0, .int 0, .int 0, .ref f_letters, .ref f_numbers, .ref f_isList, .ref f_bounds, .ref f_sizes, .ref f_lists, .ref f_told, .ref f_costs, .int 0, .ref f_times, .int 0, .ref f_bestOne, .ref f_basis, .int 0, .ref f_one, .int 0, .ref f_along, .ref f_now]))]) [0] (by decide) rfl
                have hK9 := hK.sub (tys' := []) [] rfl
                exact W.iret (v := (-1)) hx hb hr (fun t ht hW => ⟨⟨(-1), (), rfl, rfl, by rw [ht]; exact hP9, va_K.moved hW.alike hK9, hD9⟩, hS.F ht⟩) hS.2.2 d_MO_type_99
              · refine lv_lload hx hb d_MO_type_71 (lv_at hl 0 rfl) ?_
                refine lv_ldc2 (v := 126) hx hb hown (hts _ k_1006) d_MO_type_73 ?_
                refine W.lcmp hx hb d_MO_type_76 ?_
                refine lv_if_gt (tgt := 84) hx hb d_MO_type_77 (by decide) (fun hc8 => ?_) (fun hc8 => ?_)
                · refine lv_iconst (v := 0) hx hb d_MO_type_84 (by decide) ?_
                  refine lv_istore hx hb d_MO_type_85 hl (by decide) rfl (fun ls hl => ?_)
                  have hl : lv_has ls 8 [(4, .int 0), (6, .long (bm x 3)), (5, .int 3), (0, .ref m0), (1, .long x), (3, .int 7)] := hl
                  refine lv_iinc (k := 2) (v := 4) hx hb d_MO_type_87 hl rfl (by decide) (by decide) rfl (fun ls hl => ?_)
                  have hl : lv_has ls 8 [(5, .int 4), (4, .int 0), (6, .long (bm x 3)), (0, .ref m0), (1, .long x), (3, .int 7)] := hl
                  refine lv_goto (tgt := 38) hx hb d_MO_type_90 (by decide) ?_
                  refine lv_iload hx hb d_MO_type_38 (lv_at hl 1 rfl) ?_
                  refine lv_if_eq (tgt := 93) hx hb d_MO_type_40 (by decide) (fun _ => ?_) (fun h9 => absurd (by decide) h9)
                  refine lv_iload hx hb d_MO_type_93 (lv_at hl 1 rfl) ?_
                  refine lv_if_ne (tgt := 100) hx hb d_MO_type_95 (by decide) (fun h9 => absurd (by decide) h9) (fun _ => ?_)
                  refine lv_iconst (v := (-1)) hx hb d_MO_type_98 (by decide) ?_
                  have hP9 := hP.sub (ws' := [(m0, .inr (9, [.int 0, .ref f_text, .int 0, .int (-1), .ref f_kinds, .ref f_places, .ref f_values, .int 0, .ref f_draftLetters, .int 0, .int 0, .int 0, .ref f_draftNumbers, .ref f_draftSigns, .int 0, .int 0, .int 0, .int 0, .ref f_letters, .ref f_numbers, .ref f_isList, .ref f_bounds, .ref f_sizes, .ref f_lists, .ref f_told, .ref f_costs, .int 0, .ref f_times, .int 0, .ref f_bestOne, .ref f_basis, .int 0, .ref f_one, .int 0, .ref f_along, .ref f_now]))]) [0] rfl
                  have hD9 := hD.sub (ws' := [(m0, .inr (9, [.int 0, .ref f_text, .int 0, .int (-1), .ref f_kinds, .ref f_places, .ref f_values, .int 0, .ref f_draftLetters, .int 0, .int 0, .int 0, .ref f_draftNumbers, .ref f_draftSigns, .int 0, .int 0, .int 0, .int 0, .ref f_letters, .ref f_numbers, .ref f_isList, .ref f_bounds, .ref f_sizes, .ref f_lists, .ref f_told, .ref f_costs, .int 0, .ref f_times, .int 0, .ref f_bestOne, .ref f_basis, .int 0, .ref f_one, .int 0, .ref f_along, .ref f_now]))]) [0] (by decide) rfl
                  have hK9 := hK.sub (tys' := []) [] rfl
                  exact W.iret (v := (-1)) hx hb hr (fun t ht hW => ⟨⟨(-1), (), rfl, rfl, by rw [ht]; exact hP9, va_K.moved hW.alike hK9, hD9⟩, hS.F ht⟩) hS.2.2 d_MO_type_99
                · refine lv_iconst (v := 1) hx hb d_MO_type_80 (by decide) ?_
                  refine lv_goto (tgt := 85) hx hb d_MO_type_81 (by decide) ?_
                  refine lv_istore hx hb d_MO_type_85 hl (by decide) rfl (fun ls hl => ?_)
                  have hl : lv_has ls 8 [(4, .int 1), (6, .long (bm x 3)), (5, .int 3), (0, .ref m0), (1, .long x), (3, .int 7)] := hl
                  refine lv_iinc (k := 2) (v := 4) hx hb d_MO_type_87 hl rfl (by decide) (by decide) rfl (fun ls hl => ?_)
                  have hl : lv_has ls 8 [(5, .int 4), (4, .int 1), (6, .long (bm x 3)), (0, .ref m0), (1, .long x), (3, .int 7)] := hl
                  refine lv_goto (tgt := 38) hx hb d_MO_type_90 (by decide) ?_
                  refine lv_iload hx hb d_MO_type_38 (lv_at hl 1 rfl) ?_
                  refine lv_if_eq (tgt := 93) hx hb d_MO_type_40 (by decide) (fun h9 => absurd h9 (by decide)) (fun _ => ?_)
                  refine lv_iload hx hb d_MO_type_43 (lv_at hl 0 rfl) ?_
                  refine lv_iload_n hx hb d_MO_type_45 rfl (lv_at hl 5 rfl) ?_
                  refine lv_icmp_ge (tgt := 93) hx hb d_MO_type_46 (by decide) (fun h9 => absurd h9 (by decide)) (fun _ => ?_)
                  refine lv_lload_n hx hb d_MO_type_49 rfl (lv_at hl 4 rfl) ?_
                  refine lv_bipush (v := 8) hx hb d_MO_type_50 (by decide) ?_
                  refine lv_iload hx hb d_MO_type_52 (lv_at hl 0 rfl) ?_
                  refine lv_imul hx hb d_MO_type_54 ?_
                  refine lv_lshr (v := (x >>> (((8 * 4) : Int32).toInt64 &&& 63))) hx hb d_MO_type_55 rfl ?_
                  refine lv_ldc2 (v := 255) hx hb hown (hts _ k_1004) d_MO_type_56 ?_
                  refine lv_land hx hb d_MO_type_59 ?_
                  refine W.eq (g2 := F0 m 60 ls [.long (bm x 4)]) rfl ?_
                  refine lv_lstore hx hb d_MO_type_60 hl (by decide) rfl (fun ls hl => ?_)
                  have hl : lv_has ls 8 [(6, .long (bm x 4)), (5, .int 4), (4, .int 1), (0, .ref m0), (1, .long x), (3, .int 7)] := hl
                  refine lv_lload hx hb d_MO_type_62 (lv_at hl 0 rfl) ?_
                  refine lv_ldc2 (v := 32) hx hb hown (hts _ k_1005) d_MO_type_64 ?_
                  refine W.lcmp hx hb d_MO_type_67 ?_
                  refine lv_if_lt (tgt := 84) hx hb d_MO_type_68 (by decide) (fun hc9 => ?_) (fun hc9 => ?_)
                  · refine lv_iconst (v := 0) hx hb d_MO_type_84 (by decide) ?_
                    refine lv_istore hx hb d_MO_type_85 hl (by decide) rfl (fun ls hl => ?_)
                    have hl : lv_has ls 8 [(4, .int 0), (6, .long (bm x 4)), (5, .int 4), (0, .ref m0), (1, .long x), (3, .int 7)] := hl
                    refine lv_iinc (k := 2) (v := 5) hx hb d_MO_type_87 hl rfl (by decide) (by decide) rfl (fun ls hl => ?_)
                    have hl : lv_has ls 8 [(5, .int 5), (4, .int 0), (6, .long (bm x 4)), (0, .ref m0), (1, .long x), (3, .int 7)] := hl
                    refine lv_goto (tgt := 38) hx hb d_MO_type_90 (by decide) ?_
                    refine lv_iload hx hb d_MO_type_38 (lv_at hl 1 rfl) ?_
                    refine lv_if_eq (tgt := 93) hx hb d_MO_type_40 (by decide) (fun _ => ?_) (fun h9 => absurd (by decide) h9)
                    refine lv_iload hx hb d_MO_type_93 (lv_at hl 1 rfl) ?_
                    refine lv_if_ne (tgt := 100) hx hb d_MO_type_95 (by decide) (fun h9 => absurd (by decide) h9) (fun _ => ?_)
                    refine lv_iconst (v := (-1)) hx hb d_MO_type_98 (by decide) ?_
                    have hP9 := hP.sub (ws' := [(m0, .inr (9, [.int 0, .ref f_text, .int 0, .int (-1), .ref f_kinds, .ref f_places, .ref f_values, .int 0, .ref f_draftLetters, .int 0, .int 0, .int 0, .ref f_draftNumbers, .ref f_draftSigns, .int 0, .int 0, .int 0, .int 0, .ref f_letters, .ref f_numbers, .ref f_isList, .ref f_bounds, .ref f_sizes, .ref f_lists, .ref f_told, .ref f_costs, .int 0, .ref f_times, .int 0, .ref f_bestOne, .ref f_basis, .int 0, .ref f_one, .int 0, .ref f_along, .ref f_now]))]) [0] rfl
                    have hD9 := hD.sub (ws' := [(m0, .inr (9, [.int 0, .ref f_text, .int 0, .int (-1), .ref f_kinds, .ref f_places, .ref f_values, .int 0, .ref f_draftLetters, .int 0, .int 0, .int 0, .ref f_draftNumbers, .ref f_draftSigns, .int 0, .int 0, .int 0, .int 0, .ref f_letters, .ref f_numbers, .ref f_isList, .ref f_bounds, .ref f_sizes, .ref f_lists, .ref f_told, .ref f_costs, .int 0, .ref f_times, .int 0, .ref f_bestOne, .ref f_basis, .int 0, .ref f_one, .int 0, .ref f_along, .ref f_now]))]) [0] (by decide) rfl
                    have hK9 := hK.sub (tys' := []) [] rfl
                    exact W.iret (v := (-1)) hx hb hr (fun t ht hW => ⟨⟨(-1), (), rfl, rfl, by rw [ht]; exact hP9, va_K.moved hW.alike hK9, hD9⟩, hS.F ht⟩) hS.2.2 d_MO_type_99
                  · refine lv_lload hx hb d_MO_type_71 (lv_at hl 0 rfl) ?_
                    refine lv_ldc2 (v := 126) hx hb hown (hts _ k_1006) d_MO_type_73 ?_
                    refine W.lcmp hx hb d_MO_type_76 ?_
                    refine lv_if_gt (tgt := 84) hx hb d_MO_type_77 (by decide) (fun hc10 => ?_) (fun hc10 => ?_)
                    · refine lv_iconst (v := 0) hx hb d_MO_type_84 (by decide) ?_
                      refine lv_istore hx hb d_MO_type_85 hl (by decide) rfl (fun ls hl => ?_)
                      have hl : lv_has ls 8 [(4, .int 0), (6, .long (bm x 4)), (5, .int 4), (0, .ref m0), (1, .long x), (3, .int 7)] := hl
                      refine lv_iinc (k := 2) (v := 5) hx hb d_MO_type_87 hl rfl (by decide) (by decide) rfl (fun ls hl => ?_)
                      have hl : lv_has ls 8 [(5, .int 5), (4, .int 0), (6, .long (bm x 4)), (0, .ref m0), (1, .long x), (3, .int 7)] := hl
                      refine lv_goto (tgt := 38) hx hb d_MO_type_90 (by decide) ?_
                      refine lv_iload hx hb d_MO_type_38 (lv_at hl 1 rfl) ?_
                      refine lv_if_eq (tgt := 93) hx hb d_MO_type_40 (by decide) (fun _ => ?_) (fun h9 => absurd (by decide) h9)
                      refine lv_iload hx hb d_MO_type_93 (lv_at hl 1 rfl) ?_
                      refine lv_if_ne (tgt := 100) hx hb d_MO_type_95 (by decide) (fun h9 => absurd (by decide) h9) (fun _ => ?_)
                      refine lv_iconst (v := (-1)) hx hb d_MO_type_98 (by decide) ?_
                      have hP9 := hP.sub (ws' := [(m0, .inr (9, [.int 0, .ref f_text, .int 0, .int (-1), .ref f_kinds, .ref f_places, .ref f_values, .int 0, .ref f_draftLetters, .int 0, .int 0, .int 0, .ref f_draftNumbers, .ref f_draftSigns, .int 0, .int 0, .int 0, .int 0, .ref f_letters, .ref f_numbers, .ref f_isList, .ref f_bounds, .ref f_sizes, .ref f_lists, .ref f_told, .ref f_costs, .int 0, .ref f_times, .int 0, .ref f_bestOne, .ref f_basis, .int 0, .ref f_one, .int 0, .ref f_along, .ref f_now]))]) [0] rfl
                      have hD9 := hD.sub (ws' := [(m0, .inr (9, [.int 0, .ref f_text, .int 0, .int (-1), .ref f_kinds, .ref f_places, .ref f_values, .int 0, .ref f_draftLetters, .int 0, .int 0, .int 0, .ref f_draftNumbers, .ref f_draftSigns, .int 0, .int 0, .int 0, .int 0, .ref f_letters, .ref f_numbers, .ref f_isList, .ref f_bounds, .ref f_sizes, .ref f_lists, .ref f_told, .ref f_costs, .int 0, .ref f_times, .int 0, .ref f_bestOne, .ref f_basis, .int 0, .ref f_one, .int 0, .ref f_along, .ref f_now]))]) [0] (by decide) rfl
                      have hK9 := hK.sub (tys' := []) [] rfl
                      exact W.iret (v := (-1)) hx hb hr (fun t ht hW => ⟨⟨(-1), (), rfl, rfl, by rw [ht]; exact hP9, va_K.moved hW.alike hK9, hD9⟩, hS.F ht⟩) hS.2.2 d_MO_type_99
                    · refine lv_iconst (v := 1) hx hb d_MO_type_80 (by decide) ?_
                      refine lv_goto (tgt := 85) hx hb d_MO_type_81 (by decide) ?_
                      refine lv_istore hx hb d_MO_type_85 hl (by decide) rfl (fun ls hl => ?_)
                      have hl : lv_has ls 8 [(4, .int 1), (6, .long (bm x 4)), (5, .int 4), (0, .ref m0), (1, .long x), (3, .int 7)] := hl
                      refine lv_iinc (k := 2) (v := 5) hx hb d_MO_type_87 hl rfl (by decide) (by decide) rfl (fun ls hl => ?_)
                      have hl : lv_has ls 8 [(5, .int 5), (4, .int 1), (6, .long (bm x 4)), (0, .ref m0), (1, .long x), (3, .int 7)] := hl
                      refine lv_goto (tgt := 38) hx hb d_MO_type_90 (by decide) ?_
                      refine lv_iload hx hb d_MO_type_38 (lv_at hl 1 rfl) ?_
                      refine lv_if_eq (tgt := 93) hx hb d_MO_type_40 (by decide) (fun h9 => absurd h9 (by decide)) (fun _ => ?_)
                      refine lv_iload hx hb d_MO_type_43 (lv_at hl 0 rfl) ?_
                      refine lv_iload_n hx hb d_MO_type_45 rfl (lv_at hl 5 rfl) ?_
                      refine lv_icmp_ge (tgt := 93) hx hb d_MO_type_46 (by decide) (fun h9 => absurd h9 (by decide)) (fun _ => ?_)
                      refine lv_lload_n hx hb d_MO_type_49 rfl (lv_at hl 4 rfl) ?_
                      refine lv_bipush (v := 8) hx hb d_MO_type_50 (by decide) ?_
                      refine lv_iload hx hb d_MO_type_52 (lv_at hl 0 rfl) ?_
                      refine lv_imul hx hb d_MO_type_54 ?_
                      refine lv_lshr (v := (x >>> (((8 * 5) : Int32).toInt64 &&& 63))) hx hb d_MO_type_55 rfl ?_
                      refine lv_ldc2 (v := 255) hx hb hown (hts _ k_1004) d_MO_type_56 ?_
                      refine lv_land hx hb d_MO_type_59 ?_
                      refine W.eq (g2 := F0 m 60 ls [.long (bm x 5)]) rfl ?_
                      refine lv_lstore hx hb d_MO_type_60 hl (by decide) rfl (fun ls hl => ?_)
                      have hl : lv_has ls 8 [(6, .long (bm x 5)), (5, .int 5), (4, .int 1), (0, .ref m0), (1, .long x), (3, .int 7)] := hl
                      refine lv_lload hx hb d_MO_type_62 (lv_at hl 0 rfl) ?_
                      refine lv_ldc2 (v := 32) hx hb hown (hts _ k_1005) d_MO_type_64 ?_
                      refine W.lcmp hx hb d_MO_type_67 ?_
                      refine lv_if_lt (tgt := 84) hx hb d_MO_type_68 (by decide) (fun hc11 => ?_) (fun hc11 => ?_)
                      · refine lv_iconst (v := 0) hx hb d_MO_type_84 (by decide) ?_
                        refine lv_istore hx hb d_MO_type_85 hl (by decide) rfl (fun ls hl => ?_)
                        have hl : lv_has ls 8 [(4, .int 0), (6, .long (bm x 5)), (5, .int 5), (0, .ref m0), (1, .long x), (3, .int 7)] := hl
                        refine lv_iinc (k := 2) (v := 6) hx hb d_MO_type_87 hl rfl (by decide) (by decide) rfl (fun ls hl => ?_)
                        have hl : lv_has ls 8 [(5, .int 6), (4, .int 0), (6, .long (bm x 5)), (0, .ref m0), (1, .long x), (3, .int 7)] := hl
                        refine lv_goto (tgt := 38) hx hb d_MO_type_90 (by decide) ?_
                        refine lv_iload hx hb d_MO_type_38 (lv_at hl 1 rfl) ?_
                        refine lv_if_eq (tgt := 93) hx hb d_MO_type_40 (by decide) (fun _ => ?_) (fun h9 => absurd (by decide) h9)
                        refine lv_iload hx hb d_MO_type_93 (lv_at hl 1 rfl) ?_
                        refine lv_if_ne (tgt := 100) hx hb d_MO_type_95 (by decide) (fun h9 => absurd (by decide) h9) (fun _ => ?_)
                        refine lv_iconst (v := (-1)) hx hb d_MO_type_98 (by decide) ?_
                        have hP9 := hP.sub (ws' := [(m0, .inr (9, [.int 0, .ref f_text, .int 0, .int (-1), .ref f_kinds, .ref f_places, .ref f_values, .int 0, .ref f_draftLetters, .int 0, .int 0, .int 0, .ref f_draftNumbers, .ref f_draftSigns, .int 0, .int 0, .int 0, .int 0, .ref f_letters, .ref f_numbers, .ref f_isList, .ref f_bounds, .ref f_sizes, .ref f_lists, .ref f_told, .ref f_costs, .int 0, .ref f_times, .int 0, .ref f_bestOne, .ref f_basis, .int 0, .ref f_one, .int 0, .ref f_along, .ref f_now]))]) [0] rfl
                        have hD9 := hD.sub (ws' := [(m0, .inr (9, [.int 0, .ref f_text, .int 0, .int (-1), .ref f_kinds, .ref f_places, .ref f_values, .int 0, .ref f_draftLetters, .int 0, .int 0, .int 0, .ref f_draftNumbers, .ref f_draftSigns, .int 0, .int 0, .int 0, .int 0, .ref f_letters, .ref f_numbers, .ref f_isList, .ref f_bounds, .ref f_sizes, .ref f_lists, .ref f_told, .ref f_costs, .int 0, .ref f_times, .int 0, .ref f_bestOne, .ref f_basis, .int 0, .ref f_one, .int 0, .ref f_along, .ref f_now]))]) [0] (by decide) rfl
                        have hK9 := hK.sub (tys' := []) [] rfl
                        exact W.iret (v := (-1)) hx hb hr (fun t ht hW => ⟨⟨(-1), (), rfl, rfl, by rw [ht]; exact hP9, va_K.moved hW.alike hK9, hD9⟩, hS.F ht⟩) hS.2.2 d_MO_type_99
                      · refine lv_lload hx hb d_MO_type_71 (lv_at hl 0 rfl) ?_
                        refine lv_ldc2 (v := 126) hx hb hown (hts _ k_1006) d_MO_type_73 ?_
                        refine W.lcmp hx hb d_MO_type_76 ?_
                        refine lv_if_gt (tgt := 84) hx hb d_MO_type_77 (by decide) (fun hc12 => ?_) (fun hc12 => ?_)
                        · refine lv_iconst (v := 0) hx hb d_MO_type_84 (by decide) ?_
                          refine lv_istore hx hb d_MO_type_85 hl (by decide) rfl (fun ls hl => ?_)
                          have hl : lv_has ls 8 [(4, .int 0), (6, .long (bm x 5)), (5, .int 5), (0, .ref m0), (1, .long x), (3, .int 7)] := hl
                          refine lv_iinc (k := 2) (v := 6) hx hb d_MO_type_87 hl rfl (by decide) (by decide) rfl (fun ls hl => ?_)
                          have hl : lv_has ls 8 [(5, .int 6), (4, .int 0), (6, .long (bm x 5)), (0, .ref m0), (1, .long x), (3, .int 7)] := hl
                          refine lv_goto (tgt := 38) hx hb d_MO_type_90 (by decide) ?_
                          refine lv_iload hx hb d_MO_type_38 (lv_at hl 1 rfl) ?_
                          refine lv_if_eq (tgt := 93) hx hb d_MO_type_40 (by decide) (fun _ => ?_) (fun h9 => absurd (by decide) h9)
                          refine lv_iload hx hb d_MO_type_93 (lv_at hl 1 rfl) ?_
                          refine lv_if_ne (tgt := 100) hx hb d_MO_type_95 (by decide) (fun h9 => absurd (by decide) h9) (fun _ => ?_)
                          refine lv_iconst (v := (-1)) hx hb d_MO_type_98 (by decide) ?_
                          have hP9 := hP.sub (ws' := [(m0, .inr (9, [.int 0, .ref f_text, .int 0, .int (-1), .ref f_kinds, .ref f_places, .ref f_values, .int 0, .ref f_draftLetters, .int 0, .int 0, .int 0, .ref f_draftNumbers, .ref f_draftSigns, .int 0, .int 0, .int 0, .int 0, .ref f_letters, .ref f_numbers, .ref f_isList, .ref f_bounds, .ref f_sizes, .ref f_lists, .ref f_told, .ref f_costs, .int 0, .ref f_times, .int 0, .ref f_bestOne, .ref f_basis, .int 0, .ref f_one, .int 0, .ref f_along, .ref f_now]))]) [0] rfl
                          have hD9 := hD.sub (ws' := [(m0, .inr (9, [.int 0, .ref f_text, .int 0, .int (-1), .ref f_kinds, .ref f_places, .ref f_values, .int 0, .ref f_draftLetters, .int 0, .int 0, .int 0, .ref f_draftNumbers, .ref f_draftSigns, .int 0, .int 0, .int 0, .int 0, .ref f_letters, .ref f_numbers, .ref f_isList, .ref f_bounds, .ref f_sizes, .ref f_lists, .ref f_told, .ref f_costs, .int 0, .ref f_times, .int 0, .ref f_bestOne, .ref f_basis, .int 0, .ref f_one, .int 0, .ref f_along, .ref f_now]))]) [0] (by decide) rfl
                          have hK9 := hK.sub (tys' := []) [] rfl
                          exact W.iret (v := (-1)) hx hb hr (fun t ht hW => ⟨⟨(-1), (), rfl, rfl, by rw [ht]; exact hP9, va_K.moved hW.alike hK9, hD9⟩, hS.F ht⟩) hS.2.2 d_MO_type_99
                        · refine lv_iconst (v := 1) hx hb d_MO_type_80 (by decide) ?_
                          refine lv_goto (tgt := 85) hx hb d_MO_type_81 (by decide) ?_
                          refine lv_istore hx hb d_MO_type_85 hl (by decide) rfl (fun ls hl => ?_)
                          have hl : lv_has ls 8 [(4, .int 1), (6, .long (bm x 5)), (5, .int 5), (0, .ref m0), (1, .long x), (3, .int 7)] := hl
                          refine lv_iinc (k := 2) (v := 6) hx hb d_MO_type_87 hl rfl (by decide) (by decide) rfl (fun ls hl => ?_)
                          have hl : lv_has ls 8 [(5, .int 6), (4, .int 1), (6, .long (bm x 5)), (0, .ref m0), (1, .long x), (3, .int 7)] := hl
                          refine lv_goto (tgt := 38) hx hb d_MO_type_90 (by decide) ?_
                          refine lv_iload hx hb d_MO_type_38 (lv_at hl 1 rfl) ?_
                          refine lv_if_eq (tgt := 93) hx hb d_MO_type_40 (by decide) (fun h9 => absurd h9 (by decide)) (fun _ => ?_)
                          refine lv_iload hx hb d_MO_type_43 (lv_at hl 0 rfl) ?_
                          refine lv_iload_n hx hb d_MO_type_45 rfl (lv_at hl 5 rfl) ?_
                          refine lv_icmp_ge (tgt := 93) hx hb d_MO_type_46 (by decide) (fun h9 => absurd h9 (by decide)) (fun _ => ?_)
                          refine lv_lload_n hx hb d_MO_type_49 rfl (lv_at hl 4 rfl) ?_
                          refine lv_bipush (v := 8) hx hb d_MO_type_50 (by decide) ?_
                          refine lv_iload hx hb d_MO_type_52 (lv_at hl 0 rfl) ?_
                          refine lv_imul hx hb d_MO_type_54 ?_
                          refine lv_lshr (v := (x >>> (((8 * 6) : Int32).toInt64 &&& 63))) hx hb d_MO_type_55 rfl ?_
                          refine lv_ldc2 (v := 255) hx hb hown (hts _ k_1004) d_MO_type_56 ?_
                          refine lv_land hx hb d_MO_type_59 ?_
                          refine W.eq (g2 := F0 m 60 ls [.long (bm x 6)]) rfl ?_
                          refine lv_lstore hx hb d_MO_type_60 hl (by decide) rfl (fun ls hl => ?_)
                          have hl : lv_has ls 8 [(6, .long (bm x 6)), (5, .int 6), (4, .int 1), (0, .ref m0), (1, .long x), (3, .int 7)] := hl
                          refine lv_lload hx hb d_MO_type_62 (lv_at hl 0 rfl) ?_
                          refine lv_ldc2 (v := 32) hx hb hown (hts _ k_1005) d_MO_type_64 ?_
                          refine W.lcmp hx hb d_MO_type_67 ?_
                          refine lv_if_lt (tgt := 84) hx hb d_MO_type_68 (by decide) (fun hc13 => ?_) (fun hc13 => ?_)
                          · refine lv_iconst (v := 0) hx hb d_MO_type_84 (by decide) ?_
                            refine lv_istore hx hb d_MO_type_85 hl (by decide) rfl (fun ls hl => ?_)
                            have hl : lv_has ls 8 [(4, .int 0), (6, .long (bm x 6)), (5, .int 6), (0, .ref m0), (1, .long x), (3, .int 7)] := hl
                            refine lv_iinc (k := 2) (v := 7) hx hb d_MO_type_87 hl rfl (by decide) (by decide) rfl (fun ls hl => ?_)
                            have hl : lv_has ls 8 [(5, .int 7), (4, .int 0), (6, .long (bm x 6)), (0, .ref m0), (1, .long x), (3, .int 7)] := hl
                            refine lv_goto (tgt := 38) hx hb d_MO_type_90 (by decide) ?_
                            refine lv_iload hx hb d_MO_type_38 (lv_at hl 1 rfl) ?_
                            refine lv_if_eq (tgt := 93) hx hb d_MO_type_40 (by decide) (fun _ => ?_) (fun h9 => absurd (by decide) h9)
                            refine lv_iload hx hb d_MO_type_93 (lv_at hl 1 rfl) ?_
                            refine lv_if_ne (tgt := 100) hx hb d_MO_type_95 (by decide) (fun h9 => absurd (by decide) h9) (fun _ => ?_)
                            refine lv_iconst (v := (-1)) hx hb d_MO_type_98 (by decide) ?_
                            have hP9 := hP.sub (ws' := [(m0, .inr (9, [.int 0, .ref f_text, .int 0, .int (-1), .ref f_kinds, .ref f_places, .ref f_values, .int 0, .ref f_draftLetters, .int 0, .int 0, .int 0, .ref f_draftNumbers, .ref f_draftSigns, .int 0, .int 0, .int 0, .int 0, .ref f_letters, .ref f_numbers, .ref f_isList, .ref f_bounds, .ref f_sizes, .ref f_lists, .ref f_told, .ref f_costs, .int 0, .ref f_times, .int 0, .ref f_bestOne, .ref f_basis, .int 0, .ref f_one, .int 0, .ref f_along, .ref f_now]))]) [0] rfl
                            have hD9 := hD.sub (ws' := [(m0, .inr (9, [.int 0, .ref f_text, .int 0, .int (-1), .ref f_kinds, .ref f_places, .ref f_values, .int 0, .ref f_draftLetters, .int 0, .int 0, .int 0, .ref f_draftNumbers, .ref f_draftSigns, .int 0, .int 0, .int 0, .int 0, .ref f_letters, .ref f_numbers, .ref f_isList, .ref f_bounds, .ref f_sizes, .ref f_lists, .ref f_told, .ref f_costs, .int 0, .ref f_times, .int 0, .ref f_bestOne, .ref f_basis, .int 0, .ref f_one, .int 0, .ref f_along, .ref f_now]))]) [0] (by decide) rfl
                            have hK9 := hK.sub (tys' := []) [] rfl
                            exact W.iret (v := (-1)) hx hb hr (fun t ht hW => ⟨⟨(-1), (), rfl, rfl, by rw [ht]; exact hP9, va_K.moved hW.alike hK9, hD9⟩, hS.F ht⟩) hS.2.2 d_MO_type_99
                          · refine lv_lload hx hb d_MO_type_71 (lv_at hl 0 rfl) ?_
                            refine lv_ldc2 (v := 126) hx hb hown (hts _ k_1006) d_MO_type_73 ?_
                            refine W.lcmp hx hb d_MO_type_76 ?_
                            refine lv_if_gt (tgt := 84) hx hb d_MO_type_77 (by decide) (fun hc14 => ?_) (fun hc14 => ?_)
                            · refine lv_iconst (v := 0) hx hb d_MO_type_84 (by decide) ?_
                              refine lv_istore hx hb d_MO_type_85 hl (by decide) rfl (fun ls hl => ?_)
                              have hl : lv_has ls 8 [(4, .int 0), (6, .long (bm x 6)), (5, .int 6), (0, .ref m0), (1, .long x), (3, .int 7)] := hl
                              refine lv_iinc (k := 2) (v := 7) hx hb d_MO_type_87 hl rfl (by decide) (by decide) rfl (fun ls hl => ?_)
                              have hl : lv_has ls 8 [(5, .int 7), (4, .int 0), (6, .long (bm x 6)), (0, .ref m0), (1, .long x), (3, .int 7)] := hl
                              refine lv_goto (tgt := 38) hx hb d_MO_type_90 (by decide) ?_
                              refine lv_iload hx hb d_MO_type_38 (lv_at hl 1 rfl) ?_
                              refine lv_if_eq (tgt := 93) hx hb d_MO_type_40 (by decide) (fun _ => ?_) (fun h9 => absurd (by decide) h9)
                              refine lv_iload hx hb d_MO_type_93 (lv_at hl 1 rfl) ?_
                              refine lv_if_ne (tgt := 100) hx hb d_MO_type_95 (by decide) (fun h9 => absurd (by decide) h9) (fun _ => ?_)
                              refine lv_iconst (v := (-1)) hx hb d_MO_type_98 (by decide) ?_
                              have hP9 := hP.sub (ws' := [(m0, .inr (9, [.int 0, .ref f_text, .int 0, .int (-1), .ref f_kinds, .ref f_places, .ref f_values, .int 0, .ref f_draftLetters, .int 0, .int 0, .int 0, .ref f_draftNumbers, .ref f_draftSigns, .int 0, .int 0, .int 0, .int 0, .ref f_letters, .ref f_numbers, .ref f_isList, .ref f_bounds, .ref f_sizes, .ref f_lists, .ref f_told, .ref f_costs, .int 0, .ref f_times, .int 0, .ref f_bestOne, .ref f_basis, .int 0, .ref f_one, .int 0, .ref f_along, .ref f_now]))]) [0] rfl
                              have hD9 := hD.sub (ws' := [(m0, .inr (9, [.int 0, .ref f_text, .int 0, .int (-1), .ref f_kinds, .ref f_places, .ref f_values, .int 0, .ref f_draftLetters, .int 0, .int 0, .int 0, .ref f_draftNumbers, .ref f_draftSigns, .int 0, .int 0, .int 0, .int 0, .ref f_letters, .ref f_numbers, .ref f_isList, .ref f_bounds, .ref f_sizes, .ref f_lists, .ref f_told, .ref f_costs, .int 0, .ref f_times, .int 0, .ref f_bestOne, .ref f_basis, .int 0, .ref f_one, .int 0, .ref f_along, .ref f_now]))]) [0] (by decide) rfl
                              have hK9 := hK.sub (tys' := []) [] rfl
                              exact W.iret (v := (-1)) hx hb hr (fun t ht hW => ⟨⟨(-1), (), rfl, rfl, by rw [ht]; exact hP9, va_K.moved hW.alike hK9, hD9⟩, hS.F ht⟩) hS.2.2 d_MO_type_99
                            · refine lv_iconst (v := 1) hx hb d_MO_type_80 (by decide) ?_
                              refine lv_goto (tgt := 85) hx hb d_MO_type_81 (by decide) ?_
                              refine lv_istore hx hb d_MO_type_85 hl (by decide) rfl (fun ls hl => ?_)
                              have hl : lv_has ls 8 [(4, .int 1), (6, .long (bm x 6)), (5, .int 6), (0, .ref m0), (1, .long x), (3, .int 7)] := hl
                              refine lv_iinc (k := 2) (v := 7) hx hb d_MO_type_87 hl rfl (by decide) (by decide) rfl (fun ls hl => ?_)
                              have hl : lv_has ls 8 [(5, .int 7), (4, .int 1), (6, .long (bm x 6)), (0, .ref m0), (1, .long x), (3, .int 7)] := hl
                              refine lv_goto (tgt := 38) hx hb d_MO_type_90 (by decide) ?_
                              refine lv_iload hx hb d_MO_type_38 (lv_at hl 1 rfl) ?_
                              refine lv_if_eq (tgt := 93) hx hb d_MO_type_40 (by decide) (fun h9 => absurd h9 (by decide)) (fun _ => ?_)
                              refine lv_iload hx hb d_MO_type_43 (lv_at hl 0 rfl) ?_
                              refine lv_iload_n hx hb d_MO_type_45 rfl (lv_at hl 5 rfl) ?_
                              refine lv_icmp_ge (tgt := 93) hx hb d_MO_type_46 (by decide) (fun _ => ?_) (fun h9 => absurd (by decide) h9)
                              refine lv_iload hx hb d_MO_type_93 (lv_at hl 1 rfl) ?_
                              refine lv_if_ne (tgt := 100) hx hb d_MO_type_95 (by decide) (fun _ => ?_) (fun h9 => absurd h9 (by decide))
                              exact absurd ⟨okm (d := 0) (by decide +kernel) (by decide) hc1 hc2, okm (d := 8) (by decide +kernel) (by decide) hc3 hc4, okm (d := 16) (by decide +kernel) (by decide) hc5 hc6, okm (d := 24) (by decide +kernel) (by decide) hc7 hc8, okm (d := 32) (by decide +kernel) (by decide) hc9 hc10, okm (d := 40) (by decide +kernel) (by decide) hc11 hc12, okm (d := 48) (by decide +kernel) (by decide) hc13 hc14⟩ g

set_option maxHeartbeats 4000000 in
set_option maxRecDepth 100000 in
theorem c_MO_type_8y (l : Launch) (dC : Nat → ClassId) (dI : Nat → Nat → Nat) (m0 : Nat) (f_text : Nat) (f_kinds : Nat) (f_places : Nat) (f_values : Nat) (f_draftLetters : Nat) (f_draftNumbers : Nat) (f_draftSigns : Nat) (f_letters : Nat) (f_numbers : Nat) (f_isList : Nat) (f_bounds : Nat) (f_sizes : Nat) (f_lists : Nat) (f_told : Nat) (f_costs : Nat) (f_times : Nat) (f_bestOne : Nat) (f_basis : Nat) (f_one : Nat) (f_along : Nat) (f_now : Nat) (th : Int32) (cX : ClassId) (x : Int64) (sz : Nat) (g : ok x 0 ∧ ok x 8 ∧ ok x 16 ∧ ok x 24 ∧ ok x 32 ∧ ok x 40 ∧ ok x 48 ∧ ok x 56) : Met l y_MO_type (Cond.code y_MO_type b_MO_type 8 (Option.some Jvm.ClassFile.FieldType.int) :: wd) { frames := 0, cells := 0, slots := 0, locals := 0 } (va_Pc [.ref m0, .long x, .int 8] (fun U => U.heap.size = sz ∧ va_P (dC, dI) cls [(m0, .inr (9, [.int th, .ref f_text, .int 0, .int (-1), .ref f_kinds, .ref f_places, .ref f_values, .int 0, .ref f_draftLetters, .int 0, .int 0, .int 0, .ref f_draftNumbers, .ref f_draftSigns, .int 0, .int 0, .int 0, .int 0, .ref f_letters, .ref f_numbers, .ref f_isList, .ref f_bounds, .ref f_sizes, .ref f_lists, .ref f_told, .ref f_costs, .int 0, .ref f_times, .int 0, .ref f_bestOne, .ref f_basis, .int 0, .ref f_one, .int 0, .ref f_along, .ref f_now])), (f_text, .inl (cX, 300, .inl (fun _ => (0 : Int32))))] U.heap ∧ va_K (dC, dI) cls [(cX, .int)] U ∧ va_D (fun _ => True) [(m0, .inr (9, [.int th, .ref f_text, .int 0, .int (-1), .ref f_kinds, .ref f_places, .ref f_values, .int 0, .ref f_draftLetters, .int 0, .int 0, .int 0, .ref f_draftNumbers, .ref f_draftSigns, .int 0, .int 0, .int 0, .int 0, .ref f_letters, .ref f_numbers, .ref f_isList, .ref f_bounds, .ref f_sizes, .ref f_lists, .ref f_told, .ref f_costs, .int 0, .ref f_times, .int 0, .ref f_bestOne, .ref f_basis, .int 0, .ref f_one, .int 0, .ref f_along, .ref f_now])), (f_text, .inl (cX, 300, .inl (fun _ => (0 : Int32))))] ∧ nw_ok U)) (va_Qi (fun r (_ : Unit) => r = 8) (fun (_ : Unit) t => va_P (dC, dI) cls [(m0, .inr (9, [.int 0, .ref f_text, .int 8, .int (-1), .ref f_kinds, .ref f_places, .ref f_values, .int 0, .ref f_draftLetters, .int 0, .int 0, .int 0, .ref f_draftNumbers, .ref f_draftSigns, .int 0, .int 0, .int 0, .int 0, .ref f_letters, .ref f_numbers, .ref f_isList, .ref f_bounds, .ref f_sizes, .ref f_lists, .ref f_told, .ref f_costs, .int 0, .ref f_times, .int 0, .ref f_bestOne, .ref f_basis, .int 0, .ref f_one, .int 0, .ref f_along, .ref f_now]))] t.heap ∧ va_K (dC, dI) cls [(cX, .int)] t ∧ va_D (va_A [(m0, .inr (9, [.int th, .ref f_text, .int 0, .int (-1), .ref f_kinds, .ref f_places, .ref f_values, .int 0, .ref f_draftLetters, .int 0, .int 0, .int 0, .ref f_draftNumbers, .ref f_draftSigns, .int 0, .int 0, .int 0, .int 0, .ref f_letters, .ref f_numbers, .ref f_isList, .ref f_bounds, .ref f_sizes, .ref f_lists, .ref f_told, .ref f_costs, .int 0, .ref f_times, .int 0, .ref f_bestOne, .ref f_basis, .int 0, .ref f_one, .int 0, .ref f_along, .ref f_now])), (f_text, .inl (cX, 300, .inl (fun _ => (0 : Int32))))] sz) [(m0, .inr (9, [.int 0, .ref f_text, .int 8, .int (-1), .ref f_kinds, .ref f_places, .ref f_values, .int 0, .ref f_draftLetters, .int 0, .int 0, .int 0, .ref f_draftNumbers, .ref f_draftSigns, .int 0, .int 0, .int 0, .int 0, .ref f_letters, .ref f_numbers, .ref f_isList, .ref f_bounds, .ref f_sizes, .ref f_lists, .ref f_told, .ref f_costs, .int 0, .ref f_times, .int 0, .ref f_bestOne, .ref f_basis, .int 0, .ref f_one, .int 0, .ref f_along, .ref f_now]))]) (va_A [(m0, .inr (9, [.int th, .ref f_text, .int 0, .int (-1), .ref f_kinds, .ref f_places, .ref f_values, .int 0, .ref f_draftLetters, .int 0, .int 0, .int 0, .ref f_draftNumbers, .ref f_draftSigns, .int 0, .int 0, .int 0, .int 0, .ref f_letters, .ref f_numbers, .ref f_isList, .ref f_bounds, .ref f_sizes, .ref f_lists, .ref f_told, .ref f_costs, .int 0, .ref f_times, .int 0, .ref f_bestOne, .ref f_basis, .int 0, .ref f_one, .int 0, .ref f_along, .ref f_now])), (f_text, .inl (cX, 300, .inl (fun _ => (0 : Int32))))] sz)) 0 0 (va_A [(m0, .inr (9, [.int th, .ref f_text, .int 0, .int (-1), .ref f_kinds, .ref f_places, .ref f_values, .int 0, .ref f_draftLetters, .int 0, .int 0, .int 0, .ref f_draftNumbers, .ref f_draftSigns, .int 0, .int 0, .int 0, .int 0, .ref f_letters, .ref f_numbers, .ref f_isList, .ref f_bounds, .ref f_sizes, .ref f_lists, .ref f_told, .ref f_costs, .int 0, .ref f_times, .int 0, .ref f_bestOne, .ref f_basis, .int 0, .ref f_one, .int 0, .ref f_along, .ref f_now])), (f_text, .inl (cX, 300, .inl (fun _ => (0 : Int32))))] sz) := by
  refine Met.ofW (cc := b_MO_type) (maxL := 8) (ret := (Option.some Jvm.ClassFile.FieldType.int)) (by decide) rfl ?_
  intro p e s m args below meth c s₁ B hml hv
  obtain ⟨rfl, hsz, hP, hK, hD0, hN⟩ := hv
  have hx := B.exec
  have hb := B.bytes
  have hr := B.returns
  have hlocks := B.notSynchronized
  have hts : ∀ w ∈ wd, w.before ([.ref m0, .long x, .int 8] : List Value).toArray s = true := fun w hw => atoms_spec (ws := (Cond.code y_MO_type b_MO_type 8 (Option.some Jvm.ClassFile.FieldType.int) :: wd)) B.pre w (List.mem_cons_of_mem _ hw)
  have hown : s.vm.findClass "LeastSolutionsModel" = some m.cls := findClass_of_methodNamed B.named
  subst hsz
  have hD := hD0.self (sz := s.heap.size)
  generalize hAe : va_A [(m0, .inr (9, [.int th, .ref f_text, .int 0, .int (-1), .ref f_kinds, .ref f_places, .ref f_values, .int 0, .ref f_draftLetters, .int 0, .int 0, .int 0, .ref f_draftNumbers, .ref f_draftSigns, .int 0, .int 0, .int 0, .int 0, .ref f_letters, .ref f_numbers, .ref f_isList, .ref f_bounds, .ref f_sizes, .ref f_lists, .ref f_told, .ref f_costs, .int 0, .ref f_times, .int 0, .ref f_bestOne, .ref f_basis, .int 0, .ref f_one, .int 0, .ref f_along, .ref f_now])), (f_text, .inl (cX, 300, .inl (fun _ => (0 : Int32))))] s.heap.size = A at hD ⊢
  have hA : ∀ q : Nat, s.heap.size ≤ q → A q := fun q h => by rw [← hAe]; exact Or.inr h
  have hS : va_S A s.heap s.heap [] := va_S.rf
  have hl := lv_entry ([.ref m0, .long x, .int 8]) (n := 8) (Nat.le_of_ble_eq_true rfl)
  rw [lg_entry_eq]
  generalize (lg_sl ([.ref m0, .long x, .int 8]) ++ List.replicate (8 - (lg_sl ([.ref m0, .long x, .int 8])).length) Slot.unset).toArray = ls at hl ⊢
  have hl : lv_has ls 8 [(0, .ref m0), (1, .long x), (3, .int 8)] := hl
  refine lv_aload_n hx hb d_MO_type_0 rfl (lv_at hl 0 rfl) ?_
  refine lv_iconst (v := 0) hx hb d_MO_type_1 (by decide) ?_
  refine va_put (D := (dC, dI)) (ci := 9) (v := .int 0) (ty := .int) (C := R_MO) (T := T_MO) (N := 36) hx hb hts in_MO t_MO t_MO_ok n_MO hown hK hP hD hS 0 rfl rfl 0 (by decide) (hts _ k_886) (fun _ h9 => h9) rfl (by decide +kernel) rfl rfl (Nat.le_of_ble_eq_true rfl) d_MO_type_2 (fun H1 locs hP hD hS => ?_)
  have hP : va_P (dC, dI) cls [(m0, .inr (9, [.int 0, .ref f_text, .int 0, .int (-1), .ref f_kinds, .ref f_places, .ref f_values, .int 0, .ref f_draftLetters, .int 0, .int 0, .int 0, .ref f_draftNumbers, .ref f_draftSigns, .int 0, .int 0, .int 0, .int 0, .ref f_letters, .ref f_numbers, .ref f_isList, .ref f_bounds, .ref f_sizes, .ref f_lists, .ref f_told, .ref f_costs, .int 0, .ref f_times, .int 0, .ref f_bestOne, .ref f_basis, .int 0, .ref f_one, .int 0, .ref f_along, .ref f_now])), (f_text, .inl (cX, 300, .inl (fun _ => (0 : Int32))))] H1 := hP
  have hD : va_D A [(m0, .inr (9, [.int 0, .ref f_text, .int 0, .int (-1), .ref f_kinds, .ref f_places, .ref f_values, .int 0, .ref f_draftLetters, .int 0, .int 0, .int 0, .ref f_draftNumbers, .ref f_draftSigns, .int 0, .int 0, .int 0, .int 0, .ref f_letters, .ref f_numbers, .ref f_isList, .ref f_bounds, .ref f_sizes, .ref f_lists, .ref f_told, .ref f_costs, .int 0, .ref f_times, .int 0, .ref f_bestOne, .ref f_basis, .int 0, .ref f_one, .int 0, .ref f_along, .ref f_now])), (f_text, .inl (cX, 300, .inl (fun _ => (0 : Int32))))] := hD
  refine lv_iload_n hx hb d_MO_type_5 rfl (lv_at hl 2 rfl) ?_
  refine lv_iconst (v := 1) hx hb d_MO_type_6 (by decide) ?_
  refine lv_icmp_lt (tgt := 32) hx hb d_MO_type_7 (by decide) (fun h9 => absurd h9 (by decide)) (fun _ => ?_)
  refine lv_iload_n hx hb d_MO_type_10 rfl (lv_at hl 2 rfl) ?_
  refine lv_bipush (v := 8) hx hb d_MO_type_11 (by decide) ?_
  refine lv_icmp_gt (tgt := 32) hx hb d_MO_type_13 (by decide) (fun h9 => absurd h9 (by decide)) (fun _ => ?_)
  refine lv_aload_n hx hb d_MO_type_16 rfl (lv_at hl 0 rfl) ?_
  refine va_get (D := (dC, dI)) (ci := 9) (v := .int 0) (C := R_MO) (T := T_MO) (N := 36) hx hb hts in_MO hown hK hP 0 rfl rfl 2 (by decide) (hts _ k_888) (fun _ h9 => h9) rfl d_MO_type_17 ?_
  refine lv_iload_n hx hb d_MO_type_20 rfl (lv_at hl 2 rfl) ?_
  refine lv_iadd hx hb d_MO_type_21 ?_
  refine W.eq (g2 := F0 m 22 ls [.int 8]) rfl ?_
  refine lv_sipush (v := 300) hx hb d_MO_type_22 (by decide) ?_
  refine lv_icmp_gt (tgt := 32) hx hb d_MO_type_25 (by decide) (fun h9 => absurd h9 (by decide)) (fun _ => ?_)
  refine lv_iconst (v := 1) hx hb d_MO_type_28 (by decide) ?_
  refine lv_goto (tgt := 33) hx hb d_MO_type_29 (by decide) ?_
  refine lv_istore hx hb d_MO_type_33 hl (by decide) rfl (fun ls hl => ?_)
  have hl : lv_has ls 8 [(4, .int 1), (0, .ref m0), (1, .long x), (3, .int 8)] := hl
  refine lv_iconst (v := 0) hx hb d_MO_type_35 (by decide) ?_
  refine lv_istore hx hb d_MO_type_36 hl (by decide) rfl (fun ls hl => ?_)
  have hl : lv_has ls 8 [(5, .int 0), (4, .int 1), (0, .ref m0), (1, .long x), (3, .int 8)] := hl
  refine lv_iload hx hb d_MO_type_38 (lv_at hl 1 rfl) ?_
  refine lv_if_eq (tgt := 93) hx hb d_MO_type_40 (by decide) (fun h9 => absurd h9 (by decide)) (fun _ => ?_)
  refine lv_iload hx hb d_MO_type_43 (lv_at hl 0 rfl) ?_
  refine lv_iload_n hx hb d_MO_type_45 rfl (lv_at hl 4 rfl) ?_
  refine lv_icmp_ge (tgt := 93) hx hb d_MO_type_46 (by decide) (fun h9 => absurd h9 (by decide)) (fun _ => ?_)
  refine lv_lload_n hx hb d_MO_type_49 rfl (lv_at hl 3 rfl) ?_
  refine lv_bipush (v := 8) hx hb d_MO_type_50 (by decide) ?_
  refine lv_iload hx hb d_MO_type_52 (lv_at hl 0 rfl) ?_
  refine lv_imul hx hb d_MO_type_54 ?_
  refine lv_lshr (v := (x >>> (((8 * 0) : Int32).toInt64 &&& 63))) hx hb d_MO_type_55 rfl ?_
  refine lv_ldc2 (v := 255) hx hb hown (hts _ k_1004) d_MO_type_56 ?_
  refine lv_land hx hb d_MO_type_59 ?_
  refine W.eq (g2 := F0 m 60 ls [.long (bm x 0)]) rfl ?_
  refine lv_lstore hx hb d_MO_type_60 hl (by decide) rfl (fun ls hl => ?_)
  have hl : lv_has ls 8 [(6, .long (bm x 0)), (5, .int 0), (4, .int 1), (0, .ref m0), (1, .long x), (3, .int 8)] := hl
  refine lv_lload hx hb d_MO_type_62 (lv_at hl 0 rfl) ?_
  refine lv_ldc2 (v := 32) hx hb hown (hts _ k_1005) d_MO_type_64 ?_
  refine W.lcmp hx hb d_MO_type_67 ?_
  refine lv_if_lt (tgt := 84) hx hb d_MO_type_68 (by decide) (fun h9 => absurd h9 (okm1 (d := 0) (by decide +kernel) (by decide) (g.1))) (fun _ => ?_)
  refine lv_lload hx hb d_MO_type_71 (lv_at hl 0 rfl) ?_
  refine lv_ldc2 (v := 126) hx hb hown (hts _ k_1006) d_MO_type_73 ?_
  refine W.lcmp hx hb d_MO_type_76 ?_
  refine lv_if_gt (tgt := 84) hx hb d_MO_type_77 (by decide) (fun h9 => absurd h9 (okm2 (d := 0) (by decide +kernel) (by decide) (g.1))) (fun _ => ?_)
  refine lv_iconst (v := 1) hx hb d_MO_type_80 (by decide) ?_
  refine lv_goto (tgt := 85) hx hb d_MO_type_81 (by decide) ?_
  refine lv_istore hx hb d_MO_type_85 hl (by decide) rfl (fun ls hl => ?_)
  have hl : lv_has ls 8 [(4, .int 1), (6, .long (bm x 0)), (5, .int 0), (0, .ref m0), (1, .long x), (3, .int 8)] := hl
  refine lv_iinc (k := 2) (v := 1) hx hb d_MO_type_87 hl rfl (by decide) (by decide) rfl (fun ls hl => ?_)
  have hl : lv_has ls 8 [(5, .int 1), (4, .int 1), (6, .long (bm x 0)), (0, .ref m0), (1, .long x), (3, .int 8)] := hl
  refine lv_goto (tgt := 38) hx hb d_MO_type_90 (by decide) ?_
  refine lv_iload hx hb d_MO_type_38 (lv_at hl 1 rfl) ?_
  refine lv_if_eq (tgt := 93) hx hb d_MO_type_40 (by decide) (fun h9 => absurd h9 (by decide)) (fun _ => ?_)
  refine lv_iload hx hb d_MO_type_43 (lv_at hl 0 rfl) ?_
  refine lv_iload_n hx hb d_MO_type_45 rfl (lv_at hl 5 rfl) ?_
  refine lv_icmp_ge (tgt := 93) hx hb d_MO_type_46 (by decide) (fun h9 => absurd h9 (by decide)) (fun _ => ?_)
  refine lv_lload_n hx hb d_MO_type_49 rfl (lv_at hl 4 rfl) ?_
  refine lv_bipush (v := 8) hx hb d_MO_type_50 (by decide) ?_
  refine lv_iload hx hb d_MO_type_52 (lv_at hl 0 rfl) ?_
  refine lv_imul hx hb d_MO_type_54 ?_
  refine lv_lshr (v := (x >>> (((8 * 1) : Int32).toInt64 &&& 63))) hx hb d_MO_type_55 rfl ?_
  refine lv_ldc2 (v := 255) hx hb hown (hts _ k_1004) d_MO_type_56 ?_
  refine lv_land hx hb d_MO_type_59 ?_
  refine W.eq (g2 := F0 m 60 ls [.long (bm x 1)]) rfl ?_
  refine lv_lstore hx hb d_MO_type_60 hl (by decide) rfl (fun ls hl => ?_)
  have hl : lv_has ls 8 [(6, .long (bm x 1)), (5, .int 1), (4, .int 1), (0, .ref m0), (1, .long x), (3, .int 8)] := hl
  refine lv_lload hx hb d_MO_type_62 (lv_at hl 0 rfl) ?_
  refine lv_ldc2 (v := 32) hx hb hown (hts _ k_1005) d_MO_type_64 ?_
  refine W.lcmp hx hb d_MO_type_67 ?_
  refine lv_if_lt (tgt := 84) hx hb d_MO_type_68 (by decide) (fun h9 => absurd h9 (okm1 (d := 8) (by decide +kernel) (by decide) (g.2.1))) (fun _ => ?_)
  refine lv_lload hx hb d_MO_type_71 (lv_at hl 0 rfl) ?_
  refine lv_ldc2 (v := 126) hx hb hown (hts _ k_1006) d_MO_type_73 ?_
  refine W.lcmp hx hb d_MO_type_76 ?_
  refine lv_if_gt (tgt := 84) hx hb d_MO_type_77 (by decide) (fun h9 => absurd h9 (okm2 (d := 8) (by decide +kernel) (by decide) (g.2.1))) (fun _ => ?_)
  refine lv_iconst (v := 1) hx hb d_MO_type_80 (by decide) ?_
  refine lv_goto (tgt := 85) hx hb d_MO_type_81 (by decide) ?_
  refine lv_istore hx hb d_MO_type_85 hl (by decide) rfl (fun ls hl => ?_)
  have hl : lv_has ls 8 [(4, .int 1), (6, .long (bm x 1)), (5, .int 1), (0, .ref m0), (1, .long x), (3, .int 8)] := hl
  refine lv_iinc (k := 2) (v := 2) hx hb d_MO_type_87 hl rfl (by decide) (by decide) rfl (fun ls hl => ?_)
  have hl : lv_has ls 8 [(5, .int 2), (4, .int 1), (6, .long (bm x 1)), (0, .ref m0), (1, .long x), (3, .int 8)] := hl
  refine lv_goto (tgt := 38) hx hb d_MO_type_90 (by decide) ?_
  refine lv_iload hx hb d_MO_type_38 (lv_at hl 1 rfl) ?_
  refine lv_if_eq (tgt := 93) hx hb d_MO_type_40 (by decide) (fun h9 => absurd h9 (by decide)) (fun _ => ?_)
  refine lv_iload hx hb d_MO_type_43 (lv_at hl 0 rfl) ?_
  refine lv_iload_n hx hb d_MO_type_45 rfl (lv_at hl 5 rfl) ?_
  refine lv_icmp_ge (tgt := 93) hx hb d_MO_type_46 (by decide) (fun h9 => absurd h9 (by decide)) (fun _ => ?_)
  refine lv_lload_n hx hb d_MO_type_49 rfl (lv_at hl 4 rfl) ?_
  refine lv_bipush (v := 8) hx hb d_MO_type_50 (by decide) ?_
  refine lv_iload hx hb d_MO_type_52 (lv_at hl 0 rfl) ?_
  refine lv_imul hx hb d_MO_type_54 ?_
  refine lv_lshr (v := (x >>> (((8 * 2) : Int32).toInt64 &&& 63))) hx hb d_MO_type_55 rfl ?_
  refine lv_ldc2 (v := 255) hx hb hown (hts _ k_1004) d_MO_type_56 ?_
  refine lv_land hx hb d_MO_type_59 ?_
  refine W.eq (g2 := F0 m 60 ls [.long (bm x 2)]) rfl ?_
  refine lv_lstore hx hb d_MO_type_60 hl (by decide) rfl (fun ls hl => ?_)
  have hl : lv_has ls 8 [(6, .long (bm x 2)), (5, .int 2), (4, .int 1), (0, .ref m0), (1, .long x), (3, .int 8)] := hl
  refine lv_lload hx hb d_MO_type_62 (lv_at hl 0 rfl) ?_
  refine lv_ldc2 (v := 32) hx hb hown (hts _ k_1005) d_MO_type_64 ?_
  refine W.lcmp hx hb d_MO_type_67 ?_
  refine lv_if_lt (tgt := 84) hx hb d_MO_type_68 (by decide) (fun h9 => absurd h9 (okm1 (d := 16) (by decide +kernel) (by decide) (g.2.2.1))) (fun _ => ?_)
  refine lv_lload hx hb d_MO_type_71 (lv_at hl 0 rfl) ?_
  refine lv_ldc2 (v := 126) hx hb hown (hts _ k_1006) d_MO_type_73 ?_
  refine W.lcmp hx hb d_MO_type_76 ?_
  refine lv_if_gt (tgt := 84) hx hb d_MO_type_77 (by decide) (fun h9 => absurd h9 (okm2 (d := 16) (by decide +kernel) (by decide) (g.2.2.1))) (fun _ => ?_)
  refine lv_iconst (v := 1) hx hb d_MO_type_80 (by decide) ?_
  refine lv_goto (tgt := 85) hx hb d_MO_type_81 (by decide) ?_
  refine lv_istore hx hb d_MO_type_85 hl (by decide) rfl (fun ls hl => ?_)
  have hl : lv_has ls 8 [(4, .int 1), (6, .long (bm x 2)), (5, .int 2), (0, .ref m0), (1, .long x), (3, .int 8)] := hl
  refine lv_iinc (k := 2) (v := 3) hx hb d_MO_type_87 hl rfl (by decide) (by decide) rfl (fun ls hl => ?_)
  have hl : lv_has ls 8 [(5, .int 3), (4, .int 1), (6, .long (bm x 2)), (0, .ref m0), (1, .long x), (3, .int 8)] := hl
  refine lv_goto (tgt := 38) hx hb d_MO_type_90 (by decide) ?_
  refine lv_iload hx hb d_MO_type_38 (lv_at hl 1 rfl) ?_
  refine lv_if_eq (tgt := 93) hx hb d_MO_type_40 (by decide) (fun h9 => absurd h9 (by decide)) (fun _ => ?_)
  refine lv_iload hx hb d_MO_type_43 (lv_at hl 0 rfl) ?_
  refine lv_iload_n hx hb d_MO_type_45 rfl (lv_at hl 5 rfl) ?_
  refine lv_icmp_ge (tgt := 93) hx hb d_MO_type_46 (by decide) (fun h9 => absurd h9 (by decide)) (fun _ => ?_)
  refine lv_lload_n hx hb d_MO_type_49 rfl (lv_at hl 4 rfl) ?_
  refine lv_bipush (v := 8) hx hb d_MO_type_50 (by decide) ?_
  refine lv_iload hx hb d_MO_type_52 (lv_at hl 0 rfl) ?_
  refine lv_imul hx hb d_MO_type_54 ?_
  refine lv_lshr (v := (x >>> (((8 * 3) : Int32).toInt64 &&& 63))) hx hb d_MO_type_55 rfl ?_
  refine lv_ldc2 (v := 255) hx hb hown (hts _ k_1004) d_MO_type_56 ?_
  refine lv_land hx hb d_MO_type_59 ?_
  refine W.eq (g2 := F0 m 60 ls [.long (bm x 3)]) rfl ?_
  refine lv_lstore hx hb d_MO_type_60 hl (by decide) rfl (fun ls hl => ?_)
  have hl : lv_has ls 8 [(6, .long (bm x 3)), (5, .int 3), (4, .int 1), (0, .ref m0), (1, .long x), (3, .int 8)] := hl
  refine lv_lload hx hb d_MO_type_62 (lv_at hl 0 rfl) ?_
  refine lv_ldc2 (v := 32) hx hb hown (hts _ k_1005) d_MO_type_64 ?_
  refine W.lcmp hx hb d_MO_type_67 ?_
  refine lv_if_lt (tgt := 84) hx hb d_MO_type_68 (by decide) (fun h9 => absurd h9 (okm1 (d := 24) (by decide +kernel) (by decide) (g.2.2.2.1))) (fun _ => ?_)
  refine lv_lload hx hb d_MO_type_71 (lv_at hl 0 rfl) ?_
  refine lv_ldc2 (v := 126) hx hb hown (hts _ k_1006) d_MO_type_73 ?_
  refine W.lcmp hx hb d_MO_type_76 ?_
  refine lv_if_gt (tgt := 84) hx hb d_MO_type_77 (by decide) (fun h9 => absurd h9 (okm2 (d := 24) (by decide +kernel) (by decide) (g.2.2.2.1))) (fun _ => ?_)
  refine lv_iconst (v := 1) hx hb d_MO_type_80 (by decide) ?_
  refine lv_goto (tgt := 85) hx hb d_MO_type_81 (by decide) ?_
  refine lv_istore hx hb d_MO_type_85 hl (by decide) rfl (fun ls hl => ?_)
  have hl : lv_has ls 8 [(4, .int 1), (6, .long (bm x 3)), (5, .int 3), (0, .ref m0), (1, .long x), (3, .int 8)] := hl
  refine lv_iinc (k := 2) (v := 4) hx hb d_MO_type_87 hl rfl (by decide) (by decide) rfl (fun ls hl => ?_)
  have hl : lv_has ls 8 [(5, .int 4), (4, .int 1), (6, .long (bm x 3)), (0, .ref m0), (1, .long x), (3, .int 8)] := hl
  refine lv_goto (tgt := 38) hx hb d_MO_type_90 (by decide) ?_
  refine lv_iload hx hb d_MO_type_38 (lv_at hl 1 rfl) ?_
  refine lv_if_eq (tgt := 93) hx hb d_MO_type_40 (by decide) (fun h9 => absurd h9 (by decide)) (fun _ => ?_)
  refine lv_iload hx hb d_MO_type_43 (lv_at hl 0 rfl) ?_
  refine lv_iload_n hx hb d_MO_type_45 rfl (lv_at hl 5 rfl) ?_
  refine lv_icmp_ge (tgt := 93) hx hb d_MO_type_46 (by decide) (fun h9 => absurd h9 (by decide)) (fun _ => ?_)
  refine lv_lload_n hx hb d_MO_type_49 rfl (lv_at hl 4 rfl) ?_
  refine lv_bipush (v := 8) hx hb d_MO_type_50 (by decide) ?_
  refine lv_iload hx hb d_MO_type_52 (lv_at hl 0 rfl) ?_
  refine lv_imul hx hb d_MO_type_54 ?_
  refine lv_lshr (v := (x >>> (((8 * 4) : Int32).toInt64 &&& 63))) hx hb d_MO_type_55 rfl ?_
  refine lv_ldc2 (v := 255) hx hb hown (hts _ k_1004) d_MO_type_56 ?_
  refine lv_land hx hb d_MO_type_59 ?_
  refine W.eq (g2 := F0 m 60 ls [.long (bm x 4)]) rfl ?_
  refine lv_lstore hx hb d_MO_type_60 hl (by decide) rfl (fun ls hl => ?_)
  have hl : lv_has ls 8 [(6, .long (bm x 4)), (5, .int 4), (4, .int 1), (0, .ref m0), (1, .long x), (3, .int 8)] := hl
  refine lv_lload hx hb d_MO_type_62 (lv_at hl 0 rfl) ?_
  refine lv_ldc2 (v := 32) hx hb hown (hts _ k_1005) d_MO_type_64 ?_
  refine W.lcmp hx hb d_MO_type_67 ?_
  refine lv_if_lt (tgt := 84) hx hb d_MO_type_68 (by decide) (fun h9 => absurd h9 (okm1 (d := 32) (by decide +kernel) (by decide) (g.2.2.2.2.1))) (fun _ => ?_)
  refine lv_lload hx hb d_MO_type_71 (lv_at hl 0 rfl) ?_
  refine lv_ldc2 (v := 126) hx hb hown (hts _ k_1006) d_MO_type_73 ?_
  refine W.lcmp hx hb d_MO_type_76 ?_
  refine lv_if_gt (tgt := 84) hx hb d_MO_type_77 (by decide) (fun h9 => absurd h9 (okm2 (d := 32) (by decide +kernel) (by decide) (g.2.2.2.2.1))) (fun _ => ?_)
  refine lv_iconst (v := 1) hx hb d_MO_type_80 (by decide) ?_
  refine lv_goto (tgt := 85) hx hb d_MO_type_81 (by decide) ?_
  refine lv_istore hx hb d_MO_type_85 hl (by decide) rfl (fun ls hl => ?_)
  have hl : lv_has ls 8 [(4, .int 1), (6, .long (bm x 4)), (5, .int 4), (0, .ref m0), (1, .long x), (3, .int 8)] := hl
  refine lv_iinc (k := 2) (v := 5) hx hb d_MO_type_87 hl rfl (by decide) (by decide) rfl (fun ls hl => ?_)
  have hl : lv_has ls 8 [(5, .int 5), (4, .int 1), (6, .long (bm x 4)), (0, .ref m0), (1, .long x), (3, .int 8)] := hl
  refine lv_goto (tgt := 38) hx hb d_MO_type_90 (by decide) ?_
  refine lv_iload hx hb d_MO_type_38 (lv_at hl 1 rfl) ?_
  refine lv_if_eq (tgt := 93) hx hb d_MO_type_40 (by decide) (fun h9 => absurd h9 (by decide)) (fun _ => ?_)
  refine lv_iload hx hb d_MO_type_43 (lv_at hl 0 rfl) ?_
  refine lv_iload_n hx hb d_MO_type_45 rfl (lv_at hl 5 rfl) ?_
  refine lv_icmp_ge (tgt := 93) hx hb d_MO_type_46 (by decide) (fun h9 => absurd h9 (by decide)) (fun _ => ?_)
  refine lv_lload_n hx hb d_MO_type_49 rfl (lv_at hl 4 rfl) ?_
  refine lv_bipush (v := 8) hx hb d_MO_type_50 (by decide) ?_
  refine lv_iload hx hb d_MO_type_52 (lv_at hl 0 rfl) ?_
  refine lv_imul hx hb d_MO_type_54 ?_
  refine lv_lshr (v := (x >>> (((8 * 5) : Int32).toInt64 &&& 63))) hx hb d_MO_type_55 rfl ?_
  refine lv_ldc2 (v := 255) hx hb hown (hts _ k_1004) d_MO_type_56 ?_
  refine lv_land hx hb d_MO_type_59 ?_
  refine W.eq (g2 := F0 m 60 ls [.long (bm x 5)]) rfl ?_
  refine lv_lstore hx hb d_MO_type_60 hl (by decide) rfl (fun ls hl => ?_)
  have hl : lv_has ls 8 [(6, .long (bm x 5)), (5, .int 5), (4, .int 1), (0, .ref m0), (1, .long x), (3, .int 8)] := hl
  refine lv_lload hx hb d_MO_type_62 (lv_at hl 0 rfl) ?_
  refine lv_ldc2 (v := 32) hx hb hown (hts _ k_1005) d_MO_type_64 ?_
  refine W.lcmp hx hb d_MO_type_67 ?_
  refine lv_if_lt (tgt := 84) hx hb d_MO_type_68 (by decide) (fun h9 => absurd h9 (okm1 (d := 40) (by decide +kernel) (by decide) (g.2.2.2.2.2.1))) (fun _ => ?_)
  refine lv_lload hx hb d_MO_type_71 (lv_at hl 0 rfl) ?_
  refine lv_ldc2 (v := 126) hx hb hown (hts _ k_1006) d_MO_type_73 ?_
  refine W.lcmp hx hb d_MO_type_76 ?_
  refine lv_if_gt (tgt := 84) hx hb d_MO_type_77 (by decide) (fun h9 => absurd h9 (okm2 (d := 40) (by decide +kernel) (by decide) (g.2.2.2.2.2.1))) (fun _ => ?_)
  refine lv_iconst (v := 1) hx hb d_MO_type_80 (by decide) ?_
  refine lv_goto (tgt := 85) hx hb d_MO_type_81 (by decide) ?_
  refine lv_istore hx hb d_MO_type_85 hl (by decide) rfl (fun ls hl => ?_)
  have hl : lv_has ls 8 [(4, .int 1), (6, .long (bm x 5)), (5, .int 5), (0, .ref m0), (1, .long x), (3, .int 8)] := hl
  refine lv_iinc (k := 2) (v := 6) hx hb d_MO_type_87 hl rfl (by decide) (by decide) rfl (fun ls hl => ?_)
  have hl : lv_has ls 8 [(5, .int 6), (4, .int 1), (6, .long (bm x 5)), (0, .ref m0), (1, .long x), (3, .int 8)] := hl
  refine lv_goto (tgt := 38) hx hb d_MO_type_90 (by decide) ?_
  refine lv_iload hx hb d_MO_type_38 (lv_at hl 1 rfl) ?_
  refine lv_if_eq (tgt := 93) hx hb d_MO_type_40 (by decide) (fun h9 => absurd h9 (by decide)) (fun _ => ?_)
  refine lv_iload hx hb d_MO_type_43 (lv_at hl 0 rfl) ?_
  refine lv_iload_n hx hb d_MO_type_45 rfl (lv_at hl 5 rfl) ?_
  refine lv_icmp_ge (tgt := 93) hx hb d_MO_type_46 (by decide) (fun h9 => absurd h9 (by decide)) (fun _ => ?_)
  refine lv_lload_n hx hb d_MO_type_49 rfl (lv_at hl 4 rfl) ?_
  refine lv_bipush (v := 8) hx hb d_MO_type_50 (by decide) ?_
  refine lv_iload hx hb d_MO_type_52 (lv_at hl 0 rfl) ?_
  refine lv_imul hx hb d_MO_type_54 ?_
  refine lv_lshr (v := (x >>> (((8 * 6) : Int32).toInt64 &&& 63))) hx hb d_MO_type_55 rfl ?_
  refine lv_ldc2 (v := 255) hx hb hown (hts _ k_1004) d_MO_type_56 ?_
  refine lv_land hx hb d_MO_type_59 ?_
  refine W.eq (g2 := F0 m 60 ls [.long (bm x 6)]) rfl ?_
  refine lv_lstore hx hb d_MO_type_60 hl (by decide) rfl (fun ls hl => ?_)
  have hl : lv_has ls 8 [(6, .long (bm x 6)), (5, .int 6), (4, .int 1), (0, .ref m0), (1, .long x), (3, .int 8)] := hl
  refine lv_lload hx hb d_MO_type_62 (lv_at hl 0 rfl) ?_
  refine lv_ldc2 (v := 32) hx hb hown (hts _ k_1005) d_MO_type_64 ?_
  refine W.lcmp hx hb d_MO_type_67 ?_
  refine lv_if_lt (tgt := 84) hx hb d_MO_type_68 (by decide) (fun h9 => absurd h9 (okm1 (d := 48) (by decide +kernel) (by decide) (g.2.2.2.2.2.2.1))) (fun _ => ?_)
  refine lv_lload hx hb d_MO_type_71 (lv_at hl 0 rfl) ?_
  refine lv_ldc2 (v := 126) hx hb hown (hts _ k_1006) d_MO_type_73 ?_
  refine W.lcmp hx hb d_MO_type_76 ?_
  refine lv_if_gt (tgt := 84) hx hb d_MO_type_77 (by decide) (fun h9 => absurd h9 (okm2 (d := 48) (by decide +kernel) (by decide) (g.2.2.2.2.2.2.1))) (fun _ => ?_)
  refine lv_iconst (v := 1) hx hb d_MO_type_80 (by decide) ?_
  refine lv_goto (tgt := 85) hx hb d_MO_type_81 (by decide) ?_
  refine lv_istore hx hb d_MO_type_85 hl (by decide) rfl (fun ls hl => ?_)
  have hl : lv_has ls 8 [(4, .int 1), (6, .long (bm x 6)), (5, .int 6), (0, .ref m0), (1, .long x), (3, .int 8)] := hl
  refine lv_iinc (k := 2) (v := 7) hx hb d_MO_type_87 hl rfl (by decide) (by decide) rfl (fun ls hl => ?_)
  have hl : lv_has ls 8 [(5, .int 7), (4, .int 1), (6, .long (bm x 6)), (0, .ref m0), (1, .long x), (3, .int 8)] := hl
  refine lv_goto (tgt := 38) hx hb d_MO_type_90 (by decide) ?_
  refine lv_iload hx hb d_MO_type_38 (lv_at hl 1 rfl) ?_
  refine lv_if_eq (tgt := 93) hx hb d_MO_type_40 (by decide) (fun h9 => absurd h9 (by decide)) (fun _ => ?_)
  refine lv_iload hx hb d_MO_type_43 (lv_at hl 0 rfl) ?_
  refine lv_iload_n hx hb d_MO_type_45 rfl (lv_at hl 5 rfl) ?_
  refine lv_icmp_ge (tgt := 93) hx hb d_MO_type_46 (by decide) (fun h9 => absurd h9 (by decide)) (fun _ => ?_)
  refine lv_lload_n hx hb d_MO_type_49 rfl (lv_at hl 4 rfl) ?_
  refine lv_bipush (v := 8) hx hb d_MO_type_50 (by decide) ?_
  refine lv_iload hx hb d_MO_type_52 (lv_at hl 0 rfl) ?_
  refine lv_imul hx hb d_MO_type_54 ?_
  refine lv_lshr (v := (x >>> (((8 * 7) : Int32).toInt64 &&& 63))) hx hb d_MO_type_55 rfl ?_
  refine lv_ldc2 (v := 255) hx hb hown (hts _ k_1004) d_MO_type_56 ?_
  refine lv_land hx hb d_MO_type_59 ?_
  refine W.eq (g2 := F0 m 60 ls [.long (bm x 7)]) rfl ?_
  refine lv_lstore hx hb d_MO_type_60 hl (by decide) rfl (fun ls hl => ?_)
  have hl : lv_has ls 8 [(6, .long (bm x 7)), (5, .int 7), (4, .int 1), (0, .ref m0), (1, .long x), (3, .int 8)] := hl
  refine lv_lload hx hb d_MO_type_62 (lv_at hl 0 rfl) ?_
  refine lv_ldc2 (v := 32) hx hb hown (hts _ k_1005) d_MO_type_64 ?_
  refine W.lcmp hx hb d_MO_type_67 ?_
  refine lv_if_lt (tgt := 84) hx hb d_MO_type_68 (by decide) (fun h9 => absurd h9 (okm1 (d := 56) (by decide +kernel) (by decide) (g.2.2.2.2.2.2.2))) (fun _ => ?_)
  refine lv_lload hx hb d_MO_type_71 (lv_at hl 0 rfl) ?_
  refine lv_ldc2 (v := 126) hx hb hown (hts _ k_1006) d_MO_type_73 ?_
  refine W.lcmp hx hb d_MO_type_76 ?_
  refine lv_if_gt (tgt := 84) hx hb d_MO_type_77 (by decide) (fun h9 => absurd h9 (okm2 (d := 56) (by decide +kernel) (by decide) (g.2.2.2.2.2.2.2))) (fun _ => ?_)
  refine lv_iconst (v := 1) hx hb d_MO_type_80 (by decide) ?_
  refine lv_goto (tgt := 85) hx hb d_MO_type_81 (by decide) ?_
  refine lv_istore hx hb d_MO_type_85 hl (by decide) rfl (fun ls hl => ?_)
  have hl : lv_has ls 8 [(4, .int 1), (6, .long (bm x 7)), (5, .int 7), (0, .ref m0), (1, .long x), (3, .int 8)] := hl
  refine lv_iinc (k := 2) (v := 8) hx hb d_MO_type_87 hl rfl (by decide) (by decide) rfl (fun ls hl => ?_)
  have hl : lv_has ls 8 [(5, .int 8), (4, .int 1), (6, .long (bm x 7)), (0, .ref m0), (1, .long x), (3, .int 8)] := hl
  refine lv_goto (tgt := 38) hx hb d_MO_type_90 (by decide) ?_
  refine lv_iload hx hb d_MO_type_38 (lv_at hl 1 rfl) ?_
  refine lv_if_eq (tgt := 93) hx hb d_MO_type_40 (by decide) (fun h9 => absurd h9 (by decide)) (fun _ => ?_)
  refine lv_iload hx hb d_MO_type_43 (lv_at hl 0 rfl) ?_
  refine lv_iload_n hx hb d_MO_type_45 rfl (lv_at hl 5 rfl) ?_
  refine lv_icmp_ge (tgt := 93) hx hb d_MO_type_46 (by decide) (fun _ => ?_) (fun h9 => absurd (by decide) h9)
  refine lv_iload hx hb d_MO_type_93 (lv_at hl 1 rfl) ?_
  refine lv_if_ne (tgt := 100) hx hb d_MO_type_95 (by decide) (fun _ => ?_) (fun h9 => absurd h9 (by decide))
  refine lv_iload_n hx hb d_MO_type_100 rfl (lv_at hl 5 rfl) ?_
  refine lv_iconst (v := 1) hx hb d_MO_type_101 (by decide) ?_
  refine lv_isub hx hb d_MO_type_102 ?_
  refine W.eq (g2 := F0 m 103 ls [.int 7]) rfl ?_
  refine lv_istore hx hb d_MO_type_103 hl (by decide) rfl (fun ls hl => ?_)
  have hl : lv_has ls 8 [(5, .int 7), (4, .int 1), (6, .long (bm x 7)), (0, .ref m0), (1, .long x), (3, .int 8)] := hl
  refine lv_iload hx hb d_MO_type_105 (lv_at hl 0 rfl) ?_
  refine lv_if_lt (tgt := 147) hx hb d_MO_type_107 (by decide) (fun h9 => absurd h9 (by decide)) (fun _ => ?_)
  refine lv_aload_n hx hb d_MO_type_110 rfl (lv_at hl 3 rfl) ?_
  refine va_get (D := (dC, dI)) (ci := 9) (v := .ref f_text) (C := R_MO) (T := T_MO) (N := 36) hx hb hts in_MO hown hK hP 0 rfl rfl 1 (by decide) (hts _ k_887) (fun _ h9 => h9) rfl d_MO_type_111 ?_
  refine lv_aload_n hx hb d_MO_type_114 rfl (lv_at hl 3 rfl) ?_
  refine va_get (D := (dC, dI)) (ci := 9) (v := .int 0) (C := R_MO) (T := T_MO) (N := 36) hx hb hts in_MO hown hK hP 0 rfl rfl 2 (by decide) (hts _ k_888) (fun _ h9 => h9) rfl d_MO_type_115 ?_
  refine lv_lload_n hx hb d_MO_type_118 rfl (lv_at hl 4 rfl) ?_
  refine lv_bipush (v := 8) hx hb d_MO_type_119 (by decide) ?_
  refine lv_iload hx hb d_MO_type_121 (lv_at hl 0 rfl) ?_
  refine lv_imul hx hb d_MO_type_123 ?_
  refine lv_lshr (v := (x >>> (((8 * 7) : Int32).toInt64 &&& 63))) hx hb d_MO_type_124 rfl ?_
  refine lv_ldc2 (v := 255) hx hb hown (hts _ k_1004) d_MO_type_125 ?_
  refine lv_land hx hb d_MO_type_128 ?_
  refine W.eq (g2 := F0 m 129 ls [.long (bm x 7), .int 0, .ref f_text]) rfl ?_
  refine lv_l2i (v := (bm x 7).toInt32) hx hb d_MO_type_129 rfl ?_
  refine va_iast hx hb hK hP hD hS 1 0 rfl rfl (show ¬ ((0 : Int32) < 0 ∨ 300 ≤ (0 : Int32).toNatClampNeg) from by decide) d_MO_type_130 (fun H2 locs hP hD hS => ?_)
  have hP : va_P (dC, dI) cls [(m0, .inr (9, [.int 0, .ref f_text, .int 0, .int (-1), .ref f_kinds, .ref f_places, .ref f_values, .int 0, .ref f_draftLetters, .int 0, .int 0, .int 0, .ref f_draftNumbers, .ref f_draftSigns, .int 0, .int 0, .int 0, .int 0, .ref f_letters, .ref f_numbers, .ref f_isList, .ref f_bounds, .ref f_sizes, .ref f_lists, .ref f_told, .ref f_costs, .int 0, .ref f_times, .int 0, .ref f_bestOne, .ref f_basis, .int 0, .ref f_one, .int 0, .ref f_along, .ref f_now])), (f_text, .inl (cX, 300, .inl (upd (fun _ => (0 : Int32)) (0 : Int32).toNatClampNeg (bm x 7).toInt32)))] H2 := hP
  have hD : va_D A [(m0, .inr (9, [.int 0, .ref f_text, .int 0, .int (-1), .ref f_kinds, .ref f_places, .ref f_values, .int 0, .ref f_draftLetters, .int 0, .int 0, .int 0, .ref f_draftNumbers, .ref f_draftSigns, .int 0, .int 0, .int 0, .int 0, .ref f_letters, .ref f_numbers, .ref f_isList, .ref f_bounds, .ref f_sizes, .ref f_lists, .ref f_told, .ref f_costs, .int 0, .ref f_times, .int 0, .ref f_bestOne, .ref f_basis, .int 0, .ref f_one, .int 0, .ref f_along, .ref f_now])), (f_text, .inl (cX, 300, .inl (upd (fun _ => (0 : Int32)) (0 : Int32).toNatClampNeg (bm x 7).toInt32)))] := hD
  refine lv_aload_n hx hb d_MO_type_131 rfl (lv_at hl 3 rfl) ?_
  refine lv_dup hx hb d_MO_type_132 rfl ?_
  refine va_get (D := (dC, dI)) (ci := 9) (v := .int 0) (C := R_MO) (T := T_MO) (N := 36) hx hb hts in_MO hown hK hP 0 rfl rfl 2 (by decide) (hts _ k_888) (fun _ h9 => h9) rfl d_MO_type_133 ?_
  refine lv_iconst (v := 1) hx hb d_MO_type_136 (by decide) ?_
  refine lv_iadd hx hb d_MO_type_137 ?_
  refine W.eq (g2 := F0 m 138 ls [.int 1, .ref m0]) rfl ?_
  refine va_put (D := (dC, dI)) (ci := 9) (v := .int 1) (ty := .int) (C := R_MO) (T := T_MO) (N := 36) hx hb hts in_MO t_MO t_MO_ok n_MO hown hK hP hD hS 0 rfl rfl 2 (by decide) (hts _ k_888) (fun _ h9 => h9) rfl (by decide +kernel) rfl rfl (Nat.le_of_ble_eq_true rfl) d_MO_type_138 (fun H3 locs hP hD hS => ?_)
  have hP : va_P (dC, dI) cls [(m0, .inr (9, [.int 0, .ref f_text, .int 1, .int (-1), .ref f_kinds, .ref f_places, .ref f_values, .int 0, .ref f_draftLetters, .int 0, .int 0, .int 0, .ref f_draftNumbers, .ref f_draftSigns, .int 0, .int 0, .int 0, .int 0, .ref f_letters, .ref f_numbers, .ref f_isList, .ref f_bounds, .ref f_sizes, .ref f_lists, .ref f_told, .ref f_costs, .int 0, .ref f_times, .int 0, .ref f_bestOne, .ref f_basis, .int 0, .ref f_one, .int 0, .ref f_along, .ref f_now])), (f_text, .inl (cX, 300, .inl (upd (fun _ => (0 : Int32)) (0 : Int32).toNatClampNeg (bm x 7).toInt32)))] H3 := hP
  have hD : va_D A [(m0, .inr (9, [.int 0, .ref f_text, .int 1, .int (-1), .ref f_kinds, .ref f_places, .ref f_values, .int 0, .ref f_draftLetters, .int 0, .int 0, .int 0, .ref f_draftNumbers, .ref f_draftSigns, .int 0, .int 0, .int 0, .int 0, .ref f_letters, .ref f_numbers, .ref f_isList, .ref f_bounds, .ref f_sizes, .ref f_lists, .ref f_told, .ref f_costs, .int 0, .ref f_times, .int 0, .ref f_bestOne, .ref f_basis, .int 0, .ref f_one, .int 0, .ref f_along, .ref f_now])), (f_text, .inl (cX, 300, .inl (upd (fun _ => (0 : Int32)) (0 : Int32).toNatClampNeg (bm x 7).toInt32)))] := hD
  refine lv_iinc (k := 0) (v := 6) hx hb d_MO_type_141 hl rfl (by decide) (by decide) rfl (fun ls hl => ?_)
  have hl : lv_has ls 8 [(5, .int 6), (4, .int 1), (6, .long (bm x 7)), (0, .ref m0), (1, .long x), (3, .int 8)] := hl
  refine lv_goto (tgt := 105) hx hb d_MO_type_144 (by decide) ?_
  refine lv_iload hx hb d_MO_type_105 (lv_at hl 0 rfl) ?_
  refine lv_if_lt (tgt := 147) hx hb d_MO_type_107 (by decide) (fun h9 => absurd h9 (by decide)) (fun _ => ?_)
  refine lv_aload_n hx hb d_MO_type_110 rfl (lv_at hl 3 rfl) ?_
  refine va_get (D := (dC, dI)) (ci := 9) (v := .ref f_text) (C := R_MO) (T := T_MO) (N := 36) hx hb hts in_MO hown hK hP 0 rfl rfl 1 (by decide) (hts _ k_887) (fun _ h9 => h9) rfl d_MO_type_111 ?_
  refine lv_aload_n hx hb d_MO_type_114 rfl (lv_at hl 3 rfl) ?_
  refine va_get (D := (dC, dI)) (ci := 9) (v := .int 1) (C := R_MO) (T := T_MO) (N := 36) hx hb hts in_MO hown hK hP 0 rfl rfl 2 (by decide) (hts _ k_888) (fun _ h9 => h9) rfl d_MO_type_115 ?_
  refine lv_lload_n hx hb d_MO_type_118 rfl (lv_at hl 4 rfl) ?_
  refine lv_bipush (v := 8) hx hb d_MO_type_119 (by decide) ?_
  refine lv_iload hx hb d_MO_type_121 (lv_at hl 0 rfl) ?_
  refine lv_imul hx hb d_MO_type_123 ?_
  refine lv_lshr (v := (x >>> (((8 * 6) : Int32).toInt64 &&& 63))) hx hb d_MO_type_124 rfl ?_
  refine lv_ldc2 (v := 255) hx hb hown (hts _ k_1004) d_MO_type_125 ?_
  refine lv_land hx hb d_MO_type_128 ?_
  refine W.eq (g2 := F0 m 129 ls [.long (bm x 6), .int 1, .ref f_text]) rfl ?_
  refine lv_l2i (v := (bm x 6).toInt32) hx hb d_MO_type_129 rfl ?_
  refine va_iast hx hb hK hP hD hS 1 0 rfl rfl (show ¬ ((1 : Int32) < 0 ∨ 300 ≤ (1 : Int32).toNatClampNeg) from by decide) d_MO_type_130 (fun H4 locs hP hD hS => ?_)
  have hP : va_P (dC, dI) cls [(m0, .inr (9, [.int 0, .ref f_text, .int 1, .int (-1), .ref f_kinds, .ref f_places, .ref f_values, .int 0, .ref f_draftLetters, .int 0, .int 0, .int 0, .ref f_draftNumbers, .ref f_draftSigns, .int 0, .int 0, .int 0, .int 0, .ref f_letters, .ref f_numbers, .ref f_isList, .ref f_bounds, .ref f_sizes, .ref f_lists, .ref f_told, .ref f_costs, .int 0, .ref f_times, .int 0, .ref f_bestOne, .ref f_basis, .int 0, .ref f_one, .int 0, .ref f_along, .ref f_now])), (f_text, .inl (cX, 300, .inl (upd (upd (fun _ => (0 : Int32)) (0 : Int32).toNatClampNeg (bm x 7).toInt32) (1 : Int32).toNatClampNeg (bm x 6).toInt32)))] H4 := hP
  have hD : va_D A [(m0, .inr (9, [.int 0, .ref f_text, .int 1, .int (-1), .ref f_kinds, .ref f_places, .ref f_values, .int 0, .ref f_draftLetters, .int 0, .int 0, .int 0, .ref f_draftNumbers, .ref f_draftSigns, .int 0, .int 0, .int 0, .int 0, .ref f_letters, .ref f_numbers, .ref f_isList, .ref f_bounds, .ref f_sizes, .ref f_lists, .ref f_told, .ref f_costs, .int 0, .ref f_times, .int 0, .ref f_bestOne, .ref f_basis, .int 0, .ref f_one, .int 0, .ref f_along, .ref f_now])), (f_text, .inl (cX, 300, .inl (upd (upd (fun _ => (0 : Int32)) (0 : Int32).toNatClampNeg (bm x 7).toInt32) (1 : Int32).toNatClampNeg (bm x 6).toInt32)))] := hD
  refine lv_aload_n hx hb d_MO_type_131 rfl (lv_at hl 3 rfl) ?_
  refine lv_dup hx hb d_MO_type_132 rfl ?_
  refine va_get (D := (dC, dI)) (ci := 9) (v := .int 1) (C := R_MO) (T := T_MO) (N := 36) hx hb hts in_MO hown hK hP 0 rfl rfl 2 (by decide) (hts _ k_888) (fun _ h9 => h9) rfl d_MO_type_133 ?_
  refine lv_iconst (v := 1) hx hb d_MO_type_136 (by decide) ?_
  refine lv_iadd hx hb d_MO_type_137 ?_
  refine W.eq (g2 := F0 m 138 ls [.int 2, .ref m0]) rfl ?_
  refine va_put (D := (dC, dI)) (ci := 9) (v := .int 2) (ty := .int) (C := R_MO) (T := T_MO) (N := 36) hx hb hts in_MO t_MO t_MO_ok n_MO hown hK hP hD hS 0 rfl rfl 2 (by decide) (hts _ k_888) (fun _ h9 => h9) rfl (by decide +kernel) rfl rfl (Nat.le_of_ble_eq_true rfl) d_MO_type_138 (fun H5 locs hP hD hS => ?_)
  have hP : va_P (dC, dI) cls [(m0, .inr (9, [.int 0, .ref f_text, .int 2, .int (-1), .ref f_kinds, .ref f_places, .ref f_values, .int 0, .ref f_draftLetters, .int 0, .int 0, .int 0, .ref f_draftNumbers, .ref f_draftSigns, .int 0, .int 0, .int 0, .int 0, .ref f_letters, .ref f_numbers, .ref f_isList, .ref f_bounds, .ref f_sizes, .ref f_lists, .ref f_told, .ref f_costs, .int 0, .ref f_times, .int 0, .ref f_bestOne, .ref f_basis, .int 0, .ref f_one, .int 0, .ref f_along, .ref f_now])), (f_text, .inl (cX, 300, .inl (upd (upd (fun _ => (0 : Int32)) (0 : Int32).toNatClampNeg (bm x 7).toInt32) (1 : Int32).toNatClampNeg (bm x 6).toInt32)))] H5 := hP
  have hD : va_D A [(m0, .inr (9, [.int 0, .ref f_text, .int 2, .int (-1), .ref f_kinds, .ref f_places, .ref f_values, .int 0, .ref f_draftLetters, .int 0, .int 0, .int 0, .ref f_draftNumbers, .ref f_draftSigns, .int 0, .int 0, .int 0, .int 0, .ref f_letters, .ref f_numbers, .ref f_isList, .ref f_bounds, .ref f_sizes, .ref f_lists, .ref f_told, .ref f_costs, .int 0, .ref f_times, .int 0, .ref f_bestOne, .ref f_basis, .int 0, .ref f_one, .int 0, .ref f_along, .ref f_now])), (f_text, .inl (cX, 300, .inl (upd (upd (fun _ => (0 : Int32)) (0 : Int32).toNatClampNeg (bm x 7).toInt32) (1 : Int32).toNatClampNeg (bm x 6).toInt32)))] := hD
  refine lv_iinc (k := 0) (v := 5) hx hb d_MO_type_141 hl rfl (by decide) (by decide) rfl (fun ls hl => ?_)
  have hl : lv_has ls 8 [(5, .int 5), (4, .int 1), (6, .long (bm x 7)), (0, .ref m0), (1, .long x), (3, .int 8)] := hl
  refine lv_goto (tgt := 105) hx hb d_MO_type_144 (by decide) ?_
  refine lv_iload hx hb d_MO_type_105 (lv_at hl 0 rfl) ?_
  refine lv_if_lt (tgt := 147) hx hb d_MO_type_107 (by decide) (fun h9 => absurd h9 (by decide)) (fun _ => ?_)
  refine lv_aload_n hx hb d_MO_type_110 rfl (lv_at hl 3 rfl) ?_
  refine va_get (D := (dC, dI)) (ci := 9) (v := .ref f_text) (C := R_MO) (T := T_MO) (N := 36) hx hb hts in_MO hown hK hP 0 rfl rfl 1 (by decide) (hts _ k_887) (fun _ h9 => h9) rfl d_MO_type_111 ?_
  refine lv_aload_n hx hb d_MO_type_114 rfl (lv_at hl 3 rfl) ?_
  refine va_get (D := (dC, dI)) (ci := 9) (v := .int 2) (C := R_MO) (T := T_MO) (N := 36) hx hb hts in_MO hown hK hP 0 rfl rfl 2 (by decide) (hts _ k_888) (fun _ h9 => h9) rfl d_MO_type_115 ?_
  refine lv_lload_n hx hb d_MO_type_118 rfl (lv_at hl 4 rfl) ?_
  refine lv_bipush (v := 8) hx hb d_MO_type_119 (by decide) ?_
  refine lv_iload hx hb d_MO_type_121 (lv_at hl 0 rfl) ?_
  refine lv_imul hx hb d_MO_type_123 ?_
  refine lv_lshr (v := (x >>> (((8 * 5) : Int32).toInt64 &&& 63))) hx hb d_MO_type_124 rfl ?_
  refine lv_ldc2 (v := 255) hx hb hown (hts _ k_1004) d_MO_type_125 ?_
  refine lv_land hx hb d_MO_type_128 ?_
  refine W.eq (g2 := F0 m 129 ls [.long (bm x 5), .int 2, .ref f_text]) rfl ?_
  refine lv_l2i (v := (bm x 5).toInt32) hx hb d_MO_type_129 rfl ?_
  refine va_iast hx hb hK hP hD hS 1 0 rfl rfl (show ¬ ((2 : Int32) < 0 ∨ 300 ≤ (2 : Int32).toNatClampNeg) from by decide) d_MO_type_130 (fun H6 locs hP hD hS => ?_)
  have hP : va_P (dC, dI) cls [(m0, .inr (9, [.int 0, .ref f_text, .int 2, .int (-1), .ref f_kinds, .ref f_places, .ref f_values, .int 0, .ref f_draftLetters, .int 0, .int 0, .int 0, .ref f_draftNumbers, .ref f_draftSigns, .int 0, .int 0, .int 0, .int 0, .ref f_letters, .ref f_numbers, .ref f_isList, .ref f_bounds, .ref f_sizes, .ref f_lists, .ref f_told, .ref f_costs, .int 0, .ref f_times, .int 0, .ref f_bestOne, .ref f_basis, .int 0, .ref f_one, .int 0, .ref f_along, .ref f_now])), (f_text, .inl (cX, 300, .inl (upd (upd (upd (fun _ => (0 : Int32)) (0 : Int32).toNatClampNeg (bm x 7).toInt32) (1 : Int32).toNatClampNeg (bm x 6).toInt32) (2 : Int32).toNatClampNeg (bm x 5).toInt32)))] H6 := hP
  have hD : va_D A [(m0, .inr (9, [.int 0, .ref f_text, .int 2, .int (-1), .ref f_kinds, .ref f_places, .ref f_values, .int 0, .ref f_draftLetters, .int 0, .int 0, .int 0, .ref f_draftNumbers, .ref f_draftSigns, .int 0, .int 0, .int 0, .int 0, .ref f_letters, .ref f_numbers, .ref f_isList, .ref f_bounds, .ref f_sizes, .ref f_lists, .ref f_told, .ref f_costs, .int 0, .ref f_times, .int 0, .ref f_bestOne, .ref f_basis, .int 0, .ref f_one, .int 0, .ref f_along, .ref f_now])), (f_text, .inl (cX, 300, .inl (upd (upd (upd (fun _ => (0 : Int32)) (0 : Int32).toNatClampNeg (bm x 7).toInt32) (1 : Int32).toNatClampNeg (bm x 6).toInt32) (2 : Int32).toNatClampNeg (bm x 5).toInt32)))] := hD
  refine lv_aload_n hx hb d_MO_type_131 rfl (lv_at hl 3 rfl) ?_
  refine lv_dup hx hb d_MO_type_132 rfl ?_
  refine va_get (D := (dC, dI)) (ci := 9) (v := .int 2) (C := R_MO) (T := T_MO) (N := 36) hx hb hts in_MO hown hK hP 0 rfl rfl 2 (by decide) (hts _ k_888) (fun _ h9 => h9) rfl d_MO_type_133 ?_
  refine lv_iconst (v := 1) hx hb d_MO_type_136 (by decide) ?_
  refine lv_iadd hx hb d_MO_type_137 ?_
  refine W.eq (g2 := F0 m 138 ls [.int 3, .ref m0]) rfl ?_
  refine va_put (D := (dC, dI)) (ci := 9) (v := .int 3) (ty := .int) (C := R_MO) (T := T_MO) (N := 36) hx hb hts in_MO t_MO t_MO_ok n_MO hown hK hP hD hS 0 rfl rfl 2 (by decide) (hts _ k_888) (fun _ h9 => h9) rfl (by decide +kernel) rfl rfl (Nat.le_of_ble_eq_true rfl) d_MO_type_138 (fun H7 locs hP hD hS => ?_)
  have hP : va_P (dC, dI) cls [(m0, .inr (9, [.int 0, .ref f_text, .int 3, .int (-1), .ref f_kinds, .ref f_places, .ref f_values, .int 0, .ref f_draftLetters, .int 0, .int 0, .int 0, .ref f_draftNumbers, .ref f_draftSigns, .int 0, .int 0, .int 0, .int 0, .ref f_letters, .ref f_numbers, .ref f_isList, .ref f_bounds, .ref f_sizes, .ref f_lists, .ref f_told, .ref f_costs, .int 0, .ref f_times, .int 0, .ref f_bestOne, .ref f_basis, .int 0, .ref f_one, .int 0, .ref f_along, .ref f_now])), (f_text, .inl (cX, 300, .inl (upd (upd (upd (fun _ => (0 : Int32)) (0 : Int32).toNatClampNeg (bm x 7).toInt32) (1 : Int32).toNatClampNeg (bm x 6).toInt32) (2 : Int32).toNatClampNeg (bm x 5).toInt32)))] H7 := hP
  have hD : va_D A [(m0, .inr (9, [.int 0, .ref f_text, .int 3, .int (-1), .ref f_kinds, .ref f_places, .ref f_values, .int 0, .ref f_draftLetters, .int 0, .int 0, .int 0, .ref f_draftNumbers, .ref f_draftSigns, .int 0, .int 0, .int 0, .int 0, .ref f_letters, .ref f_numbers, .ref f_isList, .ref f_bounds, .ref f_sizes, .ref f_lists, .ref f_told, .ref f_costs, .int 0, .ref f_times, .int 0, .ref f_bestOne, .ref f_basis, .int 0, .ref f_one, .int 0, .ref f_along, .ref f_now])), (f_text, .inl (cX, 300, .inl (upd (upd (upd (fun _ => (0 : Int32)) (0 : Int32).toNatClampNeg (bm x 7).toInt32) (1 : Int32).toNatClampNeg (bm x 6).toInt32) (2 : Int32).toNatClampNeg (bm x 5).toInt32)))] := hD
  refine lv_iinc (k := 0) (v := 4) hx hb d_MO_type_141 hl rfl (by decide) (by decide) rfl (fun ls hl => ?_)
  have hl : lv_has ls 8 [(5, .int 4), (4, .int 1), (6, .long (bm x 7)), (0, .ref m0), (1, .long x), (3, .int 8)] := hl
  refine lv_goto (tgt := 105) hx hb d_MO_type_144 (by decide) ?_
  refine lv_iload hx hb d_MO_type_105 (lv_at hl 0 rfl) ?_
  refine lv_if_lt (tgt := 147) hx hb d_MO_type_107 (by decide) (fun h9 => absurd h9 (by decide)) (fun _ => ?_)
  refine lv_aload_n hx hb d_MO_type_110 rfl (lv_at hl 3 rfl) ?_
  refine va_get (D := (dC, dI)) (ci := 9) (v := .ref f_text) (C := R_MO) (T := T_MO) (N := 36) hx hb hts in_MO hown hK hP 0 rfl rfl 1 (by decide) (hts _ k_887) (fun _ h9 => h9) rfl d_MO_type_111 ?_
  refine lv_aload_n hx hb d_MO_type_114 rfl (lv_at hl 3 rfl) ?_
  refine va_get (D := (dC, dI)) (ci := 9) (v := .int 3) (C := R_MO) (T := T_MO) (N := 36) hx hb hts in_MO hown hK hP 0 rfl rfl 2 (by decide) (hts _ k_888) (fun _ h9 => h9) rfl d_MO_type_115 ?_
  refine lv_lload_n hx hb d_MO_type_118 rfl (lv_at hl 4 rfl) ?_
  refine lv_bipush (v := 8) hx hb d_MO_type_119 (by decide) ?_
  refine lv_iload hx hb d_MO_type_121 (lv_at hl 0 rfl) ?_
  refine lv_imul hx hb d_MO_type_123 ?_
  refine lv_lshr (v := (x >>> (((8 * 4) : Int32).toInt64 &&& 63))) hx hb d_MO_type_124 rfl ?_
  refine lv_ldc2 (v := 255) hx hb hown (hts _ k_1004) d_MO_type_125 ?_
  refine lv_land hx hb d_MO_type_128 ?_
  refine W.eq (g2 := F0 m 129 ls [.long (bm x 4), .int 3, .ref f_text]) rfl ?_
  refine lv_l2i (v := (bm x 4).toInt32) hx hb d_MO_type_129 rfl ?_
  refine va_iast hx hb hK hP hD hS 1 0 rfl rfl (show ¬ ((3 : Int32) < 0 ∨ 300 ≤ (3 : Int32).toNatClampNeg) from by decide) d_MO_type_130 (fun H8 locs hP hD hS => ?_)
  have hP : va_P (dC, dI) cls [(m0, .inr (9, [.int 0, .ref f_text, .int 3, .int (-1), .ref f_kinds, .ref f_places, .ref f_values, .int 0, .ref f_draftLetters, .int 0, .int 0, .int 0, .ref f_draftNumbers, .ref f_draftSigns, .int 0, .int 0, .int 0, .int 0, .ref f_letters, .ref f_numbers, .ref f_isList, .ref f_bounds, .ref f_sizes, .ref f_lists, .ref f_told, .ref f_costs, .int 0, .ref f_times, .int 0, .ref f_bestOne, .ref f_basis, .int 0, .ref f_one, .int 0, .ref f_along, .ref f_now])), (f_text, .inl (cX, 300, .inl (upd (upd (upd (upd (fun _ => (0 : Int32)) (0 : Int32).toNatClampNeg (bm x 7).toInt32) (1 : Int32).toNatClampNeg (bm x 6).toInt32) (2 : Int32).toNatClampNeg (bm x 5).toInt32) (3 : Int32).toNatClampNeg (bm x 4).toInt32)))] H8 := hP
  have hD : va_D A [(m0, .inr (9, [.int 0, .ref f_text, .int 3, .int (-1), .ref f_kinds, .ref f_places, .ref f_values, .int 0, .ref f_draftLetters, .int 0, .int 0, .int 0, .ref f_draftNumbers, .ref f_draftSigns, .int 0, .int 0, .int 0, .int 0, .ref f_letters, .ref f_numbers, .ref f_isList, .ref f_bounds, .ref f_sizes, .ref f_lists, .ref f_told, .ref f_costs, .int 0, .ref f_times, .int 0, .ref f_bestOne, .ref f_basis, .int 0, .ref f_one, .int 0, .ref f_along, .ref f_now])), (f_text, .inl (cX, 300, .inl (upd (upd (upd (upd (fun _ => (0 : Int32)) (0 : Int32).toNatClampNeg (bm x 7).toInt32) (1 : Int32).toNatClampNeg (bm x 6).toInt32) (2 : Int32).toNatClampNeg (bm x 5).toInt32) (3 : Int32).toNatClampNeg (bm x 4).toInt32)))] := hD
  refine lv_aload_n hx hb d_MO_type_131 rfl (lv_at hl 3 rfl) ?_
  refine lv_dup hx hb d_MO_type_132 rfl ?_
  refine va_get (D := (dC, dI)) (ci := 9) (v := .int 3) (C := R_MO) (T := T_MO) (N := 36) hx hb hts in_MO hown hK hP 0 rfl rfl 2 (by decide) (hts _ k_888) (fun _ h9 => h9) rfl d_MO_type_133 ?_
  refine lv_iconst (v := 1) hx hb d_MO_type_136 (by decide) ?_
  refine lv_iadd hx hb d_MO_type_137 ?_
  refine W.eq (g2 := F0 m 138 ls [.int 4, .ref m0]) rfl ?_
  refine va_put (D := (dC, dI)) (ci := 9) (v := .int 4) (ty := .int) (C := R_MO) (T := T_MO) (N := 36) hx hb hts in_MO t_MO t_MO_ok n_MO hown hK hP hD hS 0 rfl rfl 2 (by decide) (hts _ k_888) (fun _ h9 => h9) rfl (by decide +kernel) rfl rfl (Nat.le_of_ble_eq_true rfl) d_MO_type_138 (fun H9 locs hP hD hS => ?_)
  have hP : va_P (dC, dI) cls [(m0, .inr (9, [.int 0, .ref f_text, .int 4, .int (-1), .ref f_kinds, .ref f_places, .ref f_values, .int 0, .ref f_draftLetters, .int 0, .int 0, .int 0, .ref f_draftNumbers, .ref f_draftSigns, .int 0, .int 0, .int 0, .int 0, .ref f_letters, .ref f_numbers, .ref f_isList, .ref f_bounds, .ref f_sizes, .ref f_lists, .ref f_told, .ref f_costs, .int 0, .ref f_times, .int 0, .ref f_bestOne, .ref f_basis, .int 0, .ref f_one, .int 0, .ref f_along, .ref f_now])), (f_text, .inl (cX, 300, .inl (upd (upd (upd (upd (fun _ => (0 : Int32)) (0 : Int32).toNatClampNeg (bm x 7).toInt32) (1 : Int32).toNatClampNeg (bm x 6).toInt32) (2 : Int32).toNatClampNeg (bm x 5).toInt32) (3 : Int32).toNatClampNeg (bm x 4).toInt32)))] H9 := hP
  have hD : va_D A [(m0, .inr (9, [.int 0, .ref f_text, .int 4, .int (-1), .ref f_kinds, .ref f_places, .ref f_values, .int 0, .ref f_draftLetters, .int 0, .int 0, .int 0, .ref f_draftNumbers, .ref f_draftSigns, .int 0, .int 0, .int 0, .int 0, .ref f_letters, .ref f_numbers, .ref f_isList, .ref f_bounds, .ref f_sizes, .ref f_lists, .ref f_told, .ref f_costs, .int 0, .ref f_times, .int 0, .ref f_bestOne, .ref f_basis, .int 0, .ref f_one, .int 0, .ref f_along, .ref f_now])), (f_text, .inl (cX, 300, .inl (upd (upd (upd (upd (fun _ => (0 : Int32)) (0 : Int32).toNatClampNeg (bm x 7).toInt32) (1 : Int32).toNatClampNeg (bm x 6).toInt32) (2 : Int32).toNatClampNeg (bm x 5).toInt32) (3 : Int32).toNatClampNeg (bm x 4).toInt32)))] := hD
  refine lv_iinc (k := 0) (v := 3) hx hb d_MO_type_141 hl rfl (by decide) (by decide) rfl (fun ls hl => ?_)
  have hl : lv_has ls 8 [(5, .int 3), (4, .int 1), (6, .long (bm x 7)), (0, .ref m0), (1, .long x), (3, .int 8)] := hl
  refine lv_goto (tgt := 105) hx hb d_MO_type_144 (by decide) ?_
  refine lv_iload hx hb d_MO_type_105 (lv_at hl 0 rfl) ?_
  refine lv_if_lt (tgt := 147) hx hb d_MO_type_107 (by decide) (fun h9 => absurd h9 (by decide)) (fun _ => ?_)
  refine lv_aload_n hx hb d_MO_type_110 rfl (lv_at hl 3 rfl) ?_
  refine va_get (D := (dC, dI)) (ci := 9) (v := .ref f_text) (C := R_MO) (T := T_MO) (N := 36) hx hb hts in_MO hown hK hP 0 rfl rfl 1 (by decide) (hts _ k_887) (fun _ h9 => h9) rfl d_MO_type_111 ?_
  refine lv_aload_n hx hb d_MO_type_114 rfl (lv_at hl 3 rfl) ?_
  refine va_get (D := (dC, dI)) (ci := 9) (v := .int 4) (C := R_MO) (T := T_MO) (N := 36) hx hb hts in_MO hown hK hP 0 rfl rfl 2 (by decide) (hts _ k_888) (fun _ h9 => h9) rfl d_MO_type_115 ?_
  refine lv_lload_n hx hb d_MO_type_118 rfl (lv_at hl 4 rfl) ?_
  refine lv_bipush (v := 8) hx hb d_MO_type_119 (by decide) ?_
  refine lv_iload hx hb d_MO_type_121 (lv_at hl 0 rfl) ?_
  refine lv_imul hx hb d_MO_type_123 ?_
  refine lv_lshr (v := (x >>> (((8 * 3) : Int32).toInt64 &&& 63))) hx hb d_MO_type_124 rfl ?_
  refine lv_ldc2 (v := 255) hx hb hown (hts _ k_1004) d_MO_type_125 ?_
  refine lv_land hx hb d_MO_type_128 ?_
  refine W.eq (g2 := F0 m 129 ls [.long (bm x 3), .int 4, .ref f_text]) rfl ?_
  refine lv_l2i (v := (bm x 3).toInt32) hx hb d_MO_type_129 rfl ?_
  refine va_iast hx hb hK hP hD hS 1 0 rfl rfl (show ¬ ((4 : Int32) < 0 ∨ 300 ≤ (4 : Int32).toNatClampNeg) from by decide) d_MO_type_130 (fun H10 locs hP hD hS => ?_)
  have hP : va_P (dC, dI) cls [(m0, .inr (9, [.int 0, .ref f_text, .int 4, .int (-1), .ref f_kinds, .ref f_places, .ref f_values, .int 0, .ref f_draftLetters, .int 0, .int 0, .int 0, .ref f_draftNumbers, .ref f_draftSigns, .int 0, .int 0, .int 0, .int 0, .ref f_letters, .ref f_numbers, .ref f_isList, .ref f_bounds, .ref f_sizes, .ref f_lists, .ref f_told, .ref f_costs, .int 0, .ref f_times, .int 0, .ref f_bestOne, .ref f_basis, .int 0, .ref f_one, .int 0, .ref f_along, .ref f_now])), (f_text, .inl (cX, 300, .inl (upd (upd (upd (upd (upd (fun _ => (0 : Int32)) (0 : Int32).toNatClampNeg (bm x 7).toInt32) (1 : Int32).toNatClampNeg (bm x 6).toInt32) (2 : Int32).toNatClampNeg (bm x 5).toInt32) (3 : Int32).toNatClampNeg (bm x 4).toInt32) (4 : Int32).toNatClampNeg (bm x 3).toInt32)))] H10 := hP
  have hD : va_D A [(m0, .inr (9, [.int 0, .ref f_text, .int 4, .int (-1), .ref f_kinds, .ref f_places, .ref f_values, .int 0, .ref f_draftLetters, .int 0, .int 0, .int 0, .ref f_draftNumbers, .ref f_draftSigns, .int 0, .int 0, .int 0, .int 0, .ref f_letters, .ref f_numbers, .ref f_isList, .ref f_bounds, .ref f_sizes, .ref f_lists, .ref f_told, .ref f_costs, .int 0, .ref f_times, .int 0, .ref f_bestOne, .ref f_basis, .int 0, .ref f_one, .int 0, .ref f_along, .ref f_now])), (f_text, .inl (cX, 300, .inl (upd (upd (upd (upd (upd (fun _ => (0 : Int32)) (0 : Int32).toNatClampNeg (bm x 7).toInt32) (1 : Int32).toNatClampNeg (bm x 6).toInt32) (2 : Int32).toNatClampNeg (bm x 5).toInt32) (3 : Int32).toNatClampNeg (bm x 4).toInt32) (4 : Int32).toNatClampNeg (bm x 3).toInt32)))] := hD
  refine lv_aload_n hx hb d_MO_type_131 rfl (lv_at hl 3 rfl) ?_
  refine lv_dup hx hb d_MO_type_132 rfl ?_
  refine va_get (D := (dC, dI)) (ci := 9) (v := .int 4) (C := R_MO) (T := T_MO) (N := 36) hx hb hts in_MO hown hK hP 0 rfl rfl 2 (by decide) (hts _ k_888) (fun _ h9 => h9) rfl d_MO_type_133 ?_
  refine lv_iconst (v := 1) hx hb d_MO_type_136 (by decide) ?_
  refine lv_iadd hx hb d_MO_type_137 ?_
  refine W.eq (g2 := F0 m 138 ls [.int 5, .ref m0]) rfl ?_
  refine va_put (D := (dC, dI)) (ci := 9) (v := .int 5) (ty := .int) (C := R_MO) (T := T_MO) (N := 36) hx hb hts in_MO t_MO t_MO_ok n_MO hown hK hP hD hS 0 rfl rfl 2 (by decide) (hts _ k_888) (fun _ h9 => h9) rfl (by decide +kernel) rfl rfl (Nat.le_of_ble_eq_true rfl) d_MO_type_138 (fun H11 locs hP hD hS => ?_)
  have hP : va_P (dC, dI) cls [(m0, .inr (9, [.int 0, .ref f_text, .int 5, .int (-1), .ref f_kinds, .ref f_places, .ref f_values, .int 0, .ref f_draftLetters, .int 0, .int 0, .int 0, .ref f_draftNumbers, .ref f_draftSigns, .int 0, .int 0, .int 0, .int 0, .ref f_letters, .ref f_numbers, .ref f_isList, .ref f_bounds, .ref f_sizes, .ref f_lists, .ref f_told, .ref f_costs, .int 0, .ref f_times, .int 0, .ref f_bestOne, .ref f_basis, .int 0, .ref f_one, .int 0, .ref f_along, .ref f_now])), (f_text, .inl (cX, 300, .inl (upd (upd (upd (upd (upd (fun _ => (0 : Int32)) (0 : Int32).toNatClampNeg (bm x 7).toInt32) (1 : Int32).toNatClampNeg (bm x 6).toInt32) (2 : Int32).toNatClampNeg (bm x 5).toInt32) (3 : Int32).toNatClampNeg (bm x 4).toInt32) (4 : Int32).toNatClampNeg (bm x 3).toInt32)))] H11 := hP
  have hD : va_D A [(m0, .inr (9, [.int 0, .ref f_text, .int 5, .int (-1), .ref f_kinds, .ref f_places, .ref f_values, .int 0, .ref f_draftLetters, .int 0, .int 0, .int 0, .ref f_draftNumbers, .ref f_draftSigns, .int 0, .int 0, .int 0, .int 0, .ref f_letters, .ref f_numbers, .ref f_isList, .ref f_bounds, .ref f_sizes, .ref f_lists, .ref f_told, .ref f_costs, .int 0, .ref f_times, .int 0, .ref f_bestOne, .ref f_basis, .int 0, .ref f_one, .int 0, .ref f_along, .ref f_now])), (f_text, .inl (cX, 300, .inl (upd (upd (upd (upd (upd (fun _ => (0 : Int32)) (0 : Int32).toNatClampNeg (bm x 7).toInt32) (1 : Int32).toNatClampNeg (bm x 6).toInt32) (2 : Int32).toNatClampNeg (bm x 5).toInt32) (3 : Int32).toNatClampNeg (bm x 4).toInt32) (4 : Int32).toNatClampNeg (bm x 3).toInt32)))] := hD
  refine lv_iinc (k := 0) (v := 2) hx hb d_MO_type_141 hl rfl (by decide) (by decide) rfl (fun ls hl => ?_)
  have hl : lv_has ls 8 [(5, .int 2), (4, .int 1), (6, .long (bm x 7)), (0, .ref m0), (1, .long x), (3, .int 8)] := hl
  refine lv_goto (tgt := 105) hx hb d_MO_type_144 (by decide) ?_
  refine lv_iload hx hb d_MO_type_105 (lv_at hl 0 rfl) ?_
  refine lv_if_lt (tgt := 147) hx hb d_MO_type_107 (by decide) (fun h9 => absurd h9 (by decide)) (fun _ => ?_)
  refine lv_aload_n hx hb d_MO_type_110 rfl (lv_at hl 3 rfl) ?_
  refine va_get (D := (dC, dI)) (ci := 9) (v := .ref f_text) (C := R_MO) (T := T_MO) (N := 36) hx hb hts in_MO hown hK hP 0 rfl rfl 1 (by decide) (hts _ k_887) (fun _ h9 => h9) rfl d_MO_type_111 ?_
  refine lv_aload_n hx hb d_MO_type_114 rfl (lv_at hl 3 rfl) ?_
  refine va_get (D := (dC, dI)) (ci := 9) (v := .int 5) (C := R_MO) (T := T_MO) (N := 36) hx hb hts in_MO hown hK hP 0 rfl rfl 2 (by decide) (hts _ k_888) (fun _ h9 => h9) rfl d_MO_type_115 ?_
  refine lv_lload_n hx hb d_MO_type_118 rfl (lv_at hl 4 rfl) ?_
  refine lv_bipush (v := 8) hx hb d_MO_type_119 (by decide) ?_
  refine lv_iload hx hb d_MO_type_121 (lv_at hl 0 rfl) ?_
  refine lv_imul hx hb d_MO_type_123 ?_
  refine lv_lshr (v := (x >>> (((8 * 2) : Int32).toInt64 &&& 63))) hx hb d_MO_type_124 rfl ?_
  refine lv_ldc2 (v := 255) hx hb hown (hts _ k_1004) d_MO_type_125 ?_
  refine lv_land hx hb d_MO_type_128 ?_
  refine W.eq (g2 := F0 m 129 ls [.long (bm x 2), .int 5, .ref f_text]) rfl ?_
  refine lv_l2i (v := (bm x 2).toInt32) hx hb d_MO_type_129 rfl ?_
  refine va_iast hx hb hK hP hD hS 1 0 rfl rfl (show ¬ ((5 : Int32) < 0 ∨ 300 ≤ (5 : Int32).toNatClampNeg) from by decide) d_MO_type_130 (fun H12 locs hP hD hS => ?_)
  have hP : va_P (dC, dI) cls [(m0, .inr (9, [.int 0, .ref f_text, .int 5, .int (-1), .ref f_kinds, .ref f_places, .ref f_values, .int 0, .ref f_draftLetters, .int 0, .int 0, .int 0, .ref f_draftNumbers, .ref f_draftSigns, .int 0, .int 0, .int 0, .int 0, .ref f_letters, .ref f_numbers, .ref f_isList, .ref f_bounds, .ref f_sizes, .ref f_lists, .ref f_told, .ref f_costs, .int 0, .ref f_times, .int 0, .ref f_bestOne, .ref f_basis, .int 0, .ref f_one, .int 0, .ref f_along, .ref f_now])), (f_text, .inl (cX, 300, .inl (upd (upd (upd (upd (upd (upd (fun _ => (0 : Int32)) (0 : Int32).toNatClampNeg (bm x 7).toInt32) (1 : Int32).toNatClampNeg (bm x 6).toInt32) (2 : Int32).toNatClampNeg (bm x 5).toInt32) (3 : Int32).toNatClampNeg (bm x 4).toInt32) (4 : Int32).toNatClampNeg (bm x 3).toInt32) (5 : Int32).toNatClampNeg (bm x 2).toInt32)))] H12 := hP
  have hD : va_D A [(m0, .inr (9, [.int 0, .ref f_text, .int 5, .int (-1), .ref f_kinds, .ref f_places, .ref f_values, .int 0, .ref f_draftLetters, .int 0, .int 0, .int 0, .ref f_draftNumbers, .ref f_draftSigns, .int 0, .int 0, .int 0, .int 0, .ref f_letters, .ref f_numbers, .ref f_isList, .ref f_bounds, .ref f_sizes, .ref f_lists, .ref f_told, .ref f_costs, .int 0, .ref f_times, .int 0, .ref f_bestOne, .ref f_basis, .int 0, .ref f_one, .int 0, .ref f_along, .ref f_now])), (f_text, .inl (cX, 300, .inl (upd (upd (upd (upd (upd (upd (fun _ => (0 : Int32)) (0 : Int32).toNatClampNeg (bm x 7).toInt32) (1 : Int32).toNatClampNeg (bm x 6).toInt32) (2 : Int32).toNatClampNeg (bm x 5).toInt32) (3 : Int32).toNatClampNeg (bm x 4).toInt32) (4 : Int32).toNatClampNeg (bm x 3).toInt32) (5 : Int32).toNatClampNeg (bm x 2).toInt32)))] := hD
  refine lv_aload_n hx hb d_MO_type_131 rfl (lv_at hl 3 rfl) ?_
  refine lv_dup hx hb d_MO_type_132 rfl ?_
  refine va_get (D := (dC, dI)) (ci := 9) (v := .int 5) (C := R_MO) (T := T_MO) (N := 36) hx hb hts in_MO hown hK hP 0 rfl rfl 2 (by decide) (hts _ k_888) (fun _ h9 => h9) rfl d_MO_type_133 ?_
  refine lv_iconst (v := 1) hx hb d_MO_type_136 (by decide) ?_
  refine lv_iadd hx hb d_MO_type_137 ?_
  refine W.eq (g2 := F0 m 138 ls [.int 6, .ref m0]) rfl ?_
  refine va_put (D := (dC, dI)) (ci := 9) (v := .int 6) (ty := .int) (C := R_MO) (T := T_MO) (N := 36) hx hb hts in_MO t_MO t_MO_ok n_MO hown hK hP hD hS 0 rfl rfl 2 (by decide) (hts _ k_888) (fun _ h9 => h9) rfl (by decide +kernel) rfl rfl (Nat.le_of_ble_eq_true rfl) d_MO_type_138 (fun H13 locs hP hD hS => ?_)
  have hP : va_P (dC, dI) cls [(m0, .inr (9, [.int 0, .ref f_text, .int 6, .int (-1), .ref f_kinds, .ref f_places, .ref f_values, .int 0, .ref f_draftLetters, .int 0, .int 0, .int 0, .ref f_draftNumbers, .ref f_draftSigns, .int 0, .int 0, .int 0, .int 0, .ref f_letters, .ref f_numbers, .ref f_isList, .ref f_bounds, .ref f_sizes, .ref f_lists, .ref f_told, .ref f_costs, .int 0, .ref f_times, .int 0, .ref f_bestOne, .ref f_basis, .int 0, .ref f_one, .int 0, .ref f_along, .ref f_now])), (f_text, .inl (cX, 300, .inl (upd (upd (upd (upd (upd (upd (fun _ => (0 : Int32)) (0 : Int32).toNatClampNeg (bm x 7).toInt32) (1 : Int32).toNatClampNeg (bm x 6).toInt32) (2 : Int32).toNatClampNeg (bm x 5).toInt32) (3 : Int32).toNatClampNeg (bm x 4).toInt32) (4 : Int32).toNatClampNeg (bm x 3).toInt32) (5 : Int32).toNatClampNeg (bm x 2).toInt32)))] H13 := hP
  have hD : va_D A [(m0, .inr (9, [.int 0, .ref f_text, .int 6, .int (-1), .ref f_kinds, .ref f_places, .ref f_values, .int 0, .ref f_draftLetters, .int 0, .int 0, .int 0, .ref f_draftNumbers, .ref f_draftSigns, .int 0, .int 0, .int 0, .int 0, .ref f_letters, .ref f_numbers, .ref f_isList, .ref f_bounds, .ref f_sizes, .ref f_lists, .ref f_told, .ref f_costs, .int 0, .ref f_times, .int 0, .ref f_bestOne, .ref f_basis, .int 0, .ref f_one, .int 0, .ref f_along, .ref f_now])), (f_text, .inl (cX, 300, .inl (upd (upd (upd (upd (upd (upd (fun _ => (0 : Int32)) (0 : Int32).toNatClampNeg (bm x 7).toInt32) (1 : Int32).toNatClampNeg (bm x 6).toInt32) (2 : Int32).toNatClampNeg (bm x 5).toInt32) (3 : Int32).toNatClampNeg (bm x 4).toInt32) (4 : Int32).toNatClampNeg (bm x 3).toInt32) (5 : Int32).toNatClampNeg (bm x 2).toInt32)))] := hD
  refine lv_iinc (k := 0) (v := 1) hx hb d_MO_type_141 hl rfl (by decide) (by decide) rfl (fun ls hl => ?_)
  have hl : lv_has ls 8 [(5, .int 1), (4, .int 1), (6, .long (bm x 7)), (0, .ref m0), (1, .long x), (3, .int 8)] := hl
  refine lv_goto (tgt := 105) hx hb d_MO_type_144 (by decide) ?_
  refine lv_iload hx hb d_MO_type_105 (lv_at hl 0 rfl) ?_
  refine lv_if_lt (tgt := 147) hx hb d_MO_type_107 (by decide) (fun h9 => absurd h9 (by decide)) (fun _ => ?_)
  refine lv_aload_n hx hb d_MO_type_110 rfl (lv_at hl 3 rfl) ?_
  refine va_get (D := (dC, dI)) (ci := 9) (v := .ref f_text) (C := R_MO) (T := T_MO) (N := 36) hx hb hts in_MO hown hK hP 0 rfl rfl 1 (by decide) (hts _ k_887) (fun _ h9 => h9) rfl d_MO_type_111 ?_
  refine lv_aload_n hx hb d_MO_type_114 rfl (lv_at hl 3 rfl) ?_
  refine va_get (D := (dC, dI)) (ci := 9) (v := .int 6) (C := R_MO) (T := T_MO) (N := 36) hx hb hts in_MO hown hK hP 0 rfl rfl 2 (by decide) (hts _ k_888) (fun _ h9 => h9) rfl d_MO_type_115 ?_
  refine lv_lload_n hx hb d_MO_type_118 rfl (lv_at hl 4 rfl) ?_
  refine lv_bipush (v := 8) hx hb d_MO_type_119 (by decide) ?_
  refine lv_iload hx hb d_MO_type_121 (lv_at hl 0 rfl) ?_
  refine lv_imul hx hb d_MO_type_123 ?_
  refine lv_lshr (v := (x >>> (((8 * 1) : Int32).toInt64 &&& 63))) hx hb d_MO_type_124 rfl ?_
  refine lv_ldc2 (v := 255) hx hb hown (hts _ k_1004) d_MO_type_125 ?_
  refine lv_land hx hb d_MO_type_128 ?_
  refine W.eq (g2 := F0 m 129 ls [.long (bm x 1), .int 6, .ref f_text]) rfl ?_
  refine lv_l2i (v := (bm x 1).toInt32) hx hb d_MO_type_129 rfl ?_
  refine va_iast hx hb hK hP hD hS 1 0 rfl rfl (show ¬ ((6 : Int32) < 0 ∨ 300 ≤ (6 : Int32).toNatClampNeg) from by decide) d_MO_type_130 (fun H14 locs hP hD hS => ?_)
  have hP : va_P (dC, dI) cls [(m0, .inr (9, [.int 0, .ref f_text, .int 6, .int (-1), .ref f_kinds, .ref f_places, .ref f_values, .int 0, .ref f_draftLetters, .int 0, .int 0, .int 0, .ref f_draftNumbers, .ref f_draftSigns, .int 0, .int 0, .int 0, .int 0, .ref f_letters, .ref f_numbers, .ref f_isList, .ref f_bounds, .ref f_sizes, .ref f_lists, .ref f_told, .ref f_costs, .int 0, .ref f_times, .int 0, .ref f_bestOne, .ref f_basis, .int 0, .ref f_one, .int 0, .ref f_along, .ref f_now])), (f_text, .inl (cX, 300, .inl (upd (upd (upd (upd (upd (upd (upd (fun _ => (0 : Int32)) (0 : Int32).toNatClampNeg (bm x 7).toInt32) (1 : Int32).toNatClampNeg (bm x 6).toInt32) (2 : Int32).toNatClampNeg (bm x 5).toInt32) (3 : Int32).toNatClampNeg (bm x 4).toInt32) (4 : Int32).toNatClampNeg (bm x 3).toInt32) (5 : Int32).toNatClampNeg (bm x 2).toInt32) (6 : Int32).toNatClampNeg (bm x 1).toInt32)))] H14 := hP
  have hD : va_D A [(m0, .inr (9, [.int 0, .ref f_text, .int 6, .int (-1), .ref f_kinds, .ref f_places, .ref f_values, .int 0, .ref f_draftLetters, .int 0, .int 0, .int 0, .ref f_draftNumbers, .ref f_draftSigns, .int 0, .int 0, .int 0, .int 0, .ref f_letters, .ref f_numbers, .ref f_isList, .ref f_bounds, .ref f_sizes, .ref f_lists, .ref f_told, .ref f_costs, .int 0, .ref f_times, .int 0, .ref f_bestOne, .ref f_basis, .int 0, .ref f_one, .int 0, .ref f_along, .ref f_now])), (f_text, .inl (cX, 300, .inl (upd (upd (upd (upd (upd (upd (upd (fun _ => (0 : Int32)) (0 : Int32).toNatClampNeg (bm x 7).toInt32) (1 : Int32).toNatClampNeg (bm x 6).toInt32) (2 : Int32).toNatClampNeg (bm x 5).toInt32) (3 : Int32).toNatClampNeg (bm x 4).toInt32) (4 : Int32).toNatClampNeg (bm x 3).toInt32) (5 : Int32).toNatClampNeg (bm x 2).toInt32) (6 : Int32).toNatClampNeg (bm x 1).toInt32)))] := hD
  refine lv_aload_n hx hb d_MO_type_131 rfl (lv_at hl 3 rfl) ?_
  refine lv_dup hx hb d_MO_type_132 rfl ?_
  refine va_get (D := (dC, dI)) (ci := 9) (v := .int 6) (C := R_MO) (T := T_MO) (N := 36) hx hb hts in_MO hown hK hP 0 rfl rfl 2 (by decide) (hts _ k_888) (fun _ h9 => h9) rfl d_MO_type_133 ?_
  refine lv_iconst (v := 1) hx hb d_MO_type_136 (by decide) ?_
  refine lv_iadd hx hb d_MO_type_137 ?_
  refine W.eq (g2 := F0 m 138 ls [.int 7, .ref m0]) rfl ?_
  refine va_put (D := (dC, dI)) (ci := 9) (v := .int 7) (ty := .int) (C := R_MO) (T := T_MO) (N := 36) hx hb hts in_MO t_MO t_MO_ok n_MO hown hK hP hD hS 0 rfl rfl 2 (by decide) (hts _ k_888) (fun _ h9 => h9) rfl (by decide +kernel) rfl rfl (Nat.le_of_ble_eq_true rfl) d_MO_type_138 (fun H15 locs hP hD hS => ?_)
  have hP : va_P (dC, dI) cls [(m0, .inr (9, [.int 0, .ref f_text, .int 7, .int (-1), .ref f_kinds, .ref f_places, .ref f_values, .int 0, .ref f_draftLetters, .int 0, .int 0, .int 0, .ref f_draftNumbers, .ref f_draftSigns, .int 0, .int 0, .int 0, .int 0, .ref f_letters, .ref f_numbers, .ref f_isList, .ref f_bounds, .ref f_sizes, .ref f_lists, .ref f_told, .ref f_costs, .int 0, .ref f_times, .int 0, .ref f_bestOne, .ref f_basis, .int 0, .ref f_one, .int 0, .ref f_along, .ref f_now])), (f_text, .inl (cX, 300, .inl (upd (upd (upd (upd (upd (upd (upd (fun _ => (0 : Int32)) (0 : Int32).toNatClampNeg (bm x 7).toInt32) (1 : Int32).toNatClampNeg (bm x 6).toInt32) (2 : Int32).toNatClampNeg (bm x 5).toInt32) (3 : Int32).toNatClampNeg (bm x 4).toInt32) (4 : Int32).toNatClampNeg (bm x 3).toInt32) (5 : Int32).toNatClampNeg (bm x 2).toInt32) (6 : Int32).toNatClampNeg (bm x 1).toInt32)))] H15 := hP
  have hD : va_D A [(m0, .inr (9, [.int 0, .ref f_text, .int 7, .int (-1), .ref f_kinds, .ref f_places, .ref f_values, .int 0, .ref f_draftLetters, .int 0, .int 0, .int 0, .ref f_draftNumbers, .ref f_draftSigns, .int 0, .int 0, .int 0, .int 0, .ref f_letters, .ref f_numbers, .ref f_isList, .ref f_bounds, .ref f_sizes, .ref f_lists, .ref f_told, .ref f_costs, .int 0, .ref f_times, .int 0, .ref f_bestOne, .ref f_basis, .int 0, .ref f_one, .int 0, .ref f_along, .ref f_now])), (f_text, .inl (cX, 300, .inl (upd (upd (upd (upd (upd (upd (upd (fun _ => (0 : Int32)) (0 : Int32).toNatClampNeg (bm x 7).toInt32) (1 : Int32).toNatClampNeg (bm x 6).toInt32) (2 : Int32).toNatClampNeg (bm x 5).toInt32) (3 : Int32).toNatClampNeg (bm x 4).toInt32) (4 : Int32).toNatClampNeg (bm x 3).toInt32) (5 : Int32).toNatClampNeg (bm x 2).toInt32) (6 : Int32).toNatClampNeg (bm x 1).toInt32)))] := hD
  refine lv_iinc (k := 0) (v := 0) hx hb d_MO_type_141 hl rfl (by decide) (by decide) rfl (fun ls hl => ?_)
  have hl : lv_has ls 8 [(5, .int 0), (4, .int 1), (6, .long (bm x 7)), (0, .ref m0), (1, .long x), (3, .int 8)] := hl
  refine lv_goto (tgt := 105) hx hb d_MO_type_144 (by decide) ?_
  refine lv_iload hx hb d_MO_type_105 (lv_at hl 0 rfl) ?_
  refine lv_if_lt (tgt := 147) hx hb d_MO_type_107 (by decide) (fun h9 => absurd h9 (by decide)) (fun _ => ?_)
  refine lv_aload_n hx hb d_MO_type_110 rfl (lv_at hl 3 rfl) ?_
  refine va_get (D := (dC, dI)) (ci := 9) (v := .ref f_text) (C := R_MO) (T := T_MO) (N := 36) hx hb hts in_MO hown hK hP 0 rfl rfl 1 (by decide) (hts _ k_887) (fun _ h9 => h9) rfl d_MO_type_111 ?_
  refine lv_aload_n hx hb d_MO_type_114 rfl (lv_at hl 3 rfl) ?_
  refine va_get (D := (dC, dI)) (ci := 9) (v := .int 7) (C := R_MO) (T := T_MO) (N := 36) hx hb hts in_MO hown hK hP 0 rfl rfl 2 (by decide) (hts _ k_888) (fun _ h9 => h9) rfl d_MO_type_115 ?_
  refine lv_lload_n hx hb d_MO_type_118 rfl (lv_at hl 4 rfl) ?_
  refine lv_bipush (v := 8) hx hb d_MO_type_119 (by decide) ?_
  refine lv_iload hx hb d_MO_type_121 (lv_at hl 0 rfl) ?_
  refine lv_imul hx hb d_MO_type_123 ?_
  refine lv_lshr (v := (x >>> (((8 * 0) : Int32).toInt64 &&& 63))) hx hb d_MO_type_124 rfl ?_
  refine lv_ldc2 (v := 255) hx hb hown (hts _ k_1004) d_MO_type_125 ?_
  refine lv_land hx hb d_MO_type_128 ?_
  refine W.eq (g2 := F0 m 129 ls [.long (bm x 0), .int 7, .ref f_text]) rfl ?_
  refine lv_l2i (v := (bm x 0).toInt32) hx hb d_MO_type_129 rfl ?_
  refine va_iast hx hb hK hP hD hS 1 0 rfl rfl (show ¬ ((7 : Int32) < 0 ∨ 300 ≤ (7 : Int32).toNatClampNeg) from by decide) d_MO_type_130 (fun H16 locs hP hD hS => ?_)
  have hP : va_P (dC, dI) cls [(m0, .inr (9, [.int 0, .ref f_text, .int 7, .int (-1), .ref f_kinds, .ref f_places, .ref f_values, .int 0, .ref f_draftLetters, .int 0, .int 0, .int 0, .ref f_draftNumbers, .ref f_draftSigns, .int 0, .int 0, .int 0, .int 0, .ref f_letters, .ref f_numbers, .ref f_isList, .ref f_bounds, .ref f_sizes, .ref f_lists, .ref f_told, .ref f_costs, .int 0, .ref f_times, .int 0, .ref f_bestOne, .ref f_basis, .int 0, .ref f_one, .int 0, .ref f_along, .ref f_now])), (f_text, .inl (cX, 300, .inl (upd (upd (upd (upd (upd (upd (upd (upd (fun _ => (0 : Int32)) (0 : Int32).toNatClampNeg (bm x 7).toInt32) (1 : Int32).toNatClampNeg (bm x 6).toInt32) (2 : Int32).toNatClampNeg (bm x 5).toInt32) (3 : Int32).toNatClampNeg (bm x 4).toInt32) (4 : Int32).toNatClampNeg (bm x 3).toInt32) (5 : Int32).toNatClampNeg (bm x 2).toInt32) (6 : Int32).toNatClampNeg (bm x 1).toInt32) (7 : Int32).toNatClampNeg (bm x 0).toInt32)))] H16 := hP
  have hD : va_D A [(m0, .inr (9, [.int 0, .ref f_text, .int 7, .int (-1), .ref f_kinds, .ref f_places, .ref f_values, .int 0, .ref f_draftLetters, .int 0, .int 0, .int 0, .ref f_draftNumbers, .ref f_draftSigns, .int 0, .int 0, .int 0, .int 0, .ref f_letters, .ref f_numbers, .ref f_isList, .ref f_bounds, .ref f_sizes, .ref f_lists, .ref f_told, .ref f_costs, .int 0, .ref f_times, .int 0, .ref f_bestOne, .ref f_basis, .int 0, .ref f_one, .int 0, .ref f_along, .ref f_now])), (f_text, .inl (cX, 300, .inl (upd (upd (upd (upd (upd (upd (upd (upd (fun _ => (0 : Int32)) (0 : Int32).toNatClampNeg (bm x 7).toInt32) (1 : Int32).toNatClampNeg (bm x 6).toInt32) (2 : Int32).toNatClampNeg (bm x 5).toInt32) (3 : Int32).toNatClampNeg (bm x 4).toInt32) (4 : Int32).toNatClampNeg (bm x 3).toInt32) (5 : Int32).toNatClampNeg (bm x 2).toInt32) (6 : Int32).toNatClampNeg (bm x 1).toInt32) (7 : Int32).toNatClampNeg (bm x 0).toInt32)))] := hD
  refine lv_aload_n hx hb d_MO_type_131 rfl (lv_at hl 3 rfl) ?_
  refine lv_dup hx hb d_MO_type_132 rfl ?_
  refine va_get (D := (dC, dI)) (ci := 9) (v := .int 7) (C := R_MO) (T := T_MO) (N := 36) hx hb hts in_MO hown hK hP 0 rfl rfl 2 (by decide) (hts _ k_888) (fun _ h9 => h9) rfl d_MO_type_133 ?_
  refine lv_iconst (v := 1) hx hb d_MO_type_136 (by decide) ?_
  refine lv_iadd hx hb d_MO_type_137 ?_
  refine W.eq (g2 := F0 m 138 ls [.int 8, .ref m0]) rfl ?_
  refine va_put (D := (dC, dI)) (ci := 9) (v := .int 8) (ty := .int) (C := R_MO) (T := T_MO) (N := 36) hx hb hts in_MO t_MO t_MO_ok n_MO hown hK hP hD hS 0 rfl rfl 2 (by decide) (hts _ k_888) (fun _ h9 => h9) rfl (by decide +kernel) rfl rfl (Nat.le_of_ble_eq_true rfl) d_MO_type_138 (fun H17 locs hP hD hS => ?_)
  have hP : va_P (dC, dI) cls [(m0, .inr (9, [.int 0, .ref f_text, .int 8, .int (-1), .ref f_kinds, .ref f_places, .ref f_values, .int 0, .ref f_draftLetters, .int 0, .int 0, .int 0, .ref f_draftNumbers, .ref f_draftSigns, .int 0, .int 0, .int 0, .int 0, .ref f_letters, .ref f_numbers, .ref f_isList, .ref f_bounds, .ref f_sizes, .ref f_lists, .ref f_told, .ref f_costs, .int 0, .ref f_times, .int 0, .ref f_bestOne, .ref f_basis, .int 0, .ref f_one, .int 0, .ref f_along, .ref f_now])), (f_text, .inl (cX, 300, .inl (upd (upd (upd (upd (upd (upd (upd (upd (fun _ => (0 : Int32)) (0 : Int32).toNatClampNeg (bm x 7).toInt32) (1 : Int32).toNatClampNeg (bm x 6).toInt32) (2 : Int32).toNatClampNeg (bm x 5).toInt32) (3 : Int32).toNatClampNeg (bm x 4).toInt32) (4 : Int32).toNatClampNeg (bm x 3).toInt32) (5 : Int32).toNatClampNeg (bm x 2).toInt32) (6 : Int32).toNatClampNeg (bm x 1).toInt32) (7 : Int32).toNatClampNeg (bm x 0).toInt32)))] H17 := hP
  have hD : va_D A [(m0, .inr (9, [.int 0, .ref f_text, .int 8, .int (-1), .ref f_kinds, .ref f_places, .ref f_values, .int 0, .ref f_draftLetters, .int 0, .int 0, .int 0, .ref f_draftNumbers, .ref f_draftSigns, .int 0, .int 0, .int 0, .int 0, .ref f_letters, .ref f_numbers, .ref f_isList, .ref f_bounds, .ref f_sizes, .ref f_lists, .ref f_told, .ref f_costs, .int 0, .ref f_times, .int 0, .ref f_bestOne, .ref f_basis, .int 0, .ref f_one, .int 0, .ref f_along, .ref f_now])), (f_text, .inl (cX, 300, .inl (upd (upd (upd (upd (upd (upd (upd (upd (fun _ => (0 : Int32)) (0 : Int32).toNatClampNeg (bm x 7).toInt32) (1 : Int32).toNatClampNeg (bm x 6).toInt32) (2 : Int32).toNatClampNeg (bm x 5).toInt32) (3 : Int32).toNatClampNeg (bm x 4).toInt32) (4 : Int32).toNatClampNeg (bm x 3).toInt32) (5 : Int32).toNatClampNeg (bm x 2).toInt32) (6 : Int32).toNatClampNeg (bm x 1).toInt32) (7 : Int32).toNatClampNeg (bm x 0).toInt32)))] := hD
  refine lv_iinc (k := 0) (v := (-1)) hx hb d_MO_type_141 hl rfl (by decide) (by decide) rfl (fun ls hl => ?_)
  have hl : lv_has ls 8 [(5, .int (-1)), (4, .int 1), (6, .long (bm x 7)), (0, .ref m0), (1, .long x), (3, .int 8)] := hl
  refine lv_goto (tgt := 105) hx hb d_MO_type_144 (by decide) ?_
  refine lv_iload hx hb d_MO_type_105 (lv_at hl 0 rfl) ?_
  refine lv_if_lt (tgt := 147) hx hb d_MO_type_107 (by decide) (fun _ => ?_) (fun h9 => absurd (by decide) h9)
  refine lv_aload_n hx hb d_MO_type_147 rfl (lv_at hl 3 rfl) ?_
  refine va_get (D := (dC, dI)) (ci := 9) (v := .int 8) (C := R_MO) (T := T_MO) (N := 36) hx hb hts in_MO hown hK hP 0 rfl rfl 2 (by decide) (hts _ k_888) (fun _ h9 => h9) rfl d_MO_type_148 ?_
  have hP9 := hP.sub (ws' := [(m0, .inr (9, [.int 0, .ref f_text, .int 8, .int (-1), .ref f_kinds, .ref f_places, .ref f_values, .int 0, .ref f_draftLetters, .int 0, .int 0, .int 0, .ref f_draftNumbers, .ref f_draftSigns, .int 0, .int 0, .int 0, .int 0, .ref f_letters, .ref f_numbers, .ref f_isList, .ref f_bounds, .ref f_sizes, .ref f_lists, .ref f_told, .ref f_costs, .int 0, .ref f_times, .int 0, .ref f_bestOne, .ref f_basis, .int 0, .ref f_one, .int 0, .ref f_along, .ref f_now]))]) [0] rfl
  have hD9 := hD.sub (ws' := [(m0, .inr (9, [.int 0, .ref f_text, .int 8, .int (-1), .ref f_kinds, .ref f_places, .ref f_values, .int 0, .ref f_draftLetters, .int 0, .int 0, .int 0, .ref f_draftNumbers, .ref f_draftSigns, .int 0, .int 0, .int 0, .int 0, .ref f_letters, .ref f_numbers, .ref f_isList, .ref f_bounds, .ref f_sizes, .ref f_lists, .ref f_told, .ref f_costs, .int 0, .ref f_times, .int 0, .ref f_bestOne, .ref f_basis, .int 0, .ref f_one, .int 0, .ref f_along, .ref f_now]))]) [0] (by decide) rfl
  have hK9 := hK.sub (tys' := [(cX, .int)]) [0] rfl
  exact W.iret (v := 8) hx hb hr (fun t ht hW => ⟨⟨8, (), rfl, rfl, by rw [ht]; exact hP9, va_K.moved hW.alike hK9, hD9⟩, hS.F ht⟩) hS.2.2 d_MO_type_151

set_option maxHeartbeats 4000000 in
set_option maxRecDepth 100000 in
theorem c_MO_type_8n (l : Launch) (dC : Nat → ClassId) (dI : Nat → Nat → Nat) (m0 : Nat) (f_text : Nat) (f_kinds : Nat) (f_places : Nat) (f_values : Nat) (f_draftLetters : Nat) (f_draftNumbers : Nat) (f_draftSigns : Nat) (f_letters : Nat) (f_numbers : Nat) (f_isList : Nat) (f_bounds : Nat) (f_sizes : Nat) (f_lists : Nat) (f_told : Nat) (f_costs : Nat) (f_times : Nat) (f_bestOne : Nat) (f_basis : Nat) (f_one : Nat) (f_along : Nat) (f_now : Nat) (th : Int32) (x : Int64) (sz : Nat) (g : ¬ (ok x 0 ∧ ok x 8 ∧ ok x 16 ∧ ok x 24 ∧ ok x 32 ∧ ok x 40 ∧ ok x 48 ∧ ok x 56)) : Met l y_MO_type (Cond.code y_MO_type b_MO_type 8 (Option.some Jvm.ClassFile.FieldType.int) :: wd) { frames := 0, cells := 0, slots := 0, locals := 0 } (va_Pc [.ref m0, .long x, .int 8] (fun U => U.heap.size = sz ∧ va_P (dC, dI) cls [(m0, .inr (9, [.int th, .ref f_text, .int 0, .int (-1), .ref f_kinds, .ref f_places, .ref f_values, .int 0, .ref f_draftLetters, .int 0, .int 0, .int 0, .ref f_draftNumbers, .ref f_draftSigns, .int 0, .int 0, .int 0, .int 0, .ref f_letters, .ref f_numbers, .ref f_isList, .ref f_bounds, .ref f_sizes, .ref f_lists, .ref f_told, .ref f_costs, .int 0, .ref f_times, .int 0, .ref f_bestOne, .ref f_basis, .int 0, .ref f_one, .int 0, .ref f_along, .ref f_now]))] U.heap ∧ va_K (dC, dI) cls [] U ∧ va_D (fun _ => True) [(m0, .inr (9, [.int th, .ref f_text, .int 0, .int (-1), .ref f_kinds, .ref f_places, .ref f_values, .int 0, .ref f_draftLetters, .int 0, .int 0, .int 0, .ref f_draftNumbers, .ref f_draftSigns, .int 0, .int 0, .int 0, .int 0, .ref f_letters, .ref f_numbers, .ref f_isList, .ref f_bounds, .ref f_sizes, .ref f_lists, .ref f_told, .ref f_costs, .int 0, .ref f_times, .int 0, .ref f_bestOne, .ref f_basis, .int 0, .ref f_one, .int 0, .ref f_along, .ref f_now]))] ∧ nw_ok U)) (va_Qi (fun r (_ : Unit) => r = (-1)) (fun (_ : Unit) t => va_P (dC, dI) cls [(m0, .inr (9, [.int 0, .ref f_text, .int 0, .int (-1), .ref f_kinds, .ref f_places, .ref f_values, .int 0, .ref f_draftLetters, .int 0, .int 0, .int 0, .ref f_draftNumbers, .ref f_draftSigns, .int 0, .int 0, .int 0, .int 0, .ref f_letters, .ref f_numbers, .ref f_isList, .ref f_bounds, .ref f_sizes, .ref f_lists, .ref f_told, .ref f_costs, .int 0, .ref f_times, .int 0, .ref f_bestOne, .ref f_basis, .int 0, .ref f_one, .int 0, .ref f_along, .ref f_now]))] t.heap ∧ va_K (dC, dI) cls [] t ∧ va_D (va_A [(m0, .inr (9, [.int th, .ref f_text, .int 0, .int (-1), .ref f_kinds, .ref f_places, .ref f_values, .int 0, .ref f_draftLetters, .int 0, .int 0, .int 0, .ref f_draftNumbers, .ref f_draftSigns, .int 0, .int 0, .int 0, .int 0, .ref f_letters, .ref f_numbers, .ref f_isList, .ref f_bounds, .ref f_sizes, .ref f_lists, .ref f_told, .ref f_costs, .int 0, .ref f_times, .int 0, .ref f_bestOne, .ref f_basis, .int 0, .ref f_one, .int 0, .ref f_along, .ref f_now]))] sz) [(m0, .inr (9, [.int 0, .ref f_text, .int 0, .int (-1), .ref f_kinds, .ref f_places, .ref f_values, .int 0, .ref f_draftLetters, .int 0, .int 0, .int 0, .ref f_draftNumbers, .ref f_draftSigns, .int 0, .int 0, .int 0, .int 0, .ref f_letters, .ref f_numbers, .ref f_isList, .ref f_bounds, .ref f_sizes, .ref f_lists, .ref f_told, .ref f_costs, .int 0, .ref f_times, .int 0, .ref f_bestOne, .ref f_basis, .int 0, .ref f_one, .int 0, .ref f_along, .ref f_now]))]) (va_A [(m0, .inr (9, [.int th, .ref f_text, .int 0, .int (-1), .ref f_kinds, .ref f_places, .ref f_values, .int 0, .ref f_draftLetters, .int 0, .int 0, .int 0, .ref f_draftNumbers, .ref f_draftSigns, .int 0, .int 0, .int 0, .int 0, .ref f_letters, .ref f_numbers, .ref f_isList, .ref f_bounds, .ref f_sizes, .ref f_lists, .ref f_told, .ref f_costs, .int 0, .ref f_times, .int 0, .ref f_bestOne, .ref f_basis, .int 0, .ref f_one, .int 0, .ref f_along, .ref f_now]))] sz)) 0 0 (va_A [(m0, .inr (9, [.int th, .ref f_text, .int 0, .int (-1), .ref f_kinds, .ref f_places, .ref f_values, .int 0, .ref f_draftLetters, .int 0, .int 0, .int 0, .ref f_draftNumbers, .ref f_draftSigns, .int 0, .int 0, .int 0, .int 0, .ref f_letters, .ref f_numbers, .ref f_isList, .ref f_bounds, .ref f_sizes, .ref f_lists, .ref f_told, .ref f_costs, .int 0, .ref f_times, .int 0, .ref f_bestOne, .ref f_basis, .int 0, .ref f_one, .int 0, .ref f_along, .ref f_now]))] sz) := by
  refine Met.ofW (cc := b_MO_type) (maxL := 8) (ret := (Option.some Jvm.ClassFile.FieldType.int)) (by decide) rfl ?_
  intro p e s m args below meth c s₁ B hml hv
  obtain ⟨rfl, hsz, hP, hK, hD0, hN⟩ := hv
  have hx := B.exec
  have hb := B.bytes
  have hr := B.returns
  have hlocks := B.notSynchronized
  have hts : ∀ w ∈ wd, w.before ([.ref m0, .long x, .int 8] : List Value).toArray s = true := fun w hw => atoms_spec (ws := (Cond.code y_MO_type b_MO_type 8 (Option.some Jvm.ClassFile.FieldType.int) :: wd)) B.pre w (List.mem_cons_of_mem _ hw)
  have hown : s.vm.findClass "LeastSolutionsModel" = some m.cls := findClass_of_methodNamed B.named
  subst hsz
  have hD := hD0.self (sz := s.heap.size)
  generalize hAe : va_A [(m0, .inr (9, [.int th, .ref f_text, .int 0, .int (-1), .ref f_kinds, .ref f_places, .ref f_values, .int 0, .ref f_draftLetters, .int 0, .int 0, .int 0, .ref f_draftNumbers, .ref f_draftSigns, .int 0, .int 0, .int 0, .int 0, .ref f_letters, .ref f_numbers, .ref f_isList, .ref f_bounds, .ref f_sizes, .ref f_lists, .ref f_told, .ref f_costs, .int 0, .ref f_times, .int 0, .ref f_bestOne, .ref f_basis, .int 0, .ref f_one, .int 0, .ref f_along, .ref f_now]))] s.heap.size = A at hD ⊢
  have hA : ∀ q : Nat, s.heap.size ≤ q → A q := fun q h => by rw [← hAe]; exact Or.inr h
  have hS : va_S A s.heap s.heap [] := va_S.rf
  have hl := lv_entry ([.ref m0, .long x, .int 8]) (n := 8) (Nat.le_of_ble_eq_true rfl)
  rw [lg_entry_eq]
  generalize (lg_sl ([.ref m0, .long x, .int 8]) ++ List.replicate (8 - (lg_sl ([.ref m0, .long x, .int 8])).length) Slot.unset).toArray = ls at hl ⊢
  have hl : lv_has ls 8 [(0, .ref m0), (1, .long x), (3, .int 8)] := hl
  refine lv_aload_n hx hb d_MO_type_0 rfl (lv_at hl 0 rfl) ?_
  refine lv_iconst (v := 0) hx hb d_MO_type_1 (by decide) ?_
  refine va_put (D := (dC, dI)) (ci := 9) (v := .int 0) (ty := .int) (C := R_MO) (T := T_MO) (N := 36) hx hb hts in_MO t_MO t_MO_ok n_MO hown hK hP hD hS 0 rfl rfl 0 (by decide) (hts _ k_886) (fun _ h9 => h9) rfl (by decide +kernel) rfl rfl (Nat.le_of_ble_eq_true rfl) d_MO_type_2 (fun H1 locs hP hD hS => ?_)
  have hP : va_P (dC, dI) cls [(m0, .inr (9, [.int 0, .ref f_text, .int 0, .int (-1), .ref f_kinds, .ref f_places, .ref f_values, .int 0, .ref f_draftLetters, .int 0, .int 0, .int 0, .ref f_draftNumbers, .ref f_draftSigns, .int 0, .int 0, .int 0, .int 0, .ref f_letters, .ref f_numbers, .ref f_isList, .ref f_bounds, .ref f_sizes, .ref f_lists, .ref f_told, .ref f_costs, .int 0, .ref f_times, .int 0, .ref f_bestOne, .ref f_basis, .int 0, .ref f_one, .int 0, .ref f_along, .ref f_now]))] H1 := hP
  have hD : va_D A [(m0, .inr (9, [.int 0, .ref f_text, .int 0, .int (-1), .ref f_kinds, .ref f_places, .ref f_values, .int 0, .ref f_draftLetters, .int 0, .int 0, .int 0, .ref f_draftNumbers, .ref f_draftSigns, .int 0, .int 0, .int 0, .int 0, .ref f_letters, .ref f_numbers, .ref f_isList, .ref f_bounds, .ref f_sizes, .ref f_lists, .ref f_told, .ref f_costs, .int 0, .ref f_times, .int 0, .ref f_bestOne, .ref f_basis, .int 0, .ref f_one, .int 0, .ref f_along, .ref f_now]))] := hD
  refine lv_iload_n hx hb d_MO_type_5 rfl (lv_at hl 2 rfl) ?_
  refine lv_iconst (v := 1) hx hb d_MO_type_6 (by decide) ?_
  refine lv_icmp_lt (tgt := 32) hx hb d_MO_type_7 (by decide) (fun h9 => absurd h9 (by decide)) (fun _ => ?_)
  refine lv_iload_n hx hb d_MO_type_10 rfl (lv_at hl 2 rfl) ?_
  refine lv_bipush (v := 8) hx hb d_MO_type_11 (by decide) ?_
  refine lv_icmp_gt (tgt := 32) hx hb d_MO_type_13 (by decide) (fun h9 => absurd h9 (by decide)) (fun _ => ?_)
  refine lv_aload_n hx hb d_MO_type_16 rfl (lv_at hl 0 rfl) ?_
  refine va_get (D := (dC, dI)) (ci := 9) (v := .int 0) (C := R_MO) (T := T_MO) (N := 36) hx hb hts in_MO hown hK hP 0 rfl rfl 2 (by decide) (hts _ k_888) (fun _ h9 => h9) rfl d_MO_type_17 ?_
  refine lv_iload_n hx hb d_MO_type_20 rfl (lv_at hl 2 rfl) ?_
  refine lv_iadd hx hb d_MO_type_21 ?_
  refine W.eq (g2 := F0 m 22 ls [.int 8]) rfl ?_
  refine lv_sipush (v := 300) hx hb d_MO_type_22 (by decide) ?_
  refine lv_icmp_gt (tgt := 32) hx hb d_MO_type_25 (by decide) (fun h9 => absurd h9 (by decide)) (fun _ => ?_)
  refine lv_iconst (v := 1) hx hb d_MO_type_28 (by decide) ?_
  refine lv_goto (tgt := 33) hx hb d_MO_type_29 (by decide) ?_
  refine lv_istore hx hb d_MO_type_33 hl (by decide) rfl (fun ls hl => ?_)
  have hl : lv_has ls 8 [(4, .int 1), (0, .ref m0), (1, .long x), (3, .int 8)] := hl
  refine lv_iconst (v := 0) hx hb d_MO_type_35 (by decide) ?_
  refine lv_istore hx hb d_MO_type_36 hl (by decide) rfl (fun ls hl => ?_)
  have hl : lv_has ls 8 [(5, .int 0), (4, .int 1), (0, .ref m0), (1, .long x), (3, .int 8)] := hl
  refine lv_iload hx hb d_MO_type_38 (lv_at hl 1 rfl) ?_
  refine lv_if_eq (tgt := 93) hx hb d_MO_type_40 (by decide) (fun h9 => absurd h9 (by decide)) (fun _ => ?_)
  refine lv_iload hx hb d_MO_type_43 (lv_at hl 0 rfl) ?_
  refine lv_iload_n hx hb d_MO_type_45 rfl (lv_at hl 4 rfl) ?_
  refine lv_icmp_ge (tgt := 93) hx hb d_MO_type_46 (by decide) (fun h9 => absurd h9 (by decide)) (fun _ => ?_)
  refine lv_lload_n hx hb d_MO_type_49 rfl (lv_at hl 3 rfl) ?_
  refine lv_bipush (v := 8) hx hb d_MO_type_50 (by decide) ?_
  refine lv_iload hx hb d_MO_type_52 (lv_at hl 0 rfl) ?_
  refine lv_imul hx hb d_MO_type_54 ?_
  refine lv_lshr (v := (x >>> (((8 * 0) : Int32).toInt64 &&& 63))) hx hb d_MO_type_55 rfl ?_
  refine lv_ldc2 (v := 255) hx hb hown (hts _ k_1004) d_MO_type_56 ?_
  refine lv_land hx hb d_MO_type_59 ?_
  refine W.eq (g2 := F0 m 60 ls [.long (bm x 0)]) rfl ?_
  refine lv_lstore hx hb d_MO_type_60 hl (by decide) rfl (fun ls hl => ?_)
  have hl : lv_has ls 8 [(6, .long (bm x 0)), (5, .int 0), (4, .int 1), (0, .ref m0), (1, .long x), (3, .int 8)] := hl
  refine lv_lload hx hb d_MO_type_62 (lv_at hl 0 rfl) ?_
  refine lv_ldc2 (v := 32) hx hb hown (hts _ k_1005) d_MO_type_64 ?_
  refine W.lcmp hx hb d_MO_type_67 ?_
  refine lv_if_lt (tgt := 84) hx hb d_MO_type_68 (by decide) (fun hc1 => ?_) (fun hc1 => ?_)
  · refine lv_iconst (v := 0) hx hb d_MO_type_84 (by decide) ?_
    refine lv_istore hx hb d_MO_type_85 hl (by decide) rfl (fun ls hl => ?_)
    have hl : lv_has ls 8 [(4, .int 0), (6, .long (bm x 0)), (5, .int 0), (0, .ref m0), (1, .long x), (3, .int 8)] := hl
    refine lv_iinc (k := 2) (v := 1) hx hb d_MO_type_87 hl rfl (by decide) (by decide) rfl (fun ls hl => ?_)
    have hl : lv_has ls 8 [(5, .int 1), (4, .int 0), (6, .long (bm x 0)), (0, .ref m0), (1, .long x), (3, .int 8)] := hl
    refine lv_goto (tgt := 38) hx hb d_MO_type_90 (by decide) ?_
    refine lv_iload hx hb d_MO_type_38 (lv_at hl 1 rfl) ?_
    refine lv_if_eq (tgt := 93) hx hb d_MO_type_40 (by decide) (fun _ => ?_) (fun h9 => absurd (by decide) h9)
    refine lv_iload hx hb d_MO_type_93 (lv_at hl 1 rfl) ?_
    refine lv_if_ne (tgt := 100) hx hb d_MO_type_95 (by decide) (fun h9 => absurd (by decide) h9) (fun _ => ?_)
    refine lv_iconst (v := (-1)) hx hb d_MO_type_98 (by decide) ?_
    have hP9 := hP.sub (ws' := [(m0, .inr (9, [.int 0, .ref f_text, .int 0, .int (-1), .ref f_kinds, .ref f_places, .ref f_values, .int 0, .ref f_draftLetters, .int 0, .int 0, .int 0, .ref f_draftNumbers, .ref f_draftSigns, .int 0, .int 0, .int 0, .int 0, .ref f_letters, .ref f_numbers, .ref f_isList, .ref f_bounds, .ref f_sizes, .ref f_lists, .ref f_told, .ref f_costs, .int 0, .ref f_times, .int 0, .ref f_bestOne, .ref f_basis, .int 0, .ref f_one, .int 0, .ref f_along, .ref f_now]))]) [0] rfl
    have hD9 := hD.sub (ws' := [(m0, .inr (9, [.int 0, .ref f_text, .int 0, .int (-1), .ref f_kinds, .ref f_places, .ref f_values, .int 0, .ref f_draftLetters, .int 0, .int 0, .int 0, .ref f_draftNumbers, .ref f_draftSigns, .int 0, .int 0, .int 0, .int 0, .ref f_letters, .ref f_numbers, .ref f_isList, .ref f_bounds, .ref f_sizes, .ref f_lists, .ref f_told, .ref f_costs, .int 0, .ref f_times, .int 0, .ref f_bestOne, .ref f_basis, .int 0, .ref f_one, .int 0, .ref f_along, .ref f_now]))]) [0] (by decide) rfl
    have hK9 := hK.sub (tys' := []) [] rfl
    exact W.iret (v := (-1)) hx hb hr (fun t ht hW => ⟨⟨(-1), (), rfl, rfl, by rw [ht]; exact hP9, va_K.moved hW.alike hK9, hD9⟩, hS.F ht⟩) hS.2.2 d_MO_type_99
  · refine lv_lload hx hb d_MO_type_71 (lv_at hl 0 rfl) ?_
    refine lv_ldc2 (v := 126) hx hb hown (hts _ k_1006) d_MO_type_73 ?_
    refine W.lcmp hx hb d_MO_type_76 ?_
    refine lv_if_gt (tgt := 84) hx hb d_MO_type_77 (by decide) (fun hc2 => ?_) (fun hc2 => ?_)
    · refine lv_iconst (v := 0) hx hb d_MO_type_84 (by decide) ?_
      refine lv_istore hx hb d_MO_type_85 hl (by decide) rfl (fun ls hl => ?_)
      have hl : lv_has ls 8 [(4, .int 0), (6, .long (bm x 0)), (5, .int 0), (0, .ref m0), (1, .long x), (3, .int 8)] := hl
      refine lv_iinc (k := 2) (v := 1) hx hb d_MO_type_87 hl rfl (by decide) (by decide) rfl (fun ls hl => ?_)
      have hl : lv_has ls 8 [(5, .int 1), (4, .int 0), (6, .long (bm x 0)), (0, .ref m0), (1, .long x), (3, .int 8)] := hl
      refine lv_goto (tgt := 38) hx hb d_MO_type_90 (by decide) ?_
      refine lv_iload hx hb d_MO_type_38 (lv_at hl 1 rfl) ?_
      refine lv_if_eq (tgt := 93) hx hb d_MO_type_40 (by decide) (fun _ => ?_) (fun h9 => absurd (by decide) h9)
      refine lv_iload hx hb d_MO_type_93 (lv_at hl 1 rfl) ?_
      refine lv_if_ne (tgt := 100) hx hb d_MO_type_95 (by decide) (fun h9 => absurd (by decide) h9) (fun _ => ?_)
      refine lv_iconst (v := (-1)) hx hb d_MO_type_98 (by decide) ?_
      have hP9 := hP.sub (ws' := [(m0, .inr (9, [.int 0, .ref f_text, .int 0, .int (-1), .ref f_kinds, .ref f_places, .ref f_values, .int 0, .ref f_draftLetters, .int 0, .int 0, .int 0, .ref f_draftNumbers, .ref f_draftSigns, .int 0, .int 0, .int 0, .int 0, .ref f_letters, .ref f_numbers, .ref f_isList, .ref f_bounds, .ref f_sizes, .ref f_lists, .ref f_told, .ref f_costs, .int 0, .ref f_times, .int 0, .ref f_bestOne, .ref f_basis, .int 0, .ref f_one, .int 0, .ref f_along, .ref f_now]))]) [0] rfl
      have hD9 := hD.sub (ws' := [(m0, .inr (9, [.int 0, .ref f_text, .int 0, .int (-1), .ref f_kinds, .ref f_places, .ref f_values, .int 0, .ref f_draftLetters, .int 0, .int 0, .int 0, .ref f_draftNumbers, .ref f_draftSigns, .int 0, .int 0, .int 0, .int 0, .ref f_letters, .ref f_numbers, .ref f_isList, .ref f_bounds, .ref f_sizes, .ref f_lists, .ref f_told, .ref f_costs, .int 0, .ref f_times, .int 0, .ref f_bestOne, .ref f_basis, .int 0, .ref f_one, .int 0, .ref f_along, .ref f_now]))]) [0] (by decide) rfl
      have hK9 := hK.sub (tys' := []) [] rfl
      exact W.iret (v := (-1)) hx hb hr (fun t ht hW => ⟨⟨(-1), (), rfl, rfl, by rw [ht]; exact hP9, va_K.moved hW.alike hK9, hD9⟩, hS.F ht⟩) hS.2.2 d_MO_type_99
    · refine lv_iconst (v := 1) hx hb d_MO_type_80 (by decide) ?_
      refine lv_goto (tgt := 85) hx hb d_MO_type_81 (by decide) ?_
      refine lv_istore hx hb d_MO_type_85 hl (by decide) rfl (fun ls hl => ?_)
      have hl : lv_has ls 8 [(4, .int 1), (6, .long (bm x 0)), (5, .int 0), (0, .ref m0), (1, .long x), (3, .int 8)] := hl
      refine lv_iinc (k := 2) (v := 1) hx hb d_MO_type_87 hl rfl (by decide) (by decide) rfl (fun ls hl => ?_)
      have hl : lv_has ls 8 [(5, .int 1), (4, .int 1), (6, .long (bm x 0)), (0, .ref m0), (1, .long x), (3, .int 8)] := hl
      refine lv_goto (tgt := 38) hx hb d_MO_type_90 (by decide) ?_
      refine lv_iload hx hb d_MO_type_38 (lv_at hl 1 rfl) ?_
      refine lv_if_eq (tgt := 93) hx hb d_MO_type_40 (by decide) (fun h9 => absurd h9 (by decide)) (fun _ => ?_)
      refine lv_iload hx hb d_MO_type_43 (lv_at hl 0 rfl) ?_
      refine lv_iload_n hx hb d_MO_type_45 rfl (lv_at hl 5 rfl) ?_
      refine lv_icmp_ge (tgt := 93) hx hb d_MO_type_46 (by decide) (fun h9 => absurd h9 (by decide)) (fun _ => ?_)
      refine lv_lload_n hx hb d_MO_type_49 rfl (lv_at hl 4 rfl) ?_
      refine lv_bipush (v := 8) hx hb d_MO_type_50 (by decide) ?_
      refine lv_iload hx hb d_MO_type_52 (lv_at hl 0 rfl) ?_
      refine lv_imul hx hb d_MO_type_54 ?_
      refine lv_lshr (v := (x >>> (((8 * 1) : Int32).toInt64 &&& 63))) hx hb d_MO_type_55 rfl ?_
      refine lv_ldc2 (v := 255) hx hb hown (hts _ k_1004) d_MO_type_56 ?_
      refine lv_land hx hb d_MO_type_59 ?_
      refine W.eq (g2 := F0 m 60 ls [.long (bm x 1)]) rfl ?_
      refine lv_lstore hx hb d_MO_type_60 hl (by decide) rfl (fun ls hl => ?_)
      have hl : lv_has ls 8 [(6, .long (bm x 1)), (5, .int 1), (4, .int 1), (0, .ref m0), (1, .long x), (3, .int 8)] := hl
      refine lv_lload hx hb d_MO_type_62 (lv_at hl 0 rfl) ?_
      refine lv_ldc2 (v := 32) hx hb hown (hts _ k_1005) d_MO_type_64 ?_
      refine W.lcmp hx hb d_MO_type_67 ?_
      refine lv_if_lt (tgt := 84) hx hb d_MO_type_68 (by decide) (fun hc3 => ?_) (fun hc3 => ?_)
      · refine lv_iconst (v := 0) hx hb d_MO_type_84 (by decide) ?_
        refine lv_istore hx hb d_MO_type_85 hl (by decide) rfl (fun ls hl => ?_)
        have hl : lv_has ls 8 [(4, .int 0), (6, .long (bm x 1)), (5, .int 1), (0, .ref m0), (1, .long x), (3, .int 8)] := hl
        refine lv_iinc (k := 2) (v := 2) hx hb d_MO_type_87 hl rfl (by decide) (by decide) rfl (fun ls hl => ?_)
        have hl : lv_has ls 8 [(5, .int 2), (4, .int 0), (6, .long (bm x 1)), (0, .ref m0), (1, .long x), (3, .int 8)] := hl
        refine lv_goto (tgt := 38) hx hb d_MO_type_90 (by decide) ?_
        refine lv_iload hx hb d_MO_type_38 (lv_at hl 1 rfl) ?_
        refine lv_if_eq (tgt := 93) hx hb d_MO_type_40 (by decide) (fun _ => ?_) (fun h9 => absurd (by decide) h9)
        refine lv_iload hx hb d_MO_type_93 (lv_at hl 1 rfl) ?_
        refine lv_if_ne (tgt := 100) hx hb d_MO_type_95 (by decide) (fun h9 => absurd (by decide) h9) (fun _ => ?_)
        refine lv_iconst (v := (-1)) hx hb d_MO_type_98 (by decide) ?_
        have hP9 := hP.sub (ws' := [(m0, .inr (9, [.int 0, .ref f_text, .int 0, .int (-1), .ref f_kinds, .ref f_places, .ref f_values, .int 0, .ref f_draftLetters, .int 0, .int 0, .int 0, .ref f_draftNumbers, .ref f_draftSigns, .int 0, .int 0, .int 0, .int 0, .ref f_letters, .ref f_numbers, .ref f_isList, .ref f_bounds, .ref f_sizes, .ref f_lists, .ref f_told, .ref f_costs, .int 0, .ref f_times, .int 0, .ref f_bestOne, .ref f_basis, .int 0, .ref f_one, .int 0, .ref f_along, .ref f_now]))]) [0] rfl
        have hD9 := hD.sub (ws' := [(m0, .inr (9, [.int 0, .ref f_text, .int 0, .int (-1), .ref f_kinds, .ref f_places, .ref f_values, .int 0, .ref f_draftLetters, .int 0, .int 0, .int 0, .ref f_draftNumbers, .ref f_draftSigns, .int 0, .int 0, .int 0, .int 0, .ref f_letters, .ref f_numbers, .ref f_isList, .ref f_bounds, .ref f_sizes, .ref f_lists, .ref f_told, .ref f_costs, .int 0, .ref f_times, .int 0, .ref f_bestOne, .ref f_basis, .int 0, .ref f_one, .int 0, .ref f_along, .ref f_now]))]) [0] (by decide) rfl
        have hK9 := hK.sub (tys' := []) [] rfl
        exact W.iret (v := (-1)) hx hb hr (fun t ht hW => ⟨⟨(-1), (), rfl, rfl, by rw [ht]; exact hP9, va_K.moved hW.alike hK9, hD9⟩, hS.F ht⟩) hS.2.2 d_MO_type_99
      · refine lv_lload hx hb d_MO_type_71 (lv_at hl 0 rfl) ?_
        refine lv_ldc2 (v := 126) hx hb hown (hts _ k_1006) d_MO_type_73 ?_
        refine W.lcmp hx hb d_MO_type_76 ?_
        refine lv_if_gt (tgt := 84) hx hb d_MO_type_77 (by decide) (fun hc4 => ?_) (fun hc4 => ?_)
        · refine lv_iconst (v := 0) hx hb d_MO_type_84 (by decide) ?_
          refine lv_istore hx hb d_MO_type_85 hl (by decide) rfl (fun ls hl => ?_)
          have hl : lv_has ls 8 [(4, .int 0), (6, .long (bm x 1)), (5, .int 1), (0, .ref m0), (1, .long x), (3, .int 8)] := hl
          refine lv_iinc (k := 2) (v := 2) hx hb d_MO_type_87 hl rfl (by decide) (by decide) rfl (fun ls hl => ?_)
          have hl : lv_has ls 8 [(5, .int 2), (4, .int 0), (6, .long (bm x 1)), (0, .ref m0), (1, .long x), (3, .int 8)] := hl
          refine lv_goto (tgt := 38) hx hb d_MO_type_90 (by decide) ?_
          refine lv_iload hx hb d_MO_type_38 (lv_at hl 1 rfl) ?_
          refine lv_if_eq (tgt := 93) hx hb d_MO_type_40 (by decide) (fun _ => ?_) (fun h9 => absurd (by decide) h9)
          refine lv_iload hx hb d_MO_type_93 (lv_at hl 1 rfl) ?_
          refine lv_if_ne (tgt := 100) hx hb d_MO_type_95 (by decide) (fun h9 => absurd (by decide) h9) (fun _ => ?_)
          refine lv_iconst (v := (-1)) hx hb d_MO_type_98 (by decide) ?_
          have hP9 := hP.sub (ws' := [(m0, .inr (9, [.int 0, .ref f_text, .int 0, .int (-1), .ref f_kinds, .ref f_places, .ref f_values, .int 0, .ref f_draftLetters, .int 0, .int 0, .int 0, .ref f_draftNumbers, .ref f_draftSigns, .int 0, .int 0, .int 0, .int 0, .ref f_letters, .ref f_numbers, .ref f_isList, .ref f_bounds, .ref f_sizes, .ref f_lists, .ref f_told, .ref f_costs, .int 0, .ref f_times, .int 0, .ref f_bestOne, .ref f_basis, .int 0, .ref f_one, .int 0, .ref f_along, .ref f_now]))]) [0] rfl
          have hD9 := hD.sub (ws' := [(m0, .inr (9, [.int 0, .ref f_text, .int 0, .int (-1), .ref f_kinds, .ref f_places, .ref f_values, .int 0, .ref f_draftLetters, .int 0, .int 0, .int 0, .ref f_draftNumbers, .ref f_draftSigns, .int 0, .int 0, .int 0, .int 0, .ref f_letters, .ref f_numbers, .ref f_isList, .ref f_bounds, .ref f_sizes, .ref f_lists, .ref f_told, .ref f_costs, .int 0, .ref f_times, .int 0, .ref f_bestOne, .ref f_basis, .int 0, .ref f_one, .int 0, .ref f_along, .ref f_now]))]) [0] (by decide) rfl
          have hK9 := hK.sub (tys' := []) [] rfl
          exact W.iret (v := (-1)) hx hb hr (fun t ht hW => ⟨⟨(-1), (), rfl, rfl, by rw [ht]; exact hP9, va_K.moved hW.alike hK9, hD9⟩, hS.F ht⟩) hS.2.2 d_MO_type_99
        · refine lv_iconst (v := 1) hx hb d_MO_type_80 (by decide) ?_
          refine lv_goto (tgt := 85) hx hb d_MO_type_81 (by decide) ?_
          refine lv_istore hx hb d_MO_type_85 hl (by decide) rfl (fun ls hl => ?_)
          have hl : lv_has ls 8 [(4, .int 1), (6, .long (bm x 1)), (5, .int 1), (0, .ref m0), (1, .long x), (3, .int 8)] := hl
          refine lv_iinc (k := 2) (v := 2) hx hb d_MO_type_87 hl rfl (by decide) (by decide) rfl (fun ls hl => ?_)
          have hl : lv_has ls 8 [(5, .int 2), (4, .int 1), (6, .long (bm x 1)), (0, .ref m0), (1, .long x), (3, .int 8)] := hl
          refine lv_goto (tgt := 38) hx hb d_MO_type_90 (by decide) ?_
          refine lv_iload hx hb d_MO_type_38 (lv_at hl 1 rfl) ?_
          refine lv_if_eq (tgt := 93) hx hb d_MO_type_40 (by decide) (fun h9 => absurd h9 (by decide)) (fun _ => ?_)
          refine lv_iload hx hb d_MO_type_43 (lv_at hl 0 rfl) ?_
          refine lv_iload_n hx hb d_MO_type_45 rfl (lv_at hl 5 rfl) ?_
          refine lv_icmp_ge (tgt := 93) hx hb d_MO_type_46 (by decide) (fun h9 => absurd h9 (by decide)) (fun _ => ?_)
          refine lv_lload_n hx hb d_MO_type_49 rfl (lv_at hl 4 rfl) ?_
          refine lv_bipush (v := 8) hx hb d_MO_type_50 (by decide) ?_
          refine lv_iload hx hb d_MO_type_52 (lv_at hl 0 rfl) ?_
          refine lv_imul hx hb d_MO_type_54 ?_
          refine lv_lshr (v := (x >>> (((8 * 2) : Int32).toInt64 &&& 63))) hx hb d_MO_type_55 rfl ?_
          refine lv_ldc2 (v := 255) hx hb hown (hts _ k_1004) d_MO_type_56 ?_
          refine lv_land hx hb d_MO_type_59 ?_
          refine W.eq (g2 := F0 m 60 ls [.long (bm x 2)]) rfl ?_
          refine lv_lstore hx hb d_MO_type_60 hl (by decide) rfl (fun ls hl => ?_)
          have hl : lv_has ls 8 [(6, .long (bm x 2)), (5, .int 2), (4, .int 1), (0, .ref m0), (1, .long x), (3, .int 8)] := hl
          refine lv_lload hx hb d_MO_type_62 (lv_at hl 0 rfl) ?_
          refine lv_ldc2 (v := 32) hx hb hown (hts _ k_1005) d_MO_type_64 ?_
          refine W.lcmp hx hb d_MO_type_67 ?_
          refine lv_if_lt (tgt := 84) hx hb d_MO_type_68 (by decide) (fun hc5 => ?_) (fun hc5 => ?_)
          · refine lv_iconst (v := 0) hx hb d_MO_type_84 (by decide) ?_
            refine lv_istore hx hb d_MO_type_85 hl (by decide) rfl (fun ls hl => ?_)
            have hl : lv_has ls 8 [(4, .int 0), (6, .long (bm x 2)), (5, .int 2), (0, .ref m0), (1, .long x), (3, .int 8)] := hl
            refine lv_iinc (k := 2) (v := 3) hx hb d_MO_type_87 hl rfl (by decide) (by decide) rfl (fun ls hl => ?_)
            have hl : lv_has ls 8 [(5, .int 3), (4, .int 0), (6, .long (bm x 2)), (0, .ref m0), (1, .long x), (3, .int 8)] := hl
            refine lv_goto (tgt := 38) hx hb d_MO_type_90 (by decide) ?_
            refine lv_iload hx hb d_MO_type_38 (lv_at hl 1 rfl) ?_
            refine lv_if_eq (tgt := 93) hx hb d_MO_type_40 (by decide) (fun _ => ?_) (fun h9 => absurd (by decide) h9)
            refine lv_iload hx hb d_MO_type_93 (lv_at hl 1 rfl) ?_
            refine lv_if_ne (tgt := 100) hx hb d_MO_type_95 (by decide) (fun h9 => absurd (by decide) h9) (fun _ => ?_)
            refine lv_iconst (v := (-1)) hx hb d_MO_type_98 (by decide) ?_
            have hP9 := hP.sub (ws' := [(m0, .inr (9, [.int 0, .ref f_text, .int 0, .int (-1), .ref f_kinds, .ref f_places, .ref f_values, .int 0, .ref f_draftLetters, .int 0, .int 0, .int 0, .ref f_draftNumbers, .ref f_draftSigns, .int 0, .int 0, .int 0, .int 0, .ref f_letters, .ref f_numbers, .ref f_isList, .ref f_bounds, .ref f_sizes, .ref f_lists, .ref f_told, .ref f_costs, .int 0, .ref f_times, .int 0, .ref f_bestOne, .ref f_basis, .int 0, .ref f_one, .int 0, .ref f_along, .ref f_now]))]) [0] rfl
            have hD9 := hD.sub (ws' := [(m0, .inr (9, [.int 0, .ref f_text, .int 0, .int (-1), .ref f_kinds, .ref f_places, .ref f_values, .int 0, .ref f_draftLetters, .int 0, .int 0, .int 0, .ref f_draftNumbers, .ref f_draftSigns, .int 0, .int 0, .int 0, .int 0, .ref f_letters, .ref f_numbers, .ref f_isList, .ref f_bounds, .ref f_sizes, .ref f_lists, .ref f_told, .ref f_costs, .int 0, .ref f_times, .int 0, .ref f_bestOne, .ref f_basis, .int 0, .ref f_one, .int 0, .ref f_along, .ref f_now]))]) [0] (by decide) rfl
            have hK9 := hK.sub (tys' := []) [] rfl
            exact W.iret (v := (-1)) hx hb hr (fun t ht hW => ⟨⟨(-1), (), rfl, rfl, by rw [ht]; exact hP9, va_K.moved hW.alike hK9, hD9⟩, hS.F ht⟩) hS.2.2 d_MO_type_99
          · refine lv_lload hx hb d_MO_type_71 (lv_at hl 0 rfl) ?_
            refine lv_ldc2 (v := 126) hx hb hown (hts _ k_1006) d_MO_type_73 ?_
            refine W.lcmp hx hb d_MO_type_76 ?_
            refine lv_if_gt (tgt := 84) hx hb d_MO_type_77 (by decide) (fun hc6 => ?_) (fun hc6 => ?_)
            · refine lv_iconst (v := 0) hx hb d_MO_type_84 (by decide) ?_
              refine lv_istore hx hb d_MO_type_85 hl (by decide) rfl (fun ls hl => ?_)
              have hl : lv_has ls 8 [(4, .int 0), (6, .long (bm x 2)), (5, .int 2), (0, .ref m0), (1, .long x), (3, .int 8)] := hl
              refine lv_iinc (k := 2) (v := 3) hx hb d_MO_type_87 hl rfl (by decide) (by decide) rfl (fun ls hl => ?_)
              have hl : lv_has ls 8 [(5, .int 3), (4, .int 0), (6, .long (bm x 2)), (0, .ref m0), (1, .long x), (3, .int 8)] := hl
              refine lv_goto (tgt := 38) hx hb d_MO_type_90 (by decide) ?_
              refine lv_iload hx hb d_MO_type_38 (lv_at hl 1 rfl) ?_
              refine lv_if_eq (tgt := 93) hx hb d_MO_type_40 (by decide) (fun _ => ?_) (fun h9 => absurd (by decide) h9)
              refine lv_iload hx hb d_MO_type_93 (lv_at hl 1 rfl) ?_
              refine lv_if_ne (tgt := 100) hx hb d_MO_type_95 (by decide) (fun h9 => absurd (by decide) h9) (fun _ => ?_)
              refine lv_iconst (v := (-1)) hx hb d_MO_type_98 (by decide) ?_
              have hP9 := hP.sub (ws' := [(m0, .inr (9, [.int 0, .ref f_text, .int 0, .int (-1), .ref f_kinds, .ref f_places, .ref f_values, .int 0, .ref f_draftLetters, .int 0, .int 0, .int 0, .ref f_draftNumbers, .ref f_draftSigns, .int 0, .int 0, .int 0, .int 0, .ref f_letters, .ref f_numbers, .ref f_isList, .ref f_bounds, .ref f_sizes, .ref f_lists, .ref f_told, .ref f_costs, .int 0, .ref f_times, .int 0, .ref f_bestOne, .ref f_basis, .int 0, .ref f_one, .int 0, .ref f_along, .ref f_now]))]) [0] rfl
              have hD9 := hD.sub (ws' := [(m0, .inr (9, [.int 0, .ref f_text, .int 0, .int (-1), .ref f_kinds, .ref f_places, .ref f_values, .int 0, .ref f_draftLetters, .int 0, .int 0, .int 0, .ref f_draftNumbers, .ref f_draftSigns, .int 0, .int 0, .int 0, .int 0, .ref f_letters, .ref f_numbers, .ref f_isList, .ref f_bounds, .ref f_sizes, .ref f_lists, .ref f_told, .ref f_costs, .int 0, .ref f_times, .int 0, .ref f_bestOne, .ref f_basis, .int 0, .ref f_one, .int 0, .ref f_along, .ref f_now]))]) [0] (by decide) rfl
              have hK9 := hK.sub (tys' := []) [] rfl
              exact W.iret (v := (-1)) hx hb hr (fun t ht hW => ⟨⟨(-1), (), rfl, rfl, by rw [ht]; exact hP9, va_K.moved hW.alike hK9, hD9⟩, hS.F ht⟩) hS.2.2 d_MO_type_99
            · refine lv_iconst (v := 1) hx hb d_MO_type_80 (by decide) ?_
              refine lv_goto (tgt := 85) hx hb d_MO_type_81 (by decide) ?_
              refine lv_istore hx hb d_MO_type_85 hl (by decide) rfl (fun ls hl => ?_)
              have hl : lv_has ls 8 [(4, .int 1), (6, .long (bm x 2)), (5, .int 2), (0, .ref m0), (1, .long x), (3, .int 8)] := hl
              refine lv_iinc (k := 2) (v := 3) hx hb d_MO_type_87 hl rfl (by decide) (by decide) rfl (fun ls hl => ?_)
              have hl : lv_has ls 8 [(5, .int 3), (4, .int 1), (6, .long (bm x 2)), (0, .ref m0), (1, .long x), (3, .int 8)] := hl
              refine lv_goto (tgt := 38) hx hb d_MO_type_90 (by decide) ?_
              refine lv_iload hx hb d_MO_type_38 (lv_at hl 1 rfl) ?_
              refine lv_if_eq (tgt := 93) hx hb d_MO_type_40 (by decide) (fun h9 => absurd h9 (by decide)) (fun _ => ?_)
              refine lv_iload hx hb d_MO_type_43 (lv_at hl 0 rfl) ?_
              refine lv_iload_n hx hb d_MO_type_45 rfl (lv_at hl 5 rfl) ?_
              refine lv_icmp_ge (tgt := 93) hx hb d_MO_type_46 (by decide) (fun h9 => absurd h9 (by decide)) (fun _ => ?_)
              refine lv_lload_n hx hb d_MO_type_49 rfl (lv_at hl 4 rfl) ?_
              refine lv_bipush (v := 8) hx hb d_MO_type_50 (by decide) ?_
              refine lv_iload hx hb d_MO_type_52 (lv_at hl 0 rfl) ?_
              refine lv_imul hx hb d_MO_type_54 ?_
              refine lv_lshr (v := (x >>> (((8 * 3) : Int32).toInt64 &&& 63))) hx hb d_MO_type_55 rfl ?_
              refine lv_ldc2 (v := 255) hx hb hown (hts _ k_1004) d_MO_type_56 ?_
              refine lv_land hx hb d_MO_type_59 ?_
              refine W.eq (g2 := F0 m 60 ls [.long (bm x 3)]) rfl ?_
              refine lv_lstore hx hb d_MO_type_60 hl (by decide) rfl (fun ls hl => ?_)
              have hl : lv_has ls 8 [(6, .long (bm x 3)), (5, .int 3), (4, .int 1), (0, .ref m0), (1, .long x), (3, .int 8)] := hl
              refine lv_lload hx hb d_MO_type_62 (lv_at hl 0 rfl) ?_
              refine lv_ldc2 (v := 32) hx hb hown (hts _ k_1005) d_MO_type_64 ?_
              refine W.lcmp hx hb d_MO_type_67 ?_
              refine lv_if_lt (tgt := 84) hx hb d_MO_type_68 (by decide) (fun hc7 => ?_) (fun hc7 => ?_)
              · refine lv_iconst (v := 0) hx hb d_MO_type_84 (by decide) ?_
                refine lv_istore hx hb d_MO_type_85 hl (by decide) rfl (fun ls hl => ?_)
                have hl : lv_has ls 8 [(4, .int 0), (6, .long (bm x 3)), (5, .int 3), (0, .ref m0), (1, .long x), (3, .int 8)] := hl
                refine lv_iinc (k := 2) (v := 4) hx hb d_MO_type_87 hl rfl (by decide) (by decide) rfl (fun ls hl => ?_)
                have hl : lv_has ls 8 [(5, .int 4), (4, .int 0), (6, .long (bm x 3)), (0, .ref m0), (1, .long x), (3, .int 8)] := hl
                refine lv_goto (tgt := 38) hx hb d_MO_type_90 (by decide) ?_
                refine lv_iload hx hb d_MO_type_38 (lv_at hl 1 rfl) ?_
                refine lv_if_eq (tgt := 93) hx hb d_MO_type_40 (by decide) (fun _ => ?_) (fun h9 => absurd (by decide) h9)
                refine lv_iload hx hb d_MO_type_93 (lv_at hl 1 rfl) ?_
                refine lv_if_ne (tgt := 100) hx hb d_MO_type_95 (by decide) (fun h9 => absurd (by decide) h9) (fun _ => ?_)
                refine lv_iconst (v := (-1)) hx hb d_MO_type_98 (by decide) ?_
                have hP9 := hP.sub (ws' := [(m0, .inr (9, [.int 0, .ref f_text, .int 0, .int (-1), .ref f_kinds, .ref f_places, .ref f_values, .int 0, .ref f_draftLetters, .int 0, .int 0, .int 0, .ref f_draftNumbers, .ref f_draftSigns, .int 0, .int 0, .int 0, .int 0, .ref f_letters, .ref f_numbers, .ref f_isList, .ref f_bounds, .ref f_sizes, .ref f_lists, .ref f_told, .ref f_costs, .int 0, .ref f_times, .int 0, .ref f_bestOne, .ref f_basis, .int 0, .ref f_one, .int 0, .ref f_along, .ref f_now]))]) [0] rfl
                have hD9 := hD.sub (ws' := [(m0, .inr (9, [.int 0, .ref f_text, .int 0, .int (-1), .ref f_kinds, .ref f_places, .ref f_values, .int 0, .ref f_draftLetters, .int 0, .int 0, .int 0, .ref f_draftNumbers, .ref f_draftSigns, .int 0, .int 0, .int 0, .int 0, .ref f_letters, .ref f_numbers, .ref f_isList, .ref f_bounds, .ref f_sizes, .ref f_lists, .ref f_told, .ref f_costs, .int 0, .ref f_times, .int 0, .ref f_bestOne, .ref f_basis, .int 0, .ref f_one, .int 0, .ref f_along, .ref f_now]))]) [0] (by decide) rfl
                have hK9 := hK.sub (tys' := []) [] rfl
                exact W.iret (v := (-1)) hx hb hr (fun t ht hW => ⟨⟨(-1), (), rfl, rfl, by rw [ht]; exact hP9, va_K.moved hW.alike hK9, hD9⟩, hS.F ht⟩) hS.2.2 d_MO_type_99
              · refine lv_lload hx hb d_MO_type_71 (lv_at hl 0 rfl) ?_
                refine lv_ldc2 (v := 126) hx hb hown (hts _ k_1006) d_MO_type_73 ?_
                refine W.lcmp hx hb d_MO_type_76 ?_
                refine lv_if_gt (tgt := 84) hx hb d_MO_type_77 (by decide) (fun hc8 => ?_) (fun hc8 => ?_)
                · refine lv_iconst (v := 0) hx hb d_MO_type_84 (by decide) ?_
                  refine lv_istore hx hb d_MO_type_85 hl (by decide) rfl (fun ls hl => ?_)
                  have hl : lv_has ls 8 [(4, .int 0), (6, .long (bm x 3)), (5, .int 3), (0, .ref m0), (1, .long x), (3, .int 8)] := hl
                  refine lv_iinc (k := 2) (v := 4) hx hb d_MO_type_87 hl rfl (by decide) (by decide) rfl (fun ls hl => ?_)
                  have hl : lv_has ls 8 [(5, .int 4), (4, .int 0), (6, .long (bm x 3)), (0, .ref m0), (1, .long x), (3, .int 8)] := hl
                  refine lv_goto (tgt := 38) hx hb d_MO_type_90 (by decide) ?_
                  refine lv_iload hx hb d_MO_type_38 (lv_at hl 1 rfl) ?_
                  refine lv_if_eq (tgt := 93) hx hb d_MO_type_40 (by decide) (fun _ => ?_) (fun h9 => absurd (by decide) h9)
                  refine lv_iload hx hb d_MO_type_93 (lv_at hl 1 rfl) ?_
                  refine lv_if_ne (tgt := 100) hx hb d_MO_type_95 (by decide) (fun h9 => absurd (by decide) h9) (fun _ => ?_)
                  refine lv_iconst (v := (-1)) hx hb d_MO_type_98 (by decide) ?_
                  have hP9 := hP.sub (ws' := [(m0, .inr (9, [.int 0, .ref f_text, .int 0, .int (-1), .ref f_kinds, .ref f_places, .ref f_values, .int 0, .ref f_draftLetters, .int 0, .int 0, .int 0, .ref f_draftNumbers, .ref f_draftSigns, .int 0, .int 0, .int 0, .int 0, .ref f_letters, .ref f_numbers, .ref f_isList, .ref f_bounds, .ref f_sizes, .ref f_lists, .ref f_told, .ref f_costs, .int 0, .ref f_times, .int 0, .ref f_bestOne, .ref f_basis, .int 0, .ref f_one, .int 0, .ref f_along, .ref f_now]))]) [0] rfl
                  have hD9 := hD.sub (ws' := [(m0, .inr (9, [.int 0, .ref f_text, .int 0, .int (-1), .ref f_kinds, .ref f_places, .ref f_values, .int 0, .ref f_draftLetters, .int 0, .int 0, .int 0, .ref f_draftNumbers, .ref f_draftSigns, .int 0, .int 0, .int 0, .int 0, .ref f_letters, .ref f_numbers, .ref f_isList, .ref f_bounds, .ref f_sizes, .ref f_lists, .ref f_told, .ref f_costs, .int 0, .ref f_times, .int 0, .ref f_bestOne, .ref f_basis, .int 0, .ref f_one, .int 0, .ref f_along, .ref f_now]))]) [0] (by decide) rfl
                  have hK9 := hK.sub (tys' := []) [] rfl
                  exact W.iret (v := (-1)) hx hb hr (fun t ht hW => ⟨⟨(-1), (), rfl, rfl, by rw [ht]; exact hP9, va_K.moved hW.alike hK9, hD9⟩, hS.F ht⟩) hS.2.2 d_MO_type_99
                · refine lv_iconst (v := 1) hx hb d_MO_type_80 (by decide) ?_
                  refine lv_goto (tgt := 85) hx hb d_MO_type_81 (by decide) ?_
                  refine lv_istore hx hb d_MO_type_85 hl (by decide) rfl (fun ls hl => ?_)
                  have hl : lv_has ls 8 [(4, .int 1), (6, .long (bm x 3)), (5, .int 3), (0, .ref m0), (1, .long x), (3, .int 8)] := hl
                  refine lv_iinc (k := 2) (v := 4) hx hb d_MO_type_87 hl rfl (by decide) (by decide) rfl (fun ls hl => ?_)
                  have hl : lv_has ls 8 [(5, .int 4), (4, .int 1), (6, .long (bm x 3)), (0, .ref m0), (1, .long x), (3, .int 8)] := hl
                  refine lv_goto (tgt := 38) hx hb d_MO_type_90 (by decide) ?_
                  refine lv_iload hx hb d_MO_type_38 (lv_at hl 1 rfl) ?_
                  refine lv_if_eq (tgt := 93) hx hb d_MO_type_40 (by decide) (fun h9 => absurd h9 (by decide)) (fun _ => ?_)
                  refine lv_iload hx hb d_MO_type_43 (lv_at hl 0 rfl) ?_
                  refine lv_iload_n hx hb d_MO_type_45 rfl (lv_at hl 5 rfl) ?_
                  refine lv_icmp_ge (tgt := 93) hx hb d_MO_type_46 (by decide) (fun h9 => absurd h9 (by decide)) (fun _ => ?_)
                  refine lv_lload_n hx hb d_MO_type_49 rfl (lv_at hl 4 rfl) ?_
                  refine lv_bipush (v := 8) hx hb d_MO_type_50 (by decide) ?_
                  refine lv_iload hx hb d_MO_type_52 (lv_at hl 0 rfl) ?_
                  refine lv_imul hx hb d_MO_type_54 ?_
                  refine lv_lshr (v := (x >>> (((8 * 4) : Int32).toInt64 &&& 63))) hx hb d_MO_type_55 rfl ?_
                  refine lv_ldc2 (v := 255) hx hb hown (hts _ k_1004) d_MO_type_56 ?_
                  refine lv_land hx hb d_MO_type_59 ?_
                  refine W.eq (g2 := F0 m 60 ls [.long (bm x 4)]) rfl ?_
                  refine lv_lstore hx hb d_MO_type_60 hl (by decide) rfl (fun ls hl => ?_)
                  have hl : lv_has ls 8 [(6, .long (bm x 4)), (5, .int 4), (4, .int 1), (0, .ref m0), (1, .long x), (3, .int 8)] := hl
                  refine lv_lload hx hb d_MO_type_62 (lv_at hl 0 rfl) ?_
                  refine lv_ldc2 (v := 32) hx hb hown (hts _ k_1005) d_MO_type_64 ?_
                  refine W.lcmp hx hb d_MO_type_67 ?_
                  refine lv_if_lt (tgt := 84) hx hb d_MO_type_68 (by decide) (fun hc9 => ?_) (fun hc9 => ?_)
                  · refine lv_iconst (v := 0) hx hb d_MO_type_84 (by decide) ?_
                    refine lv_istore hx hb d_MO_type_85 hl (by decide) rfl (fun ls hl => ?_)
                    have hl : lv_has ls 8 [(4, .int 0), (6, .long (bm x 4)), (5, .int 4), (0, .ref m0), (1, .long x), (3, .int 8)] := hl
                    refine lv_iinc (k := 2) (v := 5) hx hb d_MO_type_87 hl rfl (by decide) (by decide) rfl (fun ls hl => ?_)
                    have hl : lv_has ls 8 [(5, .int 5), (4, .int 0), (6, .long (bm x 4)), (0, .ref m0), (1, .long x), (3, .int 8)] := hl
                    refine lv_goto (tgt := 38) hx hb d_MO_type_90 (by decide) ?_
                    refine lv_iload hx hb d_MO_type_38 (lv_at hl 1 rfl) ?_
                    refine lv_if_eq (tgt := 93) hx hb d_MO_type_40 (by decide) (fun _ => ?_) (fun h9 => absurd (by decide) h9)
                    refine lv_iload hx hb d_MO_type_93 (lv_at hl 1 rfl) ?_
                    refine lv_if_ne (tgt := 100) hx hb d_MO_type_95 (by decide) (fun h9 => absurd (by decide) h9) (fun _ => ?_)
                    refine lv_iconst (v := (-1)) hx hb d_MO_type_98 (by decide) ?_
                    have hP9 := hP.sub (ws' := [(m0, .inr (9, [.int 0, .ref f_text, .int 0, .int (-1), .ref f_kinds, .ref f_places, .ref f_values, .int 0, .ref f_draftLetters, .int 0, .int 0, .int 0, .ref f_draftNumbers, .ref f_draftSigns, .int 0, .int 0, .int 0, .int 0, .ref f_letters, .ref f_numbers, .ref f_isList, .ref f_bounds, .ref f_sizes, .ref f_lists, .ref f_told, .ref f_costs, .int 0, .ref f_times, .int 0, .ref f_bestOne, .ref f_basis, .int 0, .ref f_one, .int 0, .ref f_along, .ref f_now]))]) [0] rfl
                    have hD9 := hD.sub (ws' := [(m0, .inr (9, [.int 0, .ref f_text, .int 0, .int (-1), .ref f_kinds, .ref f_places, .ref f_values, .int 0, .ref f_draftLetters, .int 0, .int 0, .int 0, .ref f_draftNumbers, .ref f_draftSigns, .int 0, .int 0, .int 0, .int 0, .ref f_letters, .ref f_numbers, .ref f_isList, .ref f_bounds, .ref f_sizes, .ref f_lists, .ref f_told, .ref f_costs, .int 0, .ref f_times, .int 0, .ref f_bestOne, .ref f_basis, .int 0, .ref f_one, .int 0, .ref f_along, .ref f_now]))]) [0] (by decide) rfl
                    have hK9 := hK.sub (tys' := []) [] rfl
                    exact W.iret (v := (-1)) hx hb hr (fun t ht hW => ⟨⟨(-1), (), rfl, rfl, by rw [ht]; exact hP9, va_K.moved hW.alike hK9, hD9⟩, hS.F ht⟩) hS.2.2 d_MO_type_99
                  · refine lv_lload hx hb d_MO_type_71 (lv_at hl 0 rfl) ?_
                    refine lv_ldc2 (v := 126) hx hb hown (hts _ k_1006) d_MO_type_73 ?_
                    refine W.lcmp hx hb d_MO_type_76 ?_
                    refine lv_if_gt (tgt := 84) hx hb d_MO_type_77 (by decide) (fun hc10 => ?_) (fun hc10 => ?_)
                    · refine lv_iconst (v := 0) hx hb d_MO_type_84 (by decide) ?_
                      refine lv_istore hx hb d_MO_type_85 hl (by decide) rfl (fun ls hl => ?_)
                      have hl : lv_has ls 8 [(4, .int 0), (6, .long (bm x 4)), (5, .int 4), (0, .ref m0), (1, .long x), (3, .int 8)] := hl
                      refine lv_iinc (k := 2) (v := 5) hx hb d_MO_type_87 hl rfl (by decide) (by decide) rfl (fun ls hl => ?_)
                      have hl : lv_has ls 8 [(5, .int 5), (4, .int 0), (6, .long (bm x 4)), (0, .ref m0), (1, .long x), (3, .int 8)] := hl
                      refine lv_goto (tgt := 38) hx hb d_MO_type_90 (by decide) ?_
                      refine lv_iload hx hb d_MO_type_38 (lv_at hl 1 rfl) ?_
                      refine lv_if_eq (tgt := 93) hx hb d_MO_type_40 (by decide) (fun _ => ?_) (fun h9 => absurd (by decide) h9)
                      refine lv_iload hx hb d_MO_type_93 (lv_at hl 1 rfl) ?_
                      refine lv_if_ne (tgt := 100) hx hb d_MO_type_95 (by decide) (fun h9 => absurd (by decide) h9) (fun _ => ?_)
                      refine lv_iconst (v := (-1)) hx hb d_MO_type_98 (by decide) ?_
                      have hP9 := hP.sub (ws' := [(m0, .inr (9, [.int 0, .ref f_text, .int 0, .int (-1), .ref f_kinds, .ref f_places, .ref f_values, .int 0, .ref f_draftLetters, .int 0, .int 0, .int 0, .ref f_draftNumbers, .ref f_draftSigns, .int 0, .int 0, .int 0, .int 0, .ref f_letters, .ref f_numbers, .ref f_isList, .ref f_bounds, .ref f_sizes, .ref f_lists, .ref f_told, .ref f_costs, .int 0, .ref f_times, .int 0, .ref f_bestOne, .ref f_basis, .int 0, .ref f_one, .int 0, .ref f_along, .ref f_now]))]) [0] rfl
                      have hD9 := hD.sub (ws' := [(m0, .inr (9, [.int 0, .ref f_text, .int 0, .int (-1), .ref f_kinds, .ref f_places, .ref f_values, .int 0, .ref f_draftLetters, .int 0, .int 0, .int 0, .ref f_draftNumbers, .ref f_draftSigns, .int 0, .int 0, .int 0, .int 0, .ref f_letters, .ref f_numbers, .ref f_isList, .ref f_bounds, .ref f_sizes, .ref f_lists, .ref f_told, .ref f_costs, .int 0, .ref f_times, .int 0, .ref f_bestOne, .ref f_basis, .int 0, .ref f_one, .int 0, .ref f_along, .ref f_now]))]) [0] (by decide) rfl
                      have hK9 := hK.sub (tys' := []) [] rfl
                      exact W.iret (v := (-1)) hx hb hr (fun t ht hW => ⟨⟨(-1), (), rfl, rfl, by rw [ht]; exact hP9, va_K.moved hW.alike hK9, hD9⟩, hS.F ht⟩) hS.2.2 d_MO_type_99
                    · refine lv_iconst (v := 1) hx hb d_MO_type_80 (by decide) ?_
                      refine lv_goto (tgt := 85) hx hb d_MO_type_81 (by decide) ?_
                      refine lv_istore hx hb d_MO_type_85 hl (by decide) rfl (fun ls hl => ?_)
                      have hl : lv_has ls 8 [(4, .int 1), (6, .long (bm x 4)), (5, .int 4), (0, .ref m0), (1, .long x), (3, .int 8)] := hl
                      refine lv_iinc (k := 2) (v := 5) hx hb d_MO_type_87 hl rfl (by decide) (by decide) rfl (fun ls hl => ?_)
                      have hl : lv_has ls 8 [(5, .int 5), (4, .int 1), (6, .long (bm x 4)), (0, .ref m0), (1, .long x), (3, .int 8)] := hl
                      refine lv_goto (tgt := 38) hx hb d_MO_type_90 (by decide) ?_
                      refine lv_iload hx hb d_MO_type_38 (lv_at hl 1 rfl) ?_
                      refine lv_if_eq (tgt := 93) hx hb d_MO_type_40 (by decide) (fun h9 => absurd h9 (by decide)) (fun _ => ?_)
                      refine lv_iload hx hb d_MO_type_43 (lv_at hl 0 rfl) ?_
                      refine lv_iload_n hx hb d_MO_type_45 rfl (lv_at hl 5 rfl) ?_
                      refine lv_icmp_ge (tgt := 93) hx hb d_MO_type_46 (by decide) (fun h9 => absurd h9 (by decide)) (fun _ => ?_)
                      refine lv_lload_n hx hb d_MO_type_49 rfl (lv_at hl 4 rfl) ?_
                      refine lv_bipush (v := 8) hx hb d_MO_type_50 (by decide) ?_
                      refine lv_iload hx hb d_MO_type_52 (lv_at hl 0 rfl) ?_
                      refine lv_imul hx hb d_MO_type_54 ?_
                      refine lv_lshr (v := (x >>> (((8 * 5) : Int32).toInt64 &&& 63))) hx hb d_MO_type_55 rfl ?_
                      refine lv_ldc2 (v := 255) hx hb hown (hts _ k_1004) d_MO_type_56 ?_
                      refine lv_land hx hb d_MO_type_59 ?_
                      refine W.eq (g2 := F0 m 60 ls [.long (bm x 5)]) rfl ?_
                      refine lv_lstore hx hb d_MO_type_60 hl (by decide) rfl (fun ls hl => ?_)
                      have hl : lv_has ls 8 [(6, .long (bm x 5)), (5, .int 5), (4, .int 1), (0, .ref m0), (1, .long x), (3, .int 8)] := hl
                      refine lv_lload hx hb d_MO_type_62 (lv_at hl 0 rfl) ?_
                      refine lv_ldc2 (v := 32) hx hb hown (hts _ k_1005) d_MO_type_64 ?_
                      refine W.lcmp hx hb d_MO_type_67 ?_
                      refine lv_if_lt (tgt := 84) hx hb d_MO_type_68 (by decide) (fun hc11 => ?_) (fun hc11 => ?_)
                      · refine lv_iconst (v := 0) hx hb d_MO_type_84 (by decide) ?_
                        refine lv_istore hx hb d_MO_type_85 hl (by decide) rfl (fun ls hl => ?_)
                        have hl : lv_has ls 8 [(4, .int 0), (6, .long (bm x 5)), (5, .int 5), (0, .ref m0), (1, .long x), (3, .int 8)] := hl
                        refine lv_iinc (k := 2) (v := 6) hx hb d_MO_type_87 hl rfl (by decide) (by decide) rfl (fun ls hl => ?_)
                        have hl : lv_has ls 8 [(5, .int 6), (4, .int 0), (6, .long (bm x 5)), (0, .ref m0), (1, .long x), (3, .int 8)] := hl
                        refine lv_goto (tgt := 38) hx hb d_MO_type_90 (by decide) ?_
                        refine lv_iload hx hb d_MO_type_38 (lv_at hl 1 rfl) ?_
                        refine lv_if_eq (tgt := 93) hx hb d_MO_type_40 (by decide) (fun _ => ?_) (fun h9 => absurd (by decide) h9)
                        refine lv_iload hx hb d_MO_type_93 (lv_at hl 1 rfl) ?_
                        refine lv_if_ne (tgt := 100) hx hb d_MO_type_95 (by decide) (fun h9 => absurd (by decide) h9) (fun _ => ?_)
                        refine lv_iconst (v := (-1)) hx hb d_MO_type_98 (by decide) ?_
                        have hP9 := hP.sub (ws' := [(m0, .inr (9, [.int 0, .ref f_text, .int 0, .int (-1), .ref f_kinds, .ref f_places, .ref f_values, .int 0, .ref f_draftLetters, .int 0, .int 0, .int 0, .ref f_draftNumbers, .ref f_draftSigns, .int 0, .int 0, .int 0, .int 0, .ref f_letters, .ref f_numbers, .ref f_isList, .ref f_bounds, .ref f_sizes, .ref f_lists, .ref f_told, .ref f_costs, .int 0, .ref f_times, .int 0, .ref f_bestOne, .ref f_basis, .int 0, .ref f_one, .int 0, .ref f_along, .ref f_now]))]) [0] rfl
                        have hD9 := hD.sub (ws' := [(m0, .inr (9, [.int 0, .ref f_text, .int 0, .int (-1), .ref f_kinds, .ref f_places, .ref f_values, .int 0, .ref f_draftLetters, .int 0, .int 0, .int 0, .ref f_draftNumbers, .ref f_draftSigns, .int 0, .int 0, .int 0, .int 0, .ref f_letters, .ref f_numbers, .ref f_isList, .ref f_bounds, .ref f_sizes, .ref f_lists, .ref f_told, .ref f_costs, .int 0, .ref f_times, .int 0, .ref f_bestOne, .ref f_basis, .int 0, .ref f_one, .int 0, .ref f_along, .ref f_now]))]) [0] (by decide) rfl
                        have hK9 := hK.sub (tys' := []) [] rfl
                        exact W.iret (v := (-1)) hx hb hr (fun t ht hW => ⟨⟨(-1), (), rfl, rfl, by rw [ht]; exact hP9, va_K.moved hW.alike hK9, hD9⟩, hS.F ht⟩) hS.2.2 d_MO_type_99
                      · refine lv_lload hx hb d_MO_type_71 (lv_at hl 0 rfl) ?_
                        refine lv_ldc2 (v := 126) hx hb hown (hts _ k_1006) d_MO_type_73 ?_
                        refine W.lcmp hx hb d_MO_type_76 ?_
                        refine lv_if_gt (tgt := 84) hx hb d_MO_type_77 (by decide) (fun hc12 => ?_) (fun hc12 => ?_)
                        · refine lv_iconst (v := 0) hx hb d_MO_type_84 (by decide) ?_
                          refine lv_istore hx hb d_MO_type_85 hl (by decide) rfl (fun ls hl => ?_)
                          have hl : lv_has ls 8 [(4, .int 0), (6, .long (bm x 5)), (5, .int 5), (0, .ref m0), (1, .long x), (3, .int 8)] := hl
                          refine lv_iinc (k := 2) (v := 6) hx hb d_MO_type_87 hl rfl (by decide) (by decide) rfl (fun ls hl => ?_)
                          have hl : lv_has ls 8 [(5, .int 6), (4, .int 0), (6, .long (bm x 5)), (0, .ref m0), (1, .long x), (3, .int 8)] := hl
                          refine lv_goto (tgt := 38) hx hb d_MO_type_90 (by decide) ?_
                          refine lv_iload hx hb d_MO_type_38 (lv_at hl 1 rfl) ?_
                          refine lv_if_eq (tgt := 93) hx hb d_MO_type_40 (by decide) (fun _ => ?_) (fun h9 => absurd (by decide) h9)
                          refine lv_iload hx hb d_MO_type_93 (lv_at hl 1 rfl) ?_
                          refine lv_if_ne (tgt := 100) hx hb d_MO_type_95 (by decide) (fun h9 => absurd (by decide) h9) (fun _ => ?_)
                          refine lv_iconst (v := (-1)) hx hb d_MO_type_98 (by decide) ?_
                          have hP9 := hP.sub (ws' := [(m0, .inr (9, [.int 0, .ref f_text, .int 0, .int (-1), .ref f_kinds, .ref f_places, .ref f_values, .int 0, .ref f_draftLetters, .int 0, .int 0, .int 0, .ref f_draftNumbers, .ref f_draftSigns, .int 0, .int 0, .int 0, .int 0, .ref f_letters, .ref f_numbers, .ref f_isList, .ref f_bounds, .ref f_sizes, .ref f_lists, .ref f_told, .ref f_costs, .int 0, .ref f_times, .int 0, .ref f_bestOne, .ref f_basis, .int 0, .ref f_one, .int 0, .ref f_along, .ref f_now]))]) [0] rfl
                          have hD9 := hD.sub (ws' := [(m0, .inr (9, [.int 0, .ref f_text, .int 0, .int (-1), .ref f_kinds, .ref f_places, .ref f_values, .int 0, .ref f_draftLetters, .int 0, .int 0, .int 0, .ref f_draftNumbers, .ref f_draftSigns, .int 0, .int 0, .int 0, .int 0, .ref f_letters, .ref f_numbers, .ref f_isList, .ref f_bounds, .ref f_sizes, .ref f_lists, .ref f_told, .ref f_costs, .int 0, .ref f_times, .int 0, .ref f_bestOne, .ref f_basis, .int 0, .ref f_one, .int 0, .ref f_along, .ref f_now]))]) [0] (by decide) rfl
                          have hK9 := hK.sub (tys' := []) [] rfl
                          exact W.iret (v := (-1)) hx hb hr (fun t ht hW => ⟨⟨(-1), (), rfl, rfl, by rw [ht]; exact hP9, va_K.moved hW.alike hK9, hD9⟩, hS.F ht⟩) hS.2.2 d_MO_type_99
                        · refine lv_iconst (v := 1) hx hb d_MO_type_80 (by decide) ?_
                          refine lv_goto (tgt := 85) hx hb d_MO_type_81 (by decide) ?_
                          refine lv_istore hx hb d_MO_type_85 hl (by decide) rfl (fun ls hl => ?_)
                          have hl : lv_has ls 8 [(4, .int 1), (6, .long (bm x 5)), (5, .int 5), (0, .ref m0), (1, .long x), (3, .int 8)] := hl
                          refine lv_iinc (k := 2) (v := 6) hx hb d_MO_type_87 hl rfl (by decide) (by decide) rfl (fun ls hl => ?_)
                          have hl : lv_has ls 8 [(5, .int 6), (4, .int 1), (6, .long (bm x 5)), (0, .ref m0), (1, .long x), (3, .int 8)] := hl
                          refine lv_goto (tgt := 38) hx hb d_MO_type_90 (by decide) ?_
                          refine lv_iload hx hb d_MO_type_38 (lv_at hl 1 rfl) ?_
                          refine lv_if_eq (tgt := 93) hx hb d_MO_type_40 (by decide) (fun h9 => absurd h9 (by decide)) (fun _ => ?_)
                          refine lv_iload hx hb d_MO_type_43 (lv_at hl 0 rfl) ?_
                          refine lv_iload_n hx hb d_MO_type_45 rfl (lv_at hl 5 rfl) ?_
                          refine lv_icmp_ge (tgt := 93) hx hb d_MO_type_46 (by decide) (fun h9 => absurd h9 (by decide)) (fun _ => ?_)
                          refine lv_lload_n hx hb d_MO_type_49 rfl (lv_at hl 4 rfl) ?_
                          refine lv_bipush (v := 8) hx hb d_MO_type_50 (by decide) ?_
                          refine lv_iload hx hb d_MO_type_52 (lv_at hl 0 rfl) ?_
                          refine lv_imul hx hb d_MO_type_54 ?_
                          refine lv_lshr (v := (x >>> (((8 * 6) : Int32).toInt64 &&& 63))) hx hb d_MO_type_55 rfl ?_
                          refine lv_ldc2 (v := 255) hx hb hown (hts _ k_1004) d_MO_type_56 ?_
                          refine lv_land hx hb d_MO_type_59 ?_
                          refine W.eq (g2 := F0 m 60 ls [.long (bm x 6)]) rfl ?_
                          refine lv_lstore hx hb d_MO_type_60 hl (by decide) rfl (fun ls hl => ?_)
                          have hl : lv_has ls 8 [(6, .long (bm x 6)), (5, .int 6), (4, .int 1), (0, .ref m0), (1, .long x), (3, .int 8)] := hl
                          refine lv_lload hx hb d_MO_type_62 (lv_at hl 0 rfl) ?_
                          refine lv_ldc2 (v := 32) hx hb hown (hts _ k_1005) d_MO_type_64 ?_
                          refine W.lcmp hx hb d_MO_type_67 ?_
                          refine lv_if_lt (tgt := 84) hx hb d_MO_type_68 (by decide) (fun hc13 => ?_) (fun hc13 => ?_)
                          · refine lv_iconst (v := 0) hx hb d_MO_type_84 (by decide) ?_
                            refine lv_istore hx hb d_MO_type_85 hl (by decide) rfl (fun ls hl => ?_)
                            have hl : lv_has ls 8 [(4, .int 0), (6, .long (bm x 6)), (5, .int 6), (0, .ref m0), (1, .long x), (3, .int 8)] := hl
                            refine lv_iinc (k := 2) (v := 7) hx hb d_MO_type_87 hl rfl (by decide) (by decide) rfl (fun ls hl => ?_)
                            have hl : lv_has ls 8 [(5, .int 7), (4, .int 0), (6, .long (bm x 6)), (0, .ref m0), (1, .long x), (3, .int 8)] := hl
                            refine lv_goto (tgt := 38) hx hb d_MO_type_90 (by decide) ?_
                            refine lv_iload hx hb d_MO_type_38 (lv_at hl 1 rfl) ?_
                            refine lv_if_eq (tgt := 93) hx hb d_MO_type_40 (by decide) (fun _ => ?_) (fun h9 => absurd (by decide) h9)
                            refine lv_iload hx hb d_MO_type_93 (lv_at hl 1 rfl) ?_
                            refine lv_if_ne (tgt := 100) hx hb d_MO_type_95 (by decide) (fun h9 => absurd (by decide) h9) (fun _ => ?_)
                            refine lv_iconst (v := (-1)) hx hb d_MO_type_98 (by decide) ?_
                            have hP9 := hP.sub (ws' := [(m0, .inr (9, [.int 0, .ref f_text, .int 0, .int (-1), .ref f_kinds, .ref f_places, .ref f_values, .int 0, .ref f_draftLetters, .int 0, .int 0, .int 0, .ref f_draftNumbers, .ref f_draftSigns, .int 0, .int 0, .int 0, .int 0, .ref f_letters, .ref f_numbers, .ref f_isList, .ref f_bounds, .ref f_sizes, .ref f_lists, .ref f_told, .ref f_costs, .int 0, .ref f_times, .int 0, .ref f_bestOne, .ref f_basis, .int 0, .ref f_one, .int 0, .ref f_along, .ref f_now]))]) [0] rfl
                            have hD9 := hD.sub (ws' := [(m0, .inr (9, [.int 0, .ref f_text, .int 0, .int (-1), .ref f_kinds, .ref f_places, .ref f_values, .int 0, .ref f_draftLetters, .int 0, .int 0, .int 0, .ref f_draftNumbers, .ref f_draftSigns, .int 0, .int 0, .int 0, .int 0, .ref f_letters, .ref f_numbers, .ref f_isList, .ref f_bounds, .ref f_sizes, .ref f_lists, .ref f_told, .ref f_costs, .int 0, .ref f_times, .int 0, .ref f_bestOne, .ref f_basis, .int 0, .ref f_one, .int 0, .ref f_along, .ref f_now]))]) [0] (by decide) rfl
                            have hK9 := hK.sub (tys' := []) [] rfl
                            exact W.iret (v := (-1)) hx hb hr (fun t ht hW => ⟨⟨(-1), (), rfl, rfl, by rw [ht]; exact hP9, va_K.moved hW.alike hK9, hD9⟩, hS.F ht⟩) hS.2.2 d_MO_type_99
                          · refine lv_lload hx hb d_MO_type_71 (lv_at hl 0 rfl) ?_
                            refine lv_ldc2 (v := 126) hx hb hown (hts _ k_1006) d_MO_type_73 ?_
                            refine W.lcmp hx hb d_MO_type_76 ?_
                            refine lv_if_gt (tgt := 84) hx hb d_MO_type_77 (by decide) (fun hc14 => ?_) (fun hc14 => ?_)
                            · refine lv_iconst (v := 0) hx hb d_MO_type_84 (by decide) ?_
                              refine lv_istore hx hb d_MO_type_85 hl (by decide) rfl (fun ls hl => ?_)
                              have hl : lv_has ls 8 [(4, .int 0), (6, .long (bm x 6)), (5, .int 6), (0, .ref m0), (1, .long x), (3, .int 8)] := hl
                              refine lv_iinc (k := 2) (v := 7) hx hb d_MO_type_87 hl rfl (by decide) (by decide) rfl (fun ls hl => ?_)
                              have hl : lv_has ls 8 [(5, .int 7), (4, .int 0), (6, .long (bm x 6)), (0, .ref m0), (1, .long x), (3, .int 8)] := hl
                              refine lv_goto (tgt := 38) hx hb d_MO_type_90 (by decide) ?_
                              refine lv_iload hx hb d_MO_type_38 (lv_at hl 1 rfl) ?_
                              refine lv_if_eq (tgt := 93) hx hb d_MO_type_40 (by decide) (fun _ => ?_) (fun h9 => absurd (by decide) h9)
                              refine lv_iload hx hb d_MO_type_93 (lv_at hl 1 rfl) ?_
                              refine lv_if_ne (tgt := 100) hx hb d_MO_type_95 (by decide) (fun h9 => absurd (by decide) h9) (fun _ => ?_)
                              refine lv_iconst (v := (-1)) hx hb d_MO_type_98 (by decide) ?_
                              have hP9 := hP.sub (ws' := [(m0, .inr (9, [.int 0, .ref f_text, .int 0, .int (-1), .ref f_kinds, .ref f_places, .ref f_values, .int 0, .ref f_draftLetters, .int 0, .int 0, .int 0, .ref f_draftNumbers, .ref f_draftSigns, .int 0, .int 0, .int 0, .int 0, .ref f_letters, .ref f_numbers, .ref f_isList, .ref f_bounds, .ref f_sizes, .ref f_lists, .ref f_told, .ref f_costs, .int 0, .ref f_times, .int 0, .ref f_bestOne, .ref f_basis, .int 0, .ref f_one, .int 0, .ref f_along, .ref f_now]))]) [0] rfl
                              have hD9 := hD.sub (ws' := [(m0, .inr (9, [.int 0, .ref f_text, .int 0, .int (-1), .ref f_kinds, .ref f_places, .ref f_values, .int 0, .ref f_draftLetters, .int 0, .int 0, .int 0, .ref f_draftNumbers, .ref f_draftSigns, .int 0, .int 0, .int 0, .int 0, .ref f_letters, .ref f_numbers, .ref f_isList, .ref f_bounds, .ref f_sizes, .ref f_lists, .ref f_told, .ref f_costs, .int 0, .ref f_times, .int 0, .ref f_bestOne, .ref f_basis, .int 0, .ref f_one, .int 0, .ref f_along, .ref f_now]))]) [0] (by decide) rfl
                              have hK9 := hK.sub (tys' := []) [] rfl
                              exact W.iret (v := (-1)) hx hb hr (fun t ht hW => ⟨⟨(-1), (), rfl, rfl, by rw [ht]; exact hP9, va_K.moved hW.alike hK9, hD9⟩, hS.F ht⟩) hS.2.2 d_MO_type_99
                            · refine lv_iconst (v := 1) hx hb d_MO_type_80 (by decide) ?_
                              refine lv_goto (tgt := 85) hx hb d_MO_type_81 (by decide) ?_
                              refine lv_istore hx hb d_MO_type_85 hl (by decide) rfl (fun ls hl => ?_)
                              have hl : lv_has ls 8 [(4, .int 1), (6, .long (bm x 6)), (5, .int 6), (0, .ref m0), (1, .long x), (3, .int 8)] := hl
                              refine lv_iinc (k := 2) (v := 7) hx hb d_MO_type_87 hl rfl (by decide) (by decide) rfl (fun ls hl => ?_)
                              have hl : lv_has ls 8 [(5, .int 7), (4, .int 1), (6, .long (bm x 6)), (0, .ref m0), (1, .long x), (3, .int 8)] := hl
                              refine lv_goto (tgt := 38) hx hb d_MO_type_90 (by decide) ?_
                              refine lv_iload hx hb d_MO_type_38 (lv_at hl 1 rfl) ?_
                              refine lv_if_eq (tgt := 93) hx hb d_MO_type_40 (by decide) (fun h9 => absurd h9 (by decide)) (fun _ => ?_)
                              refine lv_iload hx hb d_MO_type_43 (lv_at hl 0 rfl) ?_
                              refine lv_iload_n hx hb d_MO_type_45 rfl (lv_at hl 5 rfl) ?_
                              refine lv_icmp_ge (tgt := 93) hx hb d_MO_type_46 (by decide) (fun h9 => absurd h9 (by decide)) (fun _ => ?_)
                              refine lv_lload_n hx hb d_MO_type_49 rfl (lv_at hl 4 rfl) ?_
                              refine lv_bipush (v := 8) hx hb d_MO_type_50 (by decide) ?_
                              refine lv_iload hx hb d_MO_type_52 (lv_at hl 0 rfl) ?_
                              refine lv_imul hx hb d_MO_type_54 ?_
                              refine lv_lshr (v := (x >>> (((8 * 7) : Int32).toInt64 &&& 63))) hx hb d_MO_type_55 rfl ?_
                              refine lv_ldc2 (v := 255) hx hb hown (hts _ k_1004) d_MO_type_56 ?_
                              refine lv_land hx hb d_MO_type_59 ?_
                              refine W.eq (g2 := F0 m 60 ls [.long (bm x 7)]) rfl ?_
                              refine lv_lstore hx hb d_MO_type_60 hl (by decide) rfl (fun ls hl => ?_)
                              have hl : lv_has ls 8 [(6, .long (bm x 7)), (5, .int 7), (4, .int 1), (0, .ref m0), (1, .long x), (3, .int 8)] := hl
                              refine lv_lload hx hb d_MO_type_62 (lv_at hl 0 rfl) ?_
                              refine lv_ldc2 (v := 32) hx hb hown (hts _ k_1005) d_MO_type_64 ?_
                              refine W.lcmp hx hb d_MO_type_67 ?_
                              refine lv_if_lt (tgt := 84) hx hb d_MO_type_68 (by decide) (fun hc15 => ?_) (fun hc15 => ?_)
                              · refine lv_iconst (v := 0) hx hb d_MO_type_84 (by decide) ?_
                                refine lv_istore hx hb d_MO_type_85 hl (by decide) rfl (fun ls hl => ?_)
                                have hl : lv_has ls 8 [(4, .int 0), (6, .long (bm x 7)), (5, .int 7), (0, .ref m0), (1, .long x), (3, .int 8)] := hl
                                refine lv_iinc (k := 2) (v := 8) hx hb d_MO_type_87 hl rfl (by decide) (by decide) rfl (fun ls hl => ?_)
                                have hl : lv_has ls 8 [(5, .int 8), (4, .int 0), (6, .long (bm x 7)), (0, .ref m0), (1, .long x), (3, .int 8)] := hl
                                refine lv_goto (tgt := 38) hx hb d_MO_type_90 (by decide) ?_
                                refine lv_iload hx hb d_MO_type_38 (lv_at hl 1 rfl) ?_
                                refine lv_if_eq (tgt := 93) hx hb d_MO_type_40 (by decide) (fun _ => ?_) (fun h9 => absurd (by decide) h9)
                                refine lv_iload hx hb d_MO_type_93 (lv_at hl 1 rfl) ?_
                                refine lv_if_ne (tgt := 100) hx hb d_MO_type_95 (by decide) (fun h9 => absurd (by decide) h9) (fun _ => ?_)
                                refine lv_iconst (v := (-1)) hx hb d_MO_type_98 (by decide) ?_
                                have hP9 := hP.sub (ws' := [(m0, .inr (9, [.int 0, .ref f_text, .int 0, .int (-1), .ref f_kinds, .ref f_places, .ref f_values, .int 0, .ref f_draftLetters, .int 0, .int 0, .int 0, .ref f_draftNumbers, .ref f_draftSigns, .int 0, .int 0, .int 0, .int 0, .ref f_letters, .ref f_numbers, .ref f_isList, .ref f_bounds, .ref f_sizes, .ref f_lists, .ref f_told, .ref f_costs, .int 0, .ref f_times, .int 0, .ref f_bestOne, .ref f_basis, .int 0, .ref f_one, .int 0, .ref f_along, .ref f_now]))]) [0] rfl
                                have hD9 := hD.sub (ws' := [(m0, .inr (9, [.int 0, .ref f_text, .int 0, .int (-1), .ref f_kinds, .ref f_places, .ref f_values, .int 0, .ref f_draftLetters, .int 0, .int 0, .int 0, .ref f_draftNumbers, .ref f_draftSigns, .int 0, .int 0, .int 0, .int 0, .ref f_letters, .ref f_numbers, .ref f_isList, .ref f_bounds, .ref f_sizes, .ref f_lists, .ref f_told, .ref f_costs, .int 0, .ref f_times, .int 0, .ref f_bestOne, .ref f_basis, .int 0, .ref f_one, .int 0, .ref f_along, .ref f_now]))]) [0] (by decide) rfl
                                have hK9 := hK.sub (tys' := []) [] rfl
                                exact W.iret (v := (-1)) hx hb hr (fun t ht hW => ⟨⟨(-1), (), rfl, rfl, by rw [ht]; exact hP9, va_K.moved hW.alike hK9, hD9⟩, hS.F ht⟩) hS.2.2 d_MO_type_99
                              · refine lv_lload hx hb d_MO_type_71 (lv_at hl 0 rfl) ?_
                                refine lv_ldc2 (v := 126) hx hb hown (hts _ k_1006) d_MO_type_73 ?_
                                refine W.lcmp hx hb d_MO_type_76 ?_
                                refine lv_if_gt (tgt := 84) hx hb d_MO_type_77 (by decide) (fun hc16 => ?_) (fun hc16 => ?_)
                                · refine lv_iconst (v := 0) hx hb d_MO_type_84 (by decide) ?_
                                  refine lv_istore hx hb d_MO_type_85 hl (by decide) rfl (fun ls hl => ?_)
                                  have hl : lv_has ls 8 [(4, .int 0), (6, .long (bm x 7)), (5, .int 7), (0, .ref m0), (1, .long x), (3, .int 8)] := hl
                                  refine lv_iinc (k := 2) (v := 8) hx hb d_MO_type_87 hl rfl (by decide) (by decide) rfl (fun ls hl => ?_)
                                  have hl : lv_has ls 8 [(5, .int 8), (4, .int 0), (6, .long (bm x 7)), (0, .ref m0), (1, .long x), (3, .int 8)] := hl
                                  refine lv_goto (tgt := 38) hx hb d_MO_type_90 (by decide) ?_
                                  refine lv_iload hx hb d_MO_type_38 (lv_at hl 1 rfl) ?_
                                  refine lv_if_eq (tgt := 93) hx hb d_MO_type_40 (by decide) (fun _ => ?_) (fun h9 => absurd (by decide) h9)
                                  refine lv_iload hx hb d_MO_type_93 (lv_at hl 1 rfl) ?_
                                  refine lv_if_ne (tgt := 100) hx hb d_MO_type_95 (by decide) (fun h9 => absurd (by decide) h9) (fun _ => ?_)
                                  refine lv_iconst (v := (-1)) hx hb d_MO_type_98 (by decide) ?_
                                  have hP9 := hP.sub (ws' := [(m0, .inr (9, [.int 0, .ref f_text, .int 0, .int (-1), .ref f_kinds, .ref f_places, .ref f_values, .int 0, .ref f_draftLetters, .int 0, .int 0, .int 0, .ref f_draftNumbers, .ref f_draftSigns, .int 0, .int 0, .int 0, .int 0, .ref f_letters, .ref f_numbers, .ref f_isList, .ref f_bounds, .ref f_sizes, .ref f_lists, .ref f_told, .ref f_costs, .int 0, .ref f_times, .int 0, .ref f_bestOne, .ref f_basis, .int 0, .ref f_one, .int 0, .ref f_along, .ref f_now]))]) [0] rfl
                                  have hD9 := hD.sub (ws' := [(m0, .inr (9, [.int 0, .ref f_text, .int 0, .int (-1), .ref f_kinds, .ref f_places, .ref f_values, .int 0, .ref f_draftLetters, .int 0, .int 0, .int 0, .ref f_draftNumbers, .ref f_draftSigns, .int 0, .int 0, .int 0, .int 0, .ref f_letters, .ref f_numbers, .ref f_isList, .ref f_bounds, .ref f_sizes, .ref f_lists, .ref f_told, .ref f_costs, .int 0, .ref f_times, .int 0, .ref f_bestOne, .ref f_basis, .int 0, .ref f_one, .int 0, .ref f_along, .ref f_now]))]) [0] (by decide) rfl
                                  have hK9 := hK.sub (tys' := []) [] rfl
                                  exact W.iret (v := (-1)) hx hb hr (fun t ht hW => ⟨⟨(-1), (), rfl, rfl, by rw [ht]; exact hP9, va_K.moved hW.alike hK9, hD9⟩, hS.F ht⟩) hS.2.2 d_MO_type_99
                                · refine lv_iconst (v := 1) hx hb d_MO_type_80 (by decide) ?_
                                  refine lv_goto (tgt := 85) hx hb d_MO_type_81 (by decide) ?_
                                  refine lv_istore hx hb d_MO_type_85 hl (by decide) rfl (fun ls hl => ?_)
                                  have hl : lv_has ls 8 [(4, .int 1), (6, .long (bm x 7)), (5, .int 7), (0, .ref m0), (1, .long x), (3, .int 8)] := hl
                                  refine lv_iinc (k := 2) (v := 8) hx hb d_MO_type_87 hl rfl (by decide) (by decide) rfl (fun ls hl => ?_)
                                  have hl : lv_has ls 8 [(5, .int 8), (4, .int 1), (6, .long (bm x 7)), (0, .ref m0), (1, .long x), (3, .int 8)] := hl
                                  refine lv_goto (tgt := 38) hx hb d_MO_type_90 (by decide) ?_
                                  refine lv_iload hx hb d_MO_type_38 (lv_at hl 1 rfl) ?_
                                  refine lv_if_eq (tgt := 93) hx hb d_MO_type_40 (by decide) (fun h9 => absurd h9 (by decide)) (fun _ => ?_)
                                  refine lv_iload hx hb d_MO_type_43 (lv_at hl 0 rfl) ?_
                                  refine lv_iload_n hx hb d_MO_type_45 rfl (lv_at hl 5 rfl) ?_
                                  refine lv_icmp_ge (tgt := 93) hx hb d_MO_type_46 (by decide) (fun _ => ?_) (fun h9 => absurd (by decide) h9)
                                  refine lv_iload hx hb d_MO_type_93 (lv_at hl 1 rfl) ?_
                                  refine lv_if_ne (tgt := 100) hx hb d_MO_type_95 (by decide) (fun _ => ?_) (fun h9 => absurd h9 (by decide))
                                  exact absurd ⟨okm (d := 0) (by decide +kernel) (by decide) hc1 hc2, okm (d := 8) (by decide +kernel) (by decide) hc3 hc4, okm (d := 16) (by decide +kernel) (by decide) hc5 hc6, okm (d := 24) (by decide +kernel) (by decide) hc7 hc8, okm (d := 32) (by decide +kernel) (by decide) hc9 hc10, okm (d := 40) (by decide +kernel) (by decide) hc11 hc12, okm (d := 48) (by decide +kernel) (by decide) hc13 hc14, okm (d := 56) (by decide +kernel) (by decide) hc15 hc16⟩ g
