noncomputable def fn_CH_begin_b0 (a1 : Int32) (v_ch_columns : Int32) (v_ch_isFound : Int32) : Option ((Nat × Int32 × Int32) ⊕ (Int32 × Int32)) := some (.inr (a1, 0))
noncomputable def fn_CH_begin (a1 : Int32) : Nat × Int32 × Int32 → Option ((Nat × Int32 × Int32) ⊕ (Int32 × Int32)) := fun st => match st with
  | (pc, w_ch_columns, w_ch_isFound) => if pc = 0 then fn_CH_begin_b0 a1 w_ch_columns w_ch_isFound else none
theorem fn_CH_begin_q0 (a1 : Int32) (w_ch_columns : Int32) (w_ch_isFound : Int32) : fn_CH_begin a1 (0, w_ch_columns, w_ch_isFound) = fn_CH_begin_b0 a1 w_ch_columns w_ch_isFound := by simp [fn_CH_begin]
set_option maxHeartbeats 4000000 in
set_option maxRecDepth 100000 in
theorem c_CH_begin (l : Launch) (dC : Nat → ClassId) (dI : Nat → Nat → Nat) (a_ch : Nat) (f_ch_vector : Nat) (f_ch_costs : Nat) (v_ch_columns : Int32) (v_ch_price : Int32) (v_ch_isFound : Int32) (a1 : Int32) (sz : Nat) (out : Int32 × Int32) (hs : sm_tot (fn_CH_begin a1) (0, v_ch_columns, v_ch_isFound) = some out) : Met l y_CH_begin (Cond.code y_CH_begin b_CH_begin 2 (Option.none : Option Jvm.ClassFile.FieldType) :: wd) { frames := 0, cells := 0, slots := 0, locals := 0 } (va_Pc [.ref a_ch, .int a1] (fun U => U.heap.size = sz ∧ va_P (dC, dI) cls [(a_ch, .inr (8, [.ref f_ch_vector, .ref f_ch_costs, .int v_ch_columns, .int v_ch_price, .int v_ch_isFound]))] U.heap ∧ va_K (dC, dI) cls [] U ∧ va_D (fun _ => True) [(a_ch, .inr (8, [.ref f_ch_vector, .ref f_ch_costs, .int v_ch_columns, .int v_ch_price, .int v_ch_isFound]))] ∧ nw_ok U)) (va_Qv (fun _ : Unit => True) (fun (_ : Unit) t => va_P (dC, dI) cls [(a_ch, .inr (8, [.ref f_ch_vector, .ref f_ch_costs, .int out.1, .int v_ch_price, .int out.2]))] t.heap ∧ va_K (dC, dI) cls [] t ∧ va_D (va_A [(a_ch, .inr (8, [.ref f_ch_vector, .ref f_ch_costs, .int v_ch_columns, .int v_ch_price, .int v_ch_isFound]))] sz) [(a_ch, .inr (8, [.ref f_ch_vector, .ref f_ch_costs, .int out.1, .int v_ch_price, .int out.2]))]) (va_A [(a_ch, .inr (8, [.ref f_ch_vector, .ref f_ch_costs, .int v_ch_columns, .int v_ch_price, .int v_ch_isFound]))] sz)) 0 0 (va_A [(a_ch, .inr (8, [.ref f_ch_vector, .ref f_ch_costs, .int v_ch_columns, .int v_ch_price, .int v_ch_isFound]))] sz) := by
  refine Met.ofW (cc := b_CH_begin) (maxL := 2) (ret := (Option.none : Option Jvm.ClassFile.FieldType)) (by decide) rfl ?_
  intro p e s m args below meth c s₁ B hml hv
  obtain ⟨rfl, hsz, hP, hK, hD0, hN⟩ := hv
  have hx := B.exec
  have hb := B.bytes
  have hr := B.returns
  have hlocks := B.notSynchronized
  have hts : ∀ w ∈ wd, w.before ([.ref a_ch, .int a1] : List Value).toArray s = true := fun w hw => atoms_spec (ws := (Cond.code y_CH_begin b_CH_begin 2 (Option.none : Option Jvm.ClassFile.FieldType) :: wd)) B.pre w (List.mem_cons_of_mem _ hw)
  have hown : s.vm.findClass "LeastSolutions$Cheapest" = some m.cls := findClass_of_methodNamed B.named
  subst hsz
  have hD := hD0.self (sz := s.heap.size)
  generalize hAe : va_A [(a_ch, .inr (8, [.ref f_ch_vector, .ref f_ch_costs, .int v_ch_columns, .int v_ch_price, .int v_ch_isFound]))] s.heap.size = A at hD ⊢
  have hA : ∀ q : Nat, s.heap.size ≤ q → A q := fun q h => by rw [← hAe]; exact Or.inr h
  have hS : va_S A s.heap s.heap [] := va_S.rf
  have hl := lv_entry ([.ref a_ch, .int a1]) (n := 2) (Nat.le_of_ble_eq_true rfl)
  rw [lg_entry_eq]
  generalize (lg_sl ([.ref a_ch, .int a1]) ++ List.replicate (2 - (lg_sl ([.ref a_ch, .int a1])).length) Slot.unset).toArray = ls at hl ⊢
  have hl : lv_has ls 2 [(0, .ref a_ch), (1, .int a1)] := hl
  obtain ⟨k8, hs⟩ := sm_of hs
  cases k8 with
  | zero => cases hs
  | succ k9 =>
    rw [sm_it_succ, fn_CH_begin_q0] at hs
    unfold fn_CH_begin_b0 at hs
    refine lv_aload_n hx hb d_CH_begin_0 rfl (lv_at hl 0 rfl) ?_
    refine lv_iload_n hx hb d_CH_begin_1 rfl (lv_at hl 1 rfl) ?_
    refine va_put (D := (dC, dI)) (ci := 8) (v := .int a1) (ty := .int) (C := R_CH) (T := T_CH) (N := 5) hx hb hts in_CH t_CH t_CH_ok n_CH hown hK hP hD hS 0 rfl rfl 2 (by decide) (hts _ k_244) (fun _ h9 => h9) rfl (by decide +kernel) rfl rfl (Nat.le_of_ble_eq_true rfl) d_CH_begin_2 (fun H1 locs hP hD hS => ?_)
    have hP : va_P (dC, dI) cls [(a_ch, .inr (8, [.ref f_ch_vector, .ref f_ch_costs, .int a1, .int v_ch_price, .int v_ch_isFound]))] H1 := hP
    have hD : va_D A [(a_ch, .inr (8, [.ref f_ch_vector, .ref f_ch_costs, .int a1, .int v_ch_price, .int v_ch_isFound]))] := hD
    refine lv_aload_n hx hb d_CH_begin_5 rfl (lv_at hl 0 rfl) ?_
    refine lv_iconst (v := 0) hx hb d_CH_begin_6 (by decide) ?_
    refine va_put (D := (dC, dI)) (ci := 8) (v := .int 0) (ty := .boolean) (C := R_CH) (T := T_CH) (N := 5) hx hb hts in_CH t_CH t_CH_ok n_CH hown hK hP hD hS 0 rfl rfl 4 (by decide) (hts _ k_247) (fun _ h9 => h9) rfl (by decide +kernel) (by decide +kernel) (by decide +kernel) (Nat.le_of_ble_eq_true rfl) d_CH_begin_7 (fun H2 locs hP hD hS => ?_)
    have hP : va_P (dC, dI) cls [(a_ch, .inr (8, [.ref f_ch_vector, .ref f_ch_costs, .int a1, .int v_ch_price, .int 0]))] H2 := hP
    have hD : va_D A [(a_ch, .inr (8, [.ref f_ch_vector, .ref f_ch_costs, .int a1, .int v_ch_price, .int 0]))] := hD
    have he := sm_end hs
    subst he
    exact W.vret hx hb hr (fun t ht hW => ⟨⟨(), rfl, trivial, by rw [ht]; exact hP, va_K.moved hW.alike hK, hD⟩, hS.F ht⟩) hS.2.2 d_CH_begin_10

noncomputable def fn_CH_beginSize_b0   : Option ((Nat) ⊕ (Unit)) := some (.inr ())
noncomputable def fn_CH_beginSize  : Nat → Option ((Nat) ⊕ (Unit)) := fun st => match st with
  | pc => if pc = 0 then fn_CH_beginSize_b0 else none
theorem fn_CH_beginSize_q0   : fn_CH_beginSize (0) = fn_CH_beginSize_b0 := by simp [fn_CH_beginSize]
set_option maxHeartbeats 4000000 in
set_option maxRecDepth 100000 in
theorem c_CH_beginSize (l : Launch) (dC : Nat → ClassId) (dI : Nat → Nat → Nat) (a_ch : Nat) (f_ch_vector : Nat) (f_ch_costs : Nat) (v_ch_columns : Int32) (v_ch_price : Int32) (v_ch_isFound : Int32) (sz : Nat) (out : Unit) (hs : sm_tot (fn_CH_beginSize) 0 = some out) : Met l y_CH_beginSize (Cond.code y_CH_beginSize b_CH_beginSize 1 (Option.none : Option Jvm.ClassFile.FieldType) :: wd) { frames := 0, cells := 0, slots := 0, locals := 0 } (va_Pc [.ref a_ch] (fun U => U.heap.size = sz ∧ va_P (dC, dI) cls [(a_ch, .inr (8, [.ref f_ch_vector, .ref f_ch_costs, .int v_ch_columns, .int v_ch_price, .int v_ch_isFound]))] U.heap ∧ va_K (dC, dI) cls [] U ∧ va_D (fun _ => True) [(a_ch, .inr (8, [.ref f_ch_vector, .ref f_ch_costs, .int v_ch_columns, .int v_ch_price, .int v_ch_isFound]))] ∧ nw_ok U)) (va_Qv (fun _ : Unit => True) (fun (_ : Unit) t => va_P (dC, dI) cls [(a_ch, .inr (8, [.ref f_ch_vector, .ref f_ch_costs, .int v_ch_columns, .int v_ch_price, .int v_ch_isFound]))] t.heap ∧ va_K (dC, dI) cls [] t ∧ va_D (va_A [(a_ch, .inr (8, [.ref f_ch_vector, .ref f_ch_costs, .int v_ch_columns, .int v_ch_price, .int v_ch_isFound]))] sz) [(a_ch, .inr (8, [.ref f_ch_vector, .ref f_ch_costs, .int v_ch_columns, .int v_ch_price, .int v_ch_isFound]))]) (va_A [(a_ch, .inr (8, [.ref f_ch_vector, .ref f_ch_costs, .int v_ch_columns, .int v_ch_price, .int v_ch_isFound]))] sz)) 0 0 (va_A [(a_ch, .inr (8, [.ref f_ch_vector, .ref f_ch_costs, .int v_ch_columns, .int v_ch_price, .int v_ch_isFound]))] sz) := by
  refine Met.ofW (cc := b_CH_beginSize) (maxL := 1) (ret := (Option.none : Option Jvm.ClassFile.FieldType)) (by decide) rfl ?_
  intro p e s m args below meth c s₁ B hml hv
  obtain ⟨rfl, hsz, hP, hK, hD0, hN⟩ := hv
  have hx := B.exec
  have hb := B.bytes
  have hr := B.returns
  have hlocks := B.notSynchronized
  have hts : ∀ w ∈ wd, w.before ([.ref a_ch] : List Value).toArray s = true := fun w hw => atoms_spec (ws := (Cond.code y_CH_beginSize b_CH_beginSize 1 (Option.none : Option Jvm.ClassFile.FieldType) :: wd)) B.pre w (List.mem_cons_of_mem _ hw)
  have hown : s.vm.findClass "LeastSolutions$Cheapest" = some m.cls := findClass_of_methodNamed B.named
  subst hsz
  have hD := hD0.self (sz := s.heap.size)
  generalize hAe : va_A [(a_ch, .inr (8, [.ref f_ch_vector, .ref f_ch_costs, .int v_ch_columns, .int v_ch_price, .int v_ch_isFound]))] s.heap.size = A at hD ⊢
  have hA : ∀ q : Nat, s.heap.size ≤ q → A q := fun q h => by rw [← hAe]; exact Or.inr h
  have hS : va_S A s.heap s.heap [] := va_S.rf
  have hl := lv_entry ([.ref a_ch]) (n := 1) (Nat.le_of_ble_eq_true rfl)
  rw [lg_entry_eq]
  generalize (lg_sl ([.ref a_ch]) ++ List.replicate (1 - (lg_sl ([.ref a_ch])).length) Slot.unset).toArray = ls at hl ⊢
  have hl : lv_has ls 1 [(0, .ref a_ch)] := hl
  obtain ⟨k8, hs⟩ := sm_of hs
  cases k8 with
  | zero => cases hs
  | succ k9 =>
    rw [sm_it_succ, fn_CH_beginSize_q0] at hs
    unfold fn_CH_beginSize_b0 at hs
    have he := sm_end hs
    subst he
    exact W.vret hx hb hr (fun t ht hW => ⟨⟨(), rfl, trivial, by rw [ht]; exact hP, va_K.moved hW.alike hK, hD⟩, hS.F ht⟩) hS.2.2 d_CH_beginSize_0

noncomputable def fn_CH_priceOf_b0 (v_ch_columns : Int32) (c_ch_costs : Nat → Int32) (c_o1 : Nat → Int32) (_z0 : Int32) (_z1 : Int32) : Option ((Nat × Int32 × Int32) ⊕ (Int32)) := some (.inl (4, 0, 0))
noncomputable def fn_CH_priceOf_b4 (v_ch_columns : Int32) (c_ch_costs : Nat → Int32) (c_o1 : Nat → Int32) (x2i : Int32) (x3i : Int32) : Option ((Nat × Int32 × Int32) ⊕ (Int32)) := if (v_ch_columns : Int32) ≤ x3i then (some (.inr x2i)) else (if ¬ ((x3i : Int32) < 0 ∨ 6 ≤ (x3i : Int32).toNatClampNeg) then some (.inl (4, (x2i + ((c_ch_costs (x3i : Int32).toNatClampNeg) * (c_o1 (x3i : Int32).toNatClampNeg))), (x3i + 1))) else none)
noncomputable def fn_CH_priceOf (v_ch_columns : Int32) (c_ch_costs : Nat → Int32) (c_o1 : Nat → Int32) : Nat × Int32 × Int32 → Option ((Nat × Int32 × Int32) ⊕ (Int32)) := fun st => match st with
  | (pc, x2i, x3i) => if pc = 0 then fn_CH_priceOf_b0 v_ch_columns c_ch_costs c_o1 x2i x3i else if pc = 4 then fn_CH_priceOf_b4 v_ch_columns c_ch_costs c_o1 x2i x3i else none
theorem fn_CH_priceOf_q0 (v_ch_columns : Int32) (c_ch_costs : Nat → Int32) (c_o1 : Nat → Int32) (x2i : Int32) (x3i : Int32) : fn_CH_priceOf v_ch_columns c_ch_costs c_o1 (0, x2i, x3i) = fn_CH_priceOf_b0 v_ch_columns c_ch_costs c_o1 x2i x3i := by simp [fn_CH_priceOf]
theorem fn_CH_priceOf_q4 (v_ch_columns : Int32) (c_ch_costs : Nat → Int32) (c_o1 : Nat → Int32) (x2i : Int32) (x3i : Int32) : fn_CH_priceOf v_ch_columns c_ch_costs c_o1 (4, x2i, x3i) = fn_CH_priceOf_b4 v_ch_columns c_ch_costs c_o1 x2i x3i := by simp [fn_CH_priceOf]
set_option maxHeartbeats 4000000 in
set_option maxRecDepth 100000 in
theorem c_CH_priceOf (l : Launch) (dC : Nat → ClassId) (dI : Nat → Nat → Nat) (a_ch : Nat) (f_ch_vector : Nat) (f_ch_costs : Nat) (v_ch_columns : Int32) (v_ch_price : Int32) (v_ch_isFound : Int32) (k_ch_costs : ClassId) (c_ch_costs : Nat → Int32) (f_o1 : Nat) (k_o1 : ClassId) (c_o1 : Nat → Int32) (sz : Nat) (out : Int32) (hs : sm_tot (fn_CH_priceOf v_ch_columns c_ch_costs c_o1) (0, 0, 0) = some out) : Met l y_CH_priceOf (Cond.code y_CH_priceOf b_CH_priceOf 4 (Option.some Jvm.ClassFile.FieldType.int) :: wd) { frames := 0, cells := 0, slots := 0, locals := 0 } (va_Pc [.ref a_ch, .ref f_o1] (fun U => U.heap.size = sz ∧ va_P (dC, dI) cls [(a_ch, .inr (8, [.ref f_ch_vector, .ref f_ch_costs, .int v_ch_columns, .int v_ch_price, .int v_ch_isFound])), (f_ch_costs, .inl (k_ch_costs, 6, .inl c_ch_costs)), (f_o1, .inl (k_o1, 6, .inl c_o1))] U.heap ∧ va_K (dC, dI) cls [(k_ch_costs, .int), (k_o1, .int)] U ∧ va_D (fun _ => True) [(a_ch, .inr (8, [.ref f_ch_vector, .ref f_ch_costs, .int v_ch_columns, .int v_ch_price, .int v_ch_isFound])), (f_ch_costs, .inl (k_ch_costs, 6, .inl c_ch_costs)), (f_o1, .inl (k_o1, 6, .inl c_o1))] ∧ nw_ok U)) (va_Qi (fun r (_ : Unit) => r = out) (fun (_ : Unit) t => va_P (dC, dI) cls [(a_ch, .inr (8, [.ref f_ch_vector, .ref f_ch_costs, .int v_ch_columns, .int v_ch_price, .int v_ch_isFound])), (f_ch_costs, .inl (k_ch_costs, 6, .inl c_ch_costs)), (f_o1, .inl (k_o1, 6, .inl c_o1))] t.heap ∧ va_K (dC, dI) cls [(k_ch_costs, .int), (k_o1, .int)] t ∧ va_D (va_A [(a_ch, .inr (8, [.ref f_ch_vector, .ref f_ch_costs, .int v_ch_columns, .int v_ch_price, .int v_ch_isFound])), (f_ch_costs, .inl (k_ch_costs, 6, .inl c_ch_costs)), (f_o1, .inl (k_o1, 6, .inl c_o1))] sz) [(a_ch, .inr (8, [.ref f_ch_vector, .ref f_ch_costs, .int v_ch_columns, .int v_ch_price, .int v_ch_isFound])), (f_ch_costs, .inl (k_ch_costs, 6, .inl c_ch_costs)), (f_o1, .inl (k_o1, 6, .inl c_o1))]) (va_A [(a_ch, .inr (8, [.ref f_ch_vector, .ref f_ch_costs, .int v_ch_columns, .int v_ch_price, .int v_ch_isFound])), (f_ch_costs, .inl (k_ch_costs, 6, .inl c_ch_costs)), (f_o1, .inl (k_o1, 6, .inl c_o1))] sz)) 0 0 (va_A [(a_ch, .inr (8, [.ref f_ch_vector, .ref f_ch_costs, .int v_ch_columns, .int v_ch_price, .int v_ch_isFound])), (f_ch_costs, .inl (k_ch_costs, 6, .inl c_ch_costs)), (f_o1, .inl (k_o1, 6, .inl c_o1))] sz) := by
  refine Met.ofW (cc := b_CH_priceOf) (maxL := 4) (ret := (Option.some Jvm.ClassFile.FieldType.int)) (by decide) rfl ?_
  intro p e s m args below meth c s₁ B hml hv
  obtain ⟨rfl, hsz, hP, hK, hD0, hN⟩ := hv
  have hx := B.exec
  have hb := B.bytes
  have hr := B.returns
  have hlocks := B.notSynchronized
  have hts : ∀ w ∈ wd, w.before ([.ref a_ch, .ref f_o1] : List Value).toArray s = true := fun w hw => atoms_spec (ws := (Cond.code y_CH_priceOf b_CH_priceOf 4 (Option.some Jvm.ClassFile.FieldType.int) :: wd)) B.pre w (List.mem_cons_of_mem _ hw)
  have hown : s.vm.findClass "LeastSolutions$Cheapest" = some m.cls := findClass_of_methodNamed B.named
  subst hsz
  have hD := hD0.self (sz := s.heap.size)
  generalize hAe : va_A [(a_ch, .inr (8, [.ref f_ch_vector, .ref f_ch_costs, .int v_ch_columns, .int v_ch_price, .int v_ch_isFound])), (f_ch_costs, .inl (k_ch_costs, 6, .inl c_ch_costs)), (f_o1, .inl (k_o1, 6, .inl c_o1))] s.heap.size = A at hD ⊢
  have hA : ∀ q : Nat, s.heap.size ≤ q → A q := fun q h => by rw [← hAe]; exact Or.inr h
  have hS : va_S A s.heap s.heap [] := va_S.rf
  have hl := lv_entry ([.ref a_ch, .ref f_o1]) (n := 4) (Nat.le_of_ble_eq_true rfl)
  rw [lg_entry_eq]
  generalize (lg_sl ([.ref a_ch, .ref f_o1]) ++ List.replicate (4 - (lg_sl ([.ref a_ch, .ref f_o1])).length) Slot.unset).toArray = ls at hl ⊢
  have hl : lv_has ls 4 [(0, .ref a_ch), (1, .ref f_o1)] := hl
  obtain ⟨k8, hs⟩ := sm_of hs
  refine sm_key (fun R Q k9 => (∀ (H : Heap) (locs : List Loc) (ls : Array Slot) (x2i : Int32) (x3i : Int32), sm_it (fn_CH_priceOf v_ch_columns c_ch_costs c_o1) k9 (4, x2i, x3i) = some out → va_P (dC, dI) cls [(a_ch, .inr (8, [.ref f_ch_vector, .ref f_ch_costs, .int v_ch_columns, .int v_ch_price, .int v_ch_isFound])), (f_ch_costs, .inl (k_ch_costs, 6, .inl c_ch_costs)), (f_o1, .inl (k_o1, 6, .inl c_o1))] H → va_D A [(a_ch, .inr (8, [.ref f_ch_vector, .ref f_ch_costs, .int v_ch_columns, .int v_ch_price, .int v_ch_isFound])), (f_ch_costs, .inl (k_ch_costs, 6, .inl c_ch_costs)), (f_o1, .inl (k_o1, 6, .inl c_o1))] → va_S A s.heap H locs → lv_has ls 4 [(0, .ref a_ch), (1, .ref f_o1), (2, .int x2i), (3, .int x3i)] → W p l e R s m ([.ref a_ch, .ref f_o1] : List Value).toArray below meth c H locs 0 0 Q (F0 m 4 ls []))) ?_ ?_ ?_
  · exact fun _ _ _ _ _ hs => by cases hs
  · intro k9 ih
    skip
    intro H locs ls x2i x3i hs hP hD hS hl
    rw [sm_it_succ, fn_CH_priceOf_q4] at hs
    unfold fn_CH_priceOf_b4 at hs
    refine lv_iload_n hx hb d_CH_priceOf_4 rfl (lv_at hl 3 rfl) ?_
    refine lv_aload_n hx hb d_CH_priceOf_5 rfl (lv_at hl 0 rfl) ?_
    refine va_get (D := (dC, dI)) (ci := 8) (v := .int v_ch_columns) (C := R_CH) (T := T_CH) (N := 5) hx hb hts in_CH hown hK hP 0 rfl rfl 2 (by decide) (hts _ k_244) (fun _ h9 => h9) rfl d_CH_priceOf_6 ?_
    refine lv_icmp_ge (tgt := 31) hx hb d_CH_priceOf_9 (by decide) (fun hc1 => ?_) (fun hc1 => ?_)
    · have hs := sm_pos hc1 hs
      refine lv_iload_n hx hb d_CH_priceOf_31 rfl (lv_at hl 2 rfl) ?_
      have he := sm_end hs
      subst he
      exact W.iret (v := x2i) hx hb hr (fun t ht hW => ⟨⟨x2i, (), rfl, rfl, by rw [ht]; exact hP, va_K.moved hW.alike hK, hD⟩, hS.F ht⟩) hS.2.2 d_CH_priceOf_32
    · have hs := sm_neg hc1 hs
      refine lv_iload_n hx hb d_CH_priceOf_12 rfl (lv_at hl 2 rfl) ?_
      refine lv_aload_n hx hb d_CH_priceOf_13 rfl (lv_at hl 0 rfl) ?_
      refine va_get (D := (dC, dI)) (ci := 8) (v := .ref f_ch_costs) (C := R_CH) (T := T_CH) (N := 5) hx hb hts in_CH hown hK hP 0 rfl rfl 1 (by decide) (hts _ k_242) (fun _ h9 => h9) rfl d_CH_priceOf_14 ?_
      refine lv_iload_n hx hb d_CH_priceOf_17 rfl (lv_at hl 3 rfl) ?_
      obtain ⟨hg1, hs⟩ := sm_gd hs
      refine va_iald hx hb hK hP 1 0 rfl rfl hg1 d_CH_priceOf_18 ?_
      refine lv_aload_n hx hb d_CH_priceOf_19 rfl (lv_at hl 1 rfl) ?_
      refine lv_iload_n hx hb d_CH_priceOf_20 rfl (lv_at hl 3 rfl) ?_
      refine va_iald hx hb hK hP 2 1 rfl rfl hg1 d_CH_priceOf_21 ?_
      refine lv_imul hx hb d_CH_priceOf_22 ?_
      refine lv_iadd hx hb d_CH_priceOf_23 ?_
      refine lv_istore_n hx hb d_CH_priceOf_24 rfl hl (by decide) rfl (fun ls hl => ?_)
      have hl : lv_has ls 4 [(2, .int (x2i + ((c_ch_costs (x3i : Int32).toNatClampNeg) * (c_o1 (x3i : Int32).toNatClampNeg)))), (0, .ref a_ch), (1, .ref f_o1), (3, .int x3i)] := hl
      refine lv_iinc (k := 3) (v := (x3i + 1)) hx hb d_CH_priceOf_25 hl rfl (congrArg (fun z : Int32 => x3i + z) (by decide : Int32.ofInt 1 = 1)) (by decide) rfl (fun ls hl => ?_)
      have hl : lv_has ls 4 [(3, .int (x3i + 1)), (2, .int (x2i + ((c_ch_costs (x3i : Int32).toNatClampNeg) * (c_o1 (x3i : Int32).toNatClampNeg)))), (0, .ref a_ch), (1, .ref f_o1)] := hl
      refine lv_goto (tgt := 4) hx hb d_CH_priceOf_28 (by decide) ?_
      exact ih _ _ _ _ _ hs hP hD hS (lv_sub hl [2, 3, 1, 0] rfl)
  · intro key
    cases k8 with
    | zero => cases hs
    | succ k9 =>
      rw [sm_it_succ, fn_CH_priceOf_q0] at hs
      unfold fn_CH_priceOf_b0 at hs
      refine lv_iconst (v := 0) hx hb d_CH_priceOf_0 (by decide) ?_
      refine lv_istore_n hx hb d_CH_priceOf_1 rfl hl (by decide) rfl (fun ls hl => ?_)
      have hl : lv_has ls 4 [(2, .int 0), (0, .ref a_ch), (1, .ref f_o1)] := hl
      refine lv_iconst (v := 0) hx hb d_CH_priceOf_2 (by decide) ?_
      refine lv_istore_n hx hb d_CH_priceOf_3 rfl hl (by decide) rfl (fun ls hl => ?_)
      have hl : lv_has ls 4 [(3, .int 0), (2, .int 0), (0, .ref a_ch), (1, .ref f_o1)] := hl
      exact (key k9) _ _ _ _ _ hs hP hD hS (lv_sub hl [2, 3, 1, 0] rfl)

noncomputable def fn_CH_isBefore_b0 (v_ch_columns : Int32) (c_ch_vector : Nat → Int32) (c_o1 : Nat → Int32) (_z0 : Int32) (_z1 : Int32) : Option ((Nat × Int32 × Int32) ⊕ (Int32)) := some (.inl (2, 0, 0))
noncomputable def fn_CH_isBefore_b2 (v_ch_columns : Int32) (c_ch_vector : Nat → Int32) (c_o1 : Nat → Int32) (x2i : Int32) (s0i : Int32) : Option ((Nat × Int32 × Int32) ⊕ (Int32)) := if (v_ch_columns : Int32) ≤ x2i then (some (.inr 0)) else (if ¬ ((x2i : Int32) < 0 ∨ 6 ≤ (x2i : Int32).toNatClampNeg) then if ((c_o1 (x2i : Int32).toNatClampNeg) : Int32) = (c_ch_vector (x2i : Int32).toNatClampNeg) then (some (.inl (2, (x2i + 1), 0))) else (if ((c_ch_vector (x2i : Int32).toNatClampNeg) : Int32) ≤ (c_o1 (x2i : Int32).toNatClampNeg) then (some (.inl (39, 0, 0))) else (some (.inl (39, 0, 1)))) else none)
noncomputable def fn_CH_isBefore_b39 (v_ch_columns : Int32) (c_ch_vector : Nat → Int32) (c_o1 : Nat → Int32) (x2i : Int32) (s0i : Int32) : Option ((Nat × Int32 × Int32) ⊕ (Int32)) := if ((s0i : Int32) = 0 ∨ (s0i : Int32) = 1) then some (.inr s0i) else none
noncomputable def fn_CH_isBefore (v_ch_columns : Int32) (c_ch_vector : Nat → Int32) (c_o1 : Nat → Int32) : Nat × Int32 × Int32 → Option ((Nat × Int32 × Int32) ⊕ (Int32)) := fun st => match st with
  | (pc, x2i, s0i) => if pc = 0 then fn_CH_isBefore_b0 v_ch_columns c_ch_vector c_o1 x2i s0i else if pc = 2 then fn_CH_isBefore_b2 v_ch_columns c_ch_vector c_o1 x2i s0i else if pc = 39 then fn_CH_isBefore_b39 v_ch_columns c_ch_vector c_o1 x2i s0i else none
theorem fn_CH_isBefore_q0 (v_ch_columns : Int32) (c_ch_vector : Nat → Int32) (c_o1 : Nat → Int32) (x2i : Int32) (s0i : Int32) : fn_CH_isBefore v_ch_columns c_ch_vector c_o1 (0, x2i, s0i) = fn_CH_isBefore_b0 v_ch_columns c_ch_vector c_o1 x2i s0i := by simp [fn_CH_isBefore]
theorem fn_CH_isBefore_q2 (v_ch_columns : Int32) (c_ch_vector : Nat → Int32) (c_o1 : Nat → Int32) (x2i : Int32) (s0i : Int32) : fn_CH_isBefore v_ch_columns c_ch_vector c_o1 (2, x2i, s0i) = fn_CH_isBefore_b2 v_ch_columns c_ch_vector c_o1 x2i s0i := by simp [fn_CH_isBefore]
theorem fn_CH_isBefore_q39 (v_ch_columns : Int32) (c_ch_vector : Nat → Int32) (c_o1 : Nat → Int32) (x2i : Int32) (s0i : Int32) : fn_CH_isBefore v_ch_columns c_ch_vector c_o1 (39, x2i, s0i) = fn_CH_isBefore_b39 v_ch_columns c_ch_vector c_o1 x2i s0i := by simp [fn_CH_isBefore]
set_option maxHeartbeats 4000000 in
set_option maxRecDepth 100000 in
theorem c_CH_isBefore (l : Launch) (dC : Nat → ClassId) (dI : Nat → Nat → Nat) (a_ch : Nat) (f_ch_vector : Nat) (f_ch_costs : Nat) (v_ch_columns : Int32) (v_ch_price : Int32) (v_ch_isFound : Int32) (k_ch_vector : ClassId) (c_ch_vector : Nat → Int32) (f_o1 : Nat) (k_o1 : ClassId) (c_o1 : Nat → Int32) (sz : Nat) (out : Int32) (hs : sm_tot (fn_CH_isBefore v_ch_columns c_ch_vector c_o1) (0, 0, 0) = some out) : Met l y_CH_isBefore (Cond.code y_CH_isBefore b_CH_isBefore 3 (Option.some Jvm.ClassFile.FieldType.boolean) :: wd) { frames := 0, cells := 0, slots := 0, locals := 0 } (va_Pc [.ref a_ch, .ref f_o1] (fun U => U.heap.size = sz ∧ va_P (dC, dI) cls [(a_ch, .inr (8, [.ref f_ch_vector, .ref f_ch_costs, .int v_ch_columns, .int v_ch_price, .int v_ch_isFound])), (f_ch_vector, .inl (k_ch_vector, 6, .inl c_ch_vector)), (f_o1, .inl (k_o1, 6, .inl c_o1))] U.heap ∧ va_K (dC, dI) cls [(k_ch_vector, .int), (k_o1, .int)] U ∧ va_D (fun _ => True) [(a_ch, .inr (8, [.ref f_ch_vector, .ref f_ch_costs, .int v_ch_columns, .int v_ch_price, .int v_ch_isFound])), (f_ch_vector, .inl (k_ch_vector, 6, .inl c_ch_vector)), (f_o1, .inl (k_o1, 6, .inl c_o1))] ∧ nw_ok U)) (va_Qi (fun r (_ : Unit) => r = out) (fun (_ : Unit) t => va_P (dC, dI) cls [(a_ch, .inr (8, [.ref f_ch_vector, .ref f_ch_costs, .int v_ch_columns, .int v_ch_price, .int v_ch_isFound])), (f_ch_vector, .inl (k_ch_vector, 6, .inl c_ch_vector)), (f_o1, .inl (k_o1, 6, .inl c_o1))] t.heap ∧ va_K (dC, dI) cls [(k_ch_vector, .int), (k_o1, .int)] t ∧ va_D (va_A [(a_ch, .inr (8, [.ref f_ch_vector, .ref f_ch_costs, .int v_ch_columns, .int v_ch_price, .int v_ch_isFound])), (f_ch_vector, .inl (k_ch_vector, 6, .inl c_ch_vector)), (f_o1, .inl (k_o1, 6, .inl c_o1))] sz) [(a_ch, .inr (8, [.ref f_ch_vector, .ref f_ch_costs, .int v_ch_columns, .int v_ch_price, .int v_ch_isFound])), (f_ch_vector, .inl (k_ch_vector, 6, .inl c_ch_vector)), (f_o1, .inl (k_o1, 6, .inl c_o1))]) (va_A [(a_ch, .inr (8, [.ref f_ch_vector, .ref f_ch_costs, .int v_ch_columns, .int v_ch_price, .int v_ch_isFound])), (f_ch_vector, .inl (k_ch_vector, 6, .inl c_ch_vector)), (f_o1, .inl (k_o1, 6, .inl c_o1))] sz)) 0 0 (va_A [(a_ch, .inr (8, [.ref f_ch_vector, .ref f_ch_costs, .int v_ch_columns, .int v_ch_price, .int v_ch_isFound])), (f_ch_vector, .inl (k_ch_vector, 6, .inl c_ch_vector)), (f_o1, .inl (k_o1, 6, .inl c_o1))] sz) := by
  refine Met.ofW (cc := b_CH_isBefore) (maxL := 3) (ret := (Option.some Jvm.ClassFile.FieldType.boolean)) (by decide) rfl ?_
  intro p e s m args below meth c s₁ B hml hv
  obtain ⟨rfl, hsz, hP, hK, hD0, hN⟩ := hv
  have hx := B.exec
  have hb := B.bytes
  have hr := B.returns
  have hlocks := B.notSynchronized
  have hts : ∀ w ∈ wd, w.before ([.ref a_ch, .ref f_o1] : List Value).toArray s = true := fun w hw => atoms_spec (ws := (Cond.code y_CH_isBefore b_CH_isBefore 3 (Option.some Jvm.ClassFile.FieldType.boolean) :: wd)) B.pre w (List.mem_cons_of_mem _ hw)
  have hown : s.vm.findClass "LeastSolutions$Cheapest" = some m.cls := findClass_of_methodNamed B.named
  subst hsz
  have hD := hD0.self (sz := s.heap.size)
  generalize hAe : va_A [(a_ch, .inr (8, [.ref f_ch_vector, .ref f_ch_costs, .int v_ch_columns, .int v_ch_price, .int v_ch_isFound])), (f_ch_vector, .inl (k_ch_vector, 6, .inl c_ch_vector)), (f_o1, .inl (k_o1, 6, .inl c_o1))] s.heap.size = A at hD ⊢
  have hA : ∀ q : Nat, s.heap.size ≤ q → A q := fun q h => by rw [← hAe]; exact Or.inr h
  have hS : va_S A s.heap s.heap [] := va_S.rf
  have hl := lv_entry ([.ref a_ch, .ref f_o1]) (n := 3) (Nat.le_of_ble_eq_true rfl)
  rw [lg_entry_eq]
  generalize (lg_sl ([.ref a_ch, .ref f_o1]) ++ List.replicate (3 - (lg_sl ([.ref a_ch, .ref f_o1])).length) Slot.unset).toArray = ls at hl ⊢
  have hl : lv_has ls 3 [(0, .ref a_ch), (1, .ref f_o1)] := hl
  obtain ⟨k8, hs⟩ := sm_of hs
  refine sm_key (fun R Q k9 => (∀ (H : Heap) (locs : List Loc) (ls : Array Slot) (x2i : Int32) (s0i : Int32), sm_it (fn_CH_isBefore v_ch_columns c_ch_vector c_o1) k9 (2, x2i, s0i) = some out → va_P (dC, dI) cls [(a_ch, .inr (8, [.ref f_ch_vector, .ref f_ch_costs, .int v_ch_columns, .int v_ch_price, .int v_ch_isFound])), (f_ch_vector, .inl (k_ch_vector, 6, .inl c_ch_vector)), (f_o1, .inl (k_o1, 6, .inl c_o1))] H → va_D A [(a_ch, .inr (8, [.ref f_ch_vector, .ref f_ch_costs, .int v_ch_columns, .int v_ch_price, .int v_ch_isFound])), (f_ch_vector, .inl (k_ch_vector, 6, .inl c_ch_vector)), (f_o1, .inl (k_o1, 6, .inl c_o1))] → va_S A s.heap H locs → lv_has ls 3 [(0, .ref a_ch), (1, .ref f_o1), (2, .int x2i)] → W p l e R s m ([.ref a_ch, .ref f_o1] : List Value).toArray below meth c H locs 0 0 Q (F0 m 2 ls [])) ∧ (∀ (H : Heap) (locs : List Loc) (ls : Array Slot) (x2i : Int32) (s0i : Int32), sm_it (fn_CH_isBefore v_ch_columns c_ch_vector c_o1) k9 (39, x2i, s0i) = some out → va_P (dC, dI) cls [(a_ch, .inr (8, [.ref f_ch_vector, .ref f_ch_costs, .int v_ch_columns, .int v_ch_price, .int v_ch_isFound])), (f_ch_vector, .inl (k_ch_vector, 6, .inl c_ch_vector)), (f_o1, .inl (k_o1, 6, .inl c_o1))] H → va_D A [(a_ch, .inr (8, [.ref f_ch_vector, .ref f_ch_costs, .int v_ch_columns, .int v_ch_price, .int v_ch_isFound])), (f_ch_vector, .inl (k_ch_vector, 6, .inl c_ch_vector)), (f_o1, .inl (k_o1, 6, .inl c_o1))] → va_S A s.heap H locs → lv_has ls 3 [] → W p l e R s m ([.ref a_ch, .ref f_o1] : List Value).toArray below meth c H locs 0 0 Q (F0 m 39 ls [.int s0i]))) ?_ ?_ ?_
  · exact ⟨(fun _ _ _ _ _ hs => by cases hs), (fun _ _ _ _ _ hs => by cases hs)⟩
  · intro k9 ih
    refine ⟨?_, ?_⟩
    · intro H locs ls x2i s0i hs hP hD hS hl
      rw [sm_it_succ, fn_CH_isBefore_q2] at hs
      unfold fn_CH_isBefore_b2 at hs
      refine lv_iload_n hx hb d_CH_isBefore_2 rfl (lv_at hl 2 rfl) ?_
      refine lv_aload_n hx hb d_CH_isBefore_3 rfl (lv_at hl 0 rfl) ?_
      refine va_get (D := (dC, dI)) (ci := 8) (v := .int v_ch_columns) (C := R_CH) (T := T_CH) (N := 5) hx hb hts in_CH hown hK hP 0 rfl rfl 2 (by decide) (hts _ k_244) (fun _ h9 => h9) rfl d_CH_isBefore_4 ?_
      refine lv_icmp_ge (tgt := 46) hx hb d_CH_isBefore_7 (by decide) (fun hc1 => ?_) (fun hc1 => ?_)
      · have hs := sm_pos hc1 hs
        refine lv_iconst (v := 0) hx hb d_CH_isBefore_46 (by decide) ?_
        have he := sm_end hs
        subst he
        exact W.zret (v := 0) (ty := .boolean) hx hb hr (by decide +kernel) (fun t ht hW => ⟨⟨0, (), rfl, rfl, by rw [ht]; exact hP, va_K.moved hW.alike hK, hD⟩, hS.F ht⟩) hS.2.2 d_CH_isBefore_47
      · have hs := sm_neg hc1 hs
        refine lv_aload_n hx hb d_CH_isBefore_10 rfl (lv_at hl 1 rfl) ?_
        refine lv_iload_n hx hb d_CH_isBefore_11 rfl (lv_at hl 2 rfl) ?_
        obtain ⟨hg1, hs⟩ := sm_gd hs
        refine va_iald hx hb hK hP 2 1 rfl rfl hg1 d_CH_isBefore_12 ?_
        refine lv_aload_n hx hb d_CH_isBefore_13 rfl (lv_at hl 0 rfl) ?_
        refine va_get (D := (dC, dI)) (ci := 8) (v := .ref f_ch_vector) (C := R_CH) (T := T_CH) (N := 5) hx hb hts in_CH hown hK hP 0 rfl rfl 0 (by decide) (hts _ k_240) (fun _ h9 => h9) rfl d_CH_isBefore_14 ?_
        refine lv_iload_n hx hb d_CH_isBefore_17 rfl (lv_at hl 2 rfl) ?_
        refine va_iald hx hb hK hP 1 0 rfl rfl hg1 d_CH_isBefore_18 ?_
        refine lv_icmp_eq (tgt := 40) hx hb d_CH_isBefore_19 (by decide) (fun hc2 => ?_) (fun hc2 => ?_)
        · have hs := sm_pos hc2 hs
          refine lv_iinc (k := 2) (v := (x2i + 1)) hx hb d_CH_isBefore_40 hl rfl (congrArg (fun z : Int32 => x2i + z) (by decide : Int32.ofInt 1 = 1)) (by decide) rfl (fun ls hl => ?_)
          have hl : lv_has ls 3 [(2, .int (x2i + 1)), (0, .ref a_ch), (1, .ref f_o1)] := hl
          refine lv_goto (tgt := 2) hx hb d_CH_isBefore_43 (by decide) ?_
          exact ih.1 _ _ _ _ _ hs hP hD hS (lv_sub hl [1, 2, 0] rfl)
        · have hs := sm_neg hc2 hs
          refine lv_aload_n hx hb d_CH_isBefore_22 rfl (lv_at hl 1 rfl) ?_
          refine lv_iload_n hx hb d_CH_isBefore_23 rfl (lv_at hl 2 rfl) ?_
          refine va_iald hx hb hK hP 2 1 rfl rfl hg1 d_CH_isBefore_24 ?_
          refine lv_aload_n hx hb d_CH_isBefore_25 rfl (lv_at hl 0 rfl) ?_
          refine va_get (D := (dC, dI)) (ci := 8) (v := .ref f_ch_vector) (C := R_CH) (T := T_CH) (N := 5) hx hb hts in_CH hown hK hP 0 rfl rfl 0 (by decide) (hts _ k_240) (fun _ h9 => h9) rfl d_CH_isBefore_26 ?_
          refine lv_iload_n hx hb d_CH_isBefore_29 rfl (lv_at hl 2 rfl) ?_
          refine va_iald hx hb hK hP 1 0 rfl rfl hg1 d_CH_isBefore_30 ?_
          refine lv_icmp_ge (tgt := 38) hx hb d_CH_isBefore_31 (by decide) (fun hc3 => ?_) (fun hc3 => ?_)
          · have hs := sm_pos hc3 hs
            refine lv_iconst (v := 0) hx hb d_CH_isBefore_38 (by decide) ?_
            exact ih.2 _ _ _ _ _ hs hP hD hS (lv_sub hl [] rfl)
          · have hs := sm_neg hc3 hs
            refine lv_iconst (v := 1) hx hb d_CH_isBefore_34 (by decide) ?_
            refine lv_goto (tgt := 39) hx hb d_CH_isBefore_35 (by decide) ?_
            exact ih.2 _ _ _ _ _ hs hP hD hS (lv_sub hl [] rfl)
    · intro H locs ls x2i s0i hs hP hD hS hl
      rw [sm_it_succ, fn_CH_isBefore_q39] at hs
      unfold fn_CH_isBefore_b39 at hs
      obtain ⟨hg1, hs⟩ := sm_gd hs
      have he := sm_end hs
      subst he
      exact W.zret (v := s0i) (ty := .boolean) hx hb hr (by rcases hg1 with h9 | h9 <;> rw [h9] <;> rfl) (fun t ht hW => ⟨⟨s0i, (), rfl, rfl, by rw [ht]; exact hP, va_K.moved hW.alike hK, hD⟩, hS.F ht⟩) hS.2.2 d_CH_isBefore_39
  · intro key
    cases k8 with
    | zero => cases hs
    | succ k9 =>
      rw [sm_it_succ, fn_CH_isBefore_q0] at hs
      unfold fn_CH_isBefore_b0 at hs
      refine lv_iconst (v := 0) hx hb d_CH_isBefore_0 (by decide) ?_
      refine lv_istore_n hx hb d_CH_isBefore_1 rfl hl (by decide) rfl (fun ls hl => ?_)
      have hl : lv_has ls 3 [(2, .int 0), (0, .ref a_ch), (1, .ref f_o1)] := hl
      exact (key k9).1 _ _ _ _ _ hs hP hD hS (lv_sub hl [1, 2, 0] rfl)

noncomputable def fn_CH_take_b0 (v_ch_columns : Int32) (c_ch_costs : Nat → Int32) (c_o1 : Nat → Int32) (_z0 : Int32) (v_ch_price : Int32) (v_ch_isFound : Int32) (c_ch_vector : Nat → Int32) : Option ((Nat × Int32 × Int32 × Int32 × (Nat → Int32)) ⊕ (Int32 × Int32 × Int32 × (Nat → Int32))) := (sm_tot (fn_CH_priceOf v_ch_columns c_ch_costs c_o1) (0, 0, 0)).bind (fun r1 => if (v_ch_isFound : Int32) = 0 then (some (.inl (37, r1, v_ch_price, v_ch_isFound, c_ch_vector))) else (if (r1 : Int32) < v_ch_price then (some (.inl (37, r1, v_ch_price, v_ch_isFound, c_ch_vector))) else (if (r1 : Int32) = v_ch_price then ((sm_tot (fn_CH_isBefore v_ch_columns c_ch_vector c_o1) (0, 0, 0)).bind (fun r2 => if (r2 : Int32) = 0 then (some (.inl (59, 0, v_ch_price, v_ch_isFound, c_ch_vector))) else (some (.inl (37, r1, v_ch_price, v_ch_isFound, c_ch_vector))))) else (some (.inl (59, 0, v_ch_price, v_ch_isFound, c_ch_vector))))))
noncomputable def fn_CH_take_b37 (v_ch_columns : Int32) (c_ch_costs : Nat → Int32) (c_o1 : Nat → Int32) (x2i : Int32) (w_ch_price : Int32) (w_ch_isFound : Int32) (u_ch_vector : Nat → Int32) : Option ((Nat × Int32 × Int32 × Int32 × (Nat → Int32)) ⊕ (Int32 × Int32 × Int32 × (Nat → Int32))) := some (.inl (59, 0, x2i, 1, (va_cpy c_o1 u_ch_vector (0 : Int32).toNatClampNeg (0 : Int32).toNatClampNeg (6 : Int32).toNatClampNeg)))
noncomputable def fn_CH_take_b59 (v_ch_columns : Int32) (c_ch_costs : Nat → Int32) (c_o1 : Nat → Int32) (x2i : Int32) (w_ch_price : Int32) (w_ch_isFound : Int32) (u_ch_vector : Nat → Int32) : Option ((Nat × Int32 × Int32 × Int32 × (Nat → Int32)) ⊕ (Int32 × Int32 × Int32 × (Nat → Int32))) := some (.inr (1, w_ch_price, w_ch_isFound, u_ch_vector))
noncomputable def fn_CH_take (v_ch_columns : Int32) (c_ch_costs : Nat → Int32) (c_o1 : Nat → Int32) : Nat × Int32 × Int32 × Int32 × (Nat → Int32) → Option ((Nat × Int32 × Int32 × Int32 × (Nat → Int32)) ⊕ (Int32 × Int32 × Int32 × (Nat → Int32))) := fun st => match st with
  | (pc, x2i, w_ch_price, w_ch_isFound, u_ch_vector) => if pc = 0 then fn_CH_take_b0 v_ch_columns c_ch_costs c_o1 x2i w_ch_price w_ch_isFound u_ch_vector else if pc = 37 then fn_CH_take_b37 v_ch_columns c_ch_costs c_o1 x2i w_ch_price w_ch_isFound u_ch_vector else if pc = 59 then fn_CH_take_b59 v_ch_columns c_ch_costs c_o1 x2i w_ch_price w_ch_isFound u_ch_vector else none
theorem fn_CH_take_q0 (v_ch_columns : Int32) (c_ch_costs : Nat → Int32) (c_o1 : Nat → Int32) (x2i : Int32) (w_ch_price : Int32) (w_ch_isFound : Int32) (u_ch_vector : Nat → Int32) : fn_CH_take v_ch_columns c_ch_costs c_o1 (0, x2i, w_ch_price, w_ch_isFound, u_ch_vector) = fn_CH_take_b0 v_ch_columns c_ch_costs c_o1 x2i w_ch_price w_ch_isFound u_ch_vector := by simp [fn_CH_take]
theorem fn_CH_take_q37 (v_ch_columns : Int32) (c_ch_costs : Nat → Int32) (c_o1 : Nat → Int32) (x2i : Int32) (w_ch_price : Int32) (w_ch_isFound : Int32) (u_ch_vector : Nat → Int32) : fn_CH_take v_ch_columns c_ch_costs c_o1 (37, x2i, w_ch_price, w_ch_isFound, u_ch_vector) = fn_CH_take_b37 v_ch_columns c_ch_costs c_o1 x2i w_ch_price w_ch_isFound u_ch_vector := by simp [fn_CH_take]
theorem fn_CH_take_q59 (v_ch_columns : Int32) (c_ch_costs : Nat → Int32) (c_o1 : Nat → Int32) (x2i : Int32) (w_ch_price : Int32) (w_ch_isFound : Int32) (u_ch_vector : Nat → Int32) : fn_CH_take v_ch_columns c_ch_costs c_o1 (59, x2i, w_ch_price, w_ch_isFound, u_ch_vector) = fn_CH_take_b59 v_ch_columns c_ch_costs c_o1 x2i w_ch_price w_ch_isFound u_ch_vector := by simp [fn_CH_take]
set_option maxHeartbeats 4000000 in
set_option maxRecDepth 100000 in
theorem c_CH_take (l : Launch) (dC : Nat → ClassId) (dI : Nat → Nat → Nat) (a_ch : Nat) (f_ch_vector : Nat) (f_ch_costs : Nat) (v_ch_columns : Int32) (v_ch_price : Int32) (v_ch_isFound : Int32) (k_ch_vector : ClassId) (c_ch_vector : Nat → Int32) (k_ch_costs : ClassId) (c_ch_costs : Nat → Int32) (f_o1 : Nat) (k_o1 : ClassId) (c_o1 : Nat → Int32) (sz : Nat) (out : Int32 × Int32 × Int32 × (Nat → Int32)) (hs : sm_tot (fn_CH_take v_ch_columns c_ch_costs c_o1) (0, 0, v_ch_price, v_ch_isFound, c_ch_vector) = some out) : Met l y_CH_take (Cond.code y_CH_take b_CH_take 3 (Option.some Jvm.ClassFile.FieldType.boolean) :: wd) { frames := 1, cells := 0, slots := 0, locals := 80 } (va_Pc [.ref a_ch, .ref f_o1] (fun U => U.heap.size = sz ∧ va_P (dC, dI) cls [(a_ch, .inr (8, [.ref f_ch_vector, .ref f_ch_costs, .int v_ch_columns, .int v_ch_price, .int v_ch_isFound])), (f_ch_vector, .inl (k_ch_vector, 6, .inl c_ch_vector)), (f_ch_costs, .inl (k_ch_costs, 6, .inl c_ch_costs)), (f_o1, .inl (k_o1, 6, .inl c_o1))] U.heap ∧ va_K (dC, dI) cls [(k_ch_vector, .int), (k_ch_costs, .int), (k_o1, .int)] U ∧ va_D (fun _ => True) [(a_ch, .inr (8, [.ref f_ch_vector, .ref f_ch_costs, .int v_ch_columns, .int v_ch_price, .int v_ch_isFound])), (f_ch_vector, .inl (k_ch_vector, 6, .inl c_ch_vector)), (f_ch_costs, .inl (k_ch_costs, 6, .inl c_ch_costs)), (f_o1, .inl (k_o1, 6, .inl c_o1))] ∧ nw_ok U)) (va_Qi (fun r (_ : Unit) => r = out.1) (fun (_ : Unit) t => va_P (dC, dI) cls [(a_ch, .inr (8, [.ref f_ch_vector, .ref f_ch_costs, .int v_ch_columns, .int out.2.1, .int out.2.2.1])), (f_ch_vector, .inl (k_ch_vector, 6, .inl out.2.2.2)), (f_ch_costs, .inl (k_ch_costs, 6, .inl c_ch_costs)), (f_o1, .inl (k_o1, 6, .inl c_o1))] t.heap ∧ va_K (dC, dI) cls [(k_ch_vector, .int), (k_ch_costs, .int), (k_o1, .int)] t ∧ va_D (va_A [(a_ch, .inr (8, [.ref f_ch_vector, .ref f_ch_costs, .int v_ch_columns, .int v_ch_price, .int v_ch_isFound])), (f_ch_vector, .inl (k_ch_vector, 6, .inl c_ch_vector)), (f_ch_costs, .inl (k_ch_costs, 6, .inl c_ch_costs)), (f_o1, .inl (k_o1, 6, .inl c_o1))] sz) [(a_ch, .inr (8, [.ref f_ch_vector, .ref f_ch_costs, .int v_ch_columns, .int out.2.1, .int out.2.2.1])), (f_ch_vector, .inl (k_ch_vector, 6, .inl out.2.2.2)), (f_ch_costs, .inl (k_ch_costs, 6, .inl c_ch_costs)), (f_o1, .inl (k_o1, 6, .inl c_o1))]) (va_A [(a_ch, .inr (8, [.ref f_ch_vector, .ref f_ch_costs, .int v_ch_columns, .int v_ch_price, .int v_ch_isFound])), (f_ch_vector, .inl (k_ch_vector, 6, .inl c_ch_vector)), (f_ch_costs, .inl (k_ch_costs, 6, .inl c_ch_costs)), (f_o1, .inl (k_o1, 6, .inl c_o1))] sz)) 0 0 (va_A [(a_ch, .inr (8, [.ref f_ch_vector, .ref f_ch_costs, .int v_ch_columns, .int v_ch_price, .int v_ch_isFound])), (f_ch_vector, .inl (k_ch_vector, 6, .inl c_ch_vector)), (f_ch_costs, .inl (k_ch_costs, 6, .inl c_ch_costs)), (f_o1, .inl (k_o1, 6, .inl c_o1))] sz) := by
  refine Met.ofW (cc := b_CH_take) (maxL := 3) (ret := (Option.some Jvm.ClassFile.FieldType.boolean)) (by decide) rfl ?_
  intro p e s m args below meth c s₁ B hml hv
  obtain ⟨rfl, hsz, hP, hK, hD0, hN⟩ := hv
  have hx := B.exec
  have hb := B.bytes
  have hr := B.returns
  have hlocks := B.notSynchronized
  have hts : ∀ w ∈ wd, w.before ([.ref a_ch, .ref f_o1] : List Value).toArray s = true := fun w hw => atoms_spec (ws := (Cond.code y_CH_take b_CH_take 3 (Option.some Jvm.ClassFile.FieldType.boolean) :: wd)) B.pre w (List.mem_cons_of_mem _ hw)
  have hown : s.vm.findClass "LeastSolutions$Cheapest" = some m.cls := findClass_of_methodNamed B.named
  subst hsz
  have hD := hD0.self (sz := s.heap.size)
  generalize hAe : va_A [(a_ch, .inr (8, [.ref f_ch_vector, .ref f_ch_costs, .int v_ch_columns, .int v_ch_price, .int v_ch_isFound])), (f_ch_vector, .inl (k_ch_vector, 6, .inl c_ch_vector)), (f_ch_costs, .inl (k_ch_costs, 6, .inl c_ch_costs)), (f_o1, .inl (k_o1, 6, .inl c_o1))] s.heap.size = A at hD ⊢
  have hA : ∀ q : Nat, s.heap.size ≤ q → A q := fun q h => by rw [← hAe]; exact Or.inr h
  have hS : va_S A s.heap s.heap [] := va_S.rf
  have hl := lv_entry ([.ref a_ch, .ref f_o1]) (n := 3) (Nat.le_of_ble_eq_true rfl)
  rw [lg_entry_eq]
  generalize (lg_sl ([.ref a_ch, .ref f_o1]) ++ List.replicate (3 - (lg_sl ([.ref a_ch, .ref f_o1])).length) Slot.unset).toArray = ls at hl ⊢
  have hl : lv_has ls 3 [(0, .ref a_ch), (1, .ref f_o1)] := hl
  obtain ⟨k8, hs⟩ := sm_of hs
  refine sm_key (fun R Q k9 => (∀ (H : Heap) (locs : List Loc) (ls : Array Slot) (x2i : Int32) (w_ch_price : Int32) (w_ch_isFound : Int32) (u_ch_vector : Nat → Int32), sm_it (fn_CH_take v_ch_columns c_ch_costs c_o1) k9 (37, x2i, w_ch_price, w_ch_isFound, u_ch_vector) = some out → va_P (dC, dI) cls [(a_ch, .inr (8, [.ref f_ch_vector, .ref f_ch_costs, .int v_ch_columns, .int w_ch_price, .int w_ch_isFound])), (f_ch_vector, .inl (k_ch_vector, 6, .inl u_ch_vector)), (f_ch_costs, .inl (k_ch_costs, 6, .inl c_ch_costs)), (f_o1, .inl (k_o1, 6, .inl c_o1))] H → va_D A [(a_ch, .inr (8, [.ref f_ch_vector, .ref f_ch_costs, .int v_ch_columns, .int w_ch_price, .int w_ch_isFound])), (f_ch_vector, .inl (k_ch_vector, 6, .inl u_ch_vector)), (f_ch_costs, .inl (k_ch_costs, 6, .inl c_ch_costs)), (f_o1, .inl (k_o1, 6, .inl c_o1))] → va_S A s.heap H locs → lv_has ls 3 [(0, .ref a_ch), (1, .ref f_o1), (2, .int x2i)] → W p l e R s m ([.ref a_ch, .ref f_o1] : List Value).toArray below meth c H locs 0 0 Q (F0 m 37 ls [])) ∧ (∀ (H : Heap) (locs : List Loc) (ls : Array Slot) (x2i : Int32) (w_ch_price : Int32) (w_ch_isFound : Int32) (u_ch_vector : Nat → Int32), sm_it (fn_CH_take v_ch_columns c_ch_costs c_o1) k9 (59, x2i, w_ch_price, w_ch_isFound, u_ch_vector) = some out → va_P (dC, dI) cls [(a_ch, .inr (8, [.ref f_ch_vector, .ref f_ch_costs, .int v_ch_columns, .int w_ch_price, .int w_ch_isFound])), (f_ch_vector, .inl (k_ch_vector, 6, .inl u_ch_vector)), (f_ch_costs, .inl (k_ch_costs, 6, .inl c_ch_costs)), (f_o1, .inl (k_o1, 6, .inl c_o1))] H → va_D A [(a_ch, .inr (8, [.ref f_ch_vector, .ref f_ch_costs, .int v_ch_columns, .int w_ch_price, .int w_ch_isFound])), (f_ch_vector, .inl (k_ch_vector, 6, .inl u_ch_vector)), (f_ch_costs, .inl (k_ch_costs, 6, .inl c_ch_costs)), (f_o1, .inl (k_o1, 6, .inl c_o1))] → va_S A s.heap H locs → lv_has ls 3 [] → W p l e R s m ([.ref a_ch, .ref f_o1] : List Value).toArray below meth c H locs 0 0 Q (F0 m 59 ls []))) ?_ ?_ ?_
  · exact ⟨(fun _ _ _ _ _ _ _ hs => by cases hs), (fun _ _ _ _ _ _ _ hs => by cases hs)⟩
  · intro k9 ih
    refine ⟨?_, ?_⟩
    · intro H locs ls x2i w_ch_price w_ch_isFound u_ch_vector hs hP hD hS hl
      rw [sm_it_succ, fn_CH_take_q37] at hs
      unfold fn_CH_take_b37 at hs
      refine lv_aload_n hx hb d_CH_take_37 rfl (lv_at hl 1 rfl) ?_
      refine lv_iconst (v := 0) hx hb d_CH_take_38 (by decide) ?_
      refine lv_aload_n hx hb d_CH_take_39 rfl (lv_at hl 0 rfl) ?_
      refine va_get (D := (dC, dI)) (ci := 8) (v := .ref f_ch_vector) (C := R_CH) (T := T_CH) (N := 5) hx hb hts in_CH hown hK hP 0 rfl rfl 0 (by decide) (hts _ k_240) (fun _ h9 => h9) rfl d_CH_take_40 ?_
      refine lv_iconst (v := 0) hx hb d_CH_take_43 (by decide) ?_
      refine lv_bipush (v := 6) hx hb d_CH_take_44 (by decide) ?_
      refine va_copyi (sp := 0) (dp := 0) (n := 6) (ty := .int) hx hb (hml.trans hl.1.symm) hown (hts _ k_807) (hts _ k_568) (hts _ k_567) (hts _ k_20) hK hP hD hS 3 1 2 0 rfl rfl rfl rfl rfl (by decide) (by decide) (by decide) (by decide) (by decide) (fun _ _ => rfl) (Nat.le_of_ble_eq_true rfl) (by decide +kernel) d_CH_take_46 (fun H1 locs hP hD hS => ?_)
      have hP : va_P (dC, dI) cls [(a_ch, .inr (8, [.ref f_ch_vector, .ref f_ch_costs, .int v_ch_columns, .int w_ch_price, .int w_ch_isFound])), (f_ch_vector, .inl (k_ch_vector, 6, .inl (va_cpy c_o1 u_ch_vector (0 : Int32).toNatClampNeg (0 : Int32).toNatClampNeg (6 : Int32).toNatClampNeg))), (f_ch_costs, .inl (k_ch_costs, 6, .inl c_ch_costs)), (f_o1, .inl (k_o1, 6, .inl c_o1))] H1 := hP
      have hD : va_D A [(a_ch, .inr (8, [.ref f_ch_vector, .ref f_ch_costs, .int v_ch_columns, .int w_ch_price, .int w_ch_isFound])), (f_ch_vector, .inl (k_ch_vector, 6, .inl (va_cpy c_o1 u_ch_vector (0 : Int32).toNatClampNeg (0 : Int32).toNatClampNeg (6 : Int32).toNatClampNeg))), (f_ch_costs, .inl (k_ch_costs, 6, .inl c_ch_costs)), (f_o1, .inl (k_o1, 6, .inl c_o1))] := hD
      refine lv_aload_n hx hb d_CH_take_49 rfl (lv_at hl 0 rfl) ?_
      refine lv_iload_n hx hb d_CH_take_50 rfl (lv_at hl 2 rfl) ?_
      refine va_put (D := (dC, dI)) (ci := 8) (v := .int x2i) (ty := .int) (C := R_CH) (T := T_CH) (N := 5) hx hb hts in_CH t_CH t_CH_ok n_CH hown hK hP hD hS 0 rfl rfl 3 (by decide) (hts _ k_245) (fun _ h9 => h9) rfl (by decide +kernel) rfl rfl (Nat.le_of_ble_eq_true rfl) d_CH_take_51 (fun H2 locs hP hD hS => ?_)
      have hP : va_P (dC, dI) cls [(a_ch, .inr (8, [.ref f_ch_vector, .ref f_ch_costs, .int v_ch_columns, .int x2i, .int w_ch_isFound])), (f_ch_vector, .inl (k_ch_vector, 6, .inl (va_cpy c_o1 u_ch_vector (0 : Int32).toNatClampNeg (0 : Int32).toNatClampNeg (6 : Int32).toNatClampNeg))), (f_ch_costs, .inl (k_ch_costs, 6, .inl c_ch_costs)), (f_o1, .inl (k_o1, 6, .inl c_o1))] H2 := hP
      have hD : va_D A [(a_ch, .inr (8, [.ref f_ch_vector, .ref f_ch_costs, .int v_ch_columns, .int x2i, .int w_ch_isFound])), (f_ch_vector, .inl (k_ch_vector, 6, .inl (va_cpy c_o1 u_ch_vector (0 : Int32).toNatClampNeg (0 : Int32).toNatClampNeg (6 : Int32).toNatClampNeg))), (f_ch_costs, .inl (k_ch_costs, 6, .inl c_ch_costs)), (f_o1, .inl (k_o1, 6, .inl c_o1))] := hD
      refine lv_aload_n hx hb d_CH_take_54 rfl (lv_at hl 0 rfl) ?_
      refine lv_iconst (v := 1) hx hb d_CH_take_55 (by decide) ?_
      refine va_put (D := (dC, dI)) (ci := 8) (v := .int 1) (ty := .boolean) (C := R_CH) (T := T_CH) (N := 5) hx hb hts in_CH t_CH t_CH_ok n_CH hown hK hP hD hS 0 rfl rfl 4 (by decide) (hts _ k_247) (fun _ h9 => h9) rfl (by decide +kernel) (by decide +kernel) (by decide +kernel) (Nat.le_of_ble_eq_true rfl) d_CH_take_56 (fun H3 locs hP hD hS => ?_)
      have hP : va_P (dC, dI) cls [(a_ch, .inr (8, [.ref f_ch_vector, .ref f_ch_costs, .int v_ch_columns, .int x2i, .int 1])), (f_ch_vector, .inl (k_ch_vector, 6, .inl (va_cpy c_o1 u_ch_vector (0 : Int32).toNatClampNeg (0 : Int32).toNatClampNeg (6 : Int32).toNatClampNeg))), (f_ch_costs, .inl (k_ch_costs, 6, .inl c_ch_costs)), (f_o1, .inl (k_o1, 6, .inl c_o1))] H3 := hP
      have hD : va_D A [(a_ch, .inr (8, [.ref f_ch_vector, .ref f_ch_costs, .int v_ch_columns, .int x2i, .int 1])), (f_ch_vector, .inl (k_ch_vector, 6, .inl (va_cpy c_o1 u_ch_vector (0 : Int32).toNatClampNeg (0 : Int32).toNatClampNeg (6 : Int32).toNatClampNeg))), (f_ch_costs, .inl (k_ch_costs, 6, .inl c_ch_costs)), (f_o1, .inl (k_o1, 6, .inl c_o1))] := hD
      exact ih.2 _ _ _ _ _ _ _ hs hP hD hS (lv_sub hl [] rfl)
    · intro H locs ls x2i w_ch_price w_ch_isFound u_ch_vector hs hP hD hS hl
      rw [sm_it_succ, fn_CH_take_q59] at hs
      unfold fn_CH_take_b59 at hs
      refine lv_iconst (v := 1) hx hb d_CH_take_59 (by decide) ?_
      have he := sm_end hs
      subst he
      exact W.zret (v := 1) (ty := .boolean) hx hb hr (by decide +kernel) (fun t ht hW => ⟨⟨1, (), rfl, rfl, by rw [ht]; exact hP, va_K.moved hW.alike hK, hD⟩, hS.F ht⟩) hS.2.2 d_CH_take_60
  · intro key
    cases k8 with
    | zero => cases hs
    | succ k9 =>
      rw [sm_it_succ, fn_CH_take_q0] at hs
      unfold fn_CH_take_b0 at hs
      refine lv_aload_n hx hb d_CH_take_0 rfl (lv_at hl 0 rfl) ?_
      refine lv_aload_n hx hb d_CH_take_1 rfl (lv_at hl 1 rfl) ?_
      obtain ⟨r1, hq1, hs⟩ := sm_bd hs
      have hPc := hP.sub (ws' := [(a_ch, .inr (8, [.ref f_ch_vector, .ref f_ch_costs, .int v_ch_columns, .int v_ch_price, .int v_ch_isFound])), (f_ch_costs, .inl (k_ch_costs, 6, .inl c_ch_costs)), (f_o1, .inl (k_o1, 6, .inl c_o1))]) [0, 2, 3] rfl
      have hDc := hD.sub (ws' := [(a_ch, .inr (8, [.ref f_ch_vector, .ref f_ch_costs, .int v_ch_columns, .int v_ch_price, .int v_ch_isFound])), (f_ch_costs, .inl (k_ch_costs, 6, .inl c_ch_costs)), (f_o1, .inl (k_o1, 6, .inl c_o1))]) [0, 2, 3] (by decide) rfl
      have hKc := hK.sub (tys' := [(k_ch_costs, .int), (k_o1, .int)]) [1, 2] rfl
      have hFc := va_free (wc := [(a_ch, .inr (8, [.ref f_ch_vector, .ref f_ch_costs, .int v_ch_columns, .int v_ch_price, .int v_ch_isFound])), (f_ch_costs, .inl (k_ch_costs, 6, .inl c_ch_costs)), (f_o1, .inl (k_o1, 6, .inl c_o1))]) hD hS hA [0, 2, 3] rfl
      refine va_calli (va_runV (As := [.ref f_o1]) (rest := []) ⟨hx, hb, hml, hown, hts⟩ (c_CH_priceOf l dC dI (a_ch) (f_ch_vector) (f_ch_costs) (v_ch_columns) (v_ch_price) (v_ch_isFound) (k_ch_costs) (c_ch_costs) (f_o1) (k_o1) (c_o1) s.heap.size r1 hq1) (wd_V (C := "LeastSolutions$Cheapest") 1 hts k_802 k_9 k_799 k_801 ks_CH_priceOf rfl rfl (by decide +kernel) ⟨Nat.le_of_ble_eq_true rfl, Nat.le_of_ble_eq_true rfl⟩) ⟨fun a U g mk q => by obtain ⟨q0, q1, qP, qK, qD, qN⟩ := q; exact ⟨q0, q1, qP, va_K.moved (u := U) (U := U.calling g mk a) (Vm.Alike.refl U.vm) qK, qD, nw_ok.same (s := U) (U := U.calling g mk a) rfl qN⟩, va_recv (ci := 8) (q0 := 0) hK hP rfl rfl, fun U hU hW => ⟨rfl, by rw [hU], by rw [hU]; exact hPc, va_K.moved hW.alike hKc, hDc.weaken (fun _ _ _ _ => trivial), nw_ok.warm hW hN⟩⟩ rfl rfl hl.1 rfl (lv_room (Nat.le_of_ble_eq_true rfl)) d_CH_take_2 ⟨Nat.le_of_ble_eq_true rfl, Nat.le_of_ble_eq_true rfl⟩) hS (fun q _ h => hFc q h) hFc (fun q1 u t H4 locs ht hvm hr1 hB hz1 hk1 hS => ?_)
      have hr1 := (show q1 = r1 from hr1).symm
      subst hr1
      obtain ⟨hP1, hK1, hD1⟩ := hB
      rw [ht] at hP1
      have hK1 := va_K.moved hvm.symm hK1
      obtain ⟨hP, hD⟩ := va_join (wr := [(f_ch_vector, .inl (k_ch_vector, 6, .inl c_ch_vector))]) (w1 := [(a_ch, .inr (8, [.ref f_ch_vector, .ref f_ch_costs, .int v_ch_columns, .int v_ch_price, .int v_ch_isFound])), (f_ch_costs, .inl (k_ch_costs, 6, .inl c_ch_costs)), (f_o1, .inl (k_o1, 6, .inl c_o1))]) hP hD [0, 2, 3] [1] rfl rfl (by decide) (by decide) hk1 hFc hP1 hD1
      have hK := (hK.sub (tys' := [(k_ch_vector, .int)]) [0] rfl).app hK1
      have hK : va_K (dC, dI) cls [(k_ch_vector, .int), (k_ch_costs, .int), (k_o1, .int)] s := hK
      have hP : va_P (dC, dI) cls [(f_ch_vector, .inl (k_ch_vector, 6, .inl c_ch_vector)), (a_ch, .inr (8, [.ref f_ch_vector, .ref f_ch_costs, .int v_ch_columns, .int v_ch_price, .int v_ch_isFound])), (f_ch_costs, .inl (k_ch_costs, 6, .inl c_ch_costs)), (f_o1, .inl (k_o1, 6, .inl c_o1))] H4 := hP
      have hD : va_D A [(f_ch_vector, .inl (k_ch_vector, 6, .inl c_ch_vector)), (a_ch, .inr (8, [.ref f_ch_vector, .ref f_ch_costs, .int v_ch_columns, .int v_ch_price, .int v_ch_isFound])), (f_ch_costs, .inl (k_ch_costs, 6, .inl c_ch_costs)), (f_o1, .inl (k_o1, 6, .inl c_o1))] := hD
      refine lv_istore_n hx hb d_CH_take_5 rfl hl (by decide) rfl (fun ls hl => ?_)
      have hl : lv_has ls 3 [(2, .int r1), (0, .ref a_ch), (1, .ref f_o1)] := hl
      refine lv_aload_n hx hb d_CH_take_6 rfl (lv_at hl 1 rfl) ?_
      refine va_get (D := (dC, dI)) (ci := 8) (v := .int v_ch_isFound) (C := R_CH) (T := T_CH) (N := 5) hx hb hts in_CH hown hK hP 1 rfl rfl 4 (by decide) (hts _ k_247) (fun _ h9 => h9) rfl d_CH_take_7 ?_
      refine lv_if_eq (tgt := 37) hx hb d_CH_take_10 (by decide) (fun hc1 => ?_) (fun hc1 => ?_)
      · have hs := sm_pos hc1 hs
        have hP := hP.sub (ws' := [(a_ch, .inr (8, [.ref f_ch_vector, .ref f_ch_costs, .int v_ch_columns, .int v_ch_price, .int v_ch_isFound])), (f_ch_vector, .inl (k_ch_vector, 6, .inl c_ch_vector)), (f_ch_costs, .inl (k_ch_costs, 6, .inl c_ch_costs)), (f_o1, .inl (k_o1, 6, .inl c_o1))]) [1, 0, 2, 3] rfl
        have hD := hD.sub (ws' := [(a_ch, .inr (8, [.ref f_ch_vector, .ref f_ch_costs, .int v_ch_columns, .int v_ch_price, .int v_ch_isFound])), (f_ch_vector, .inl (k_ch_vector, 6, .inl c_ch_vector)), (f_ch_costs, .inl (k_ch_costs, 6, .inl c_ch_costs)), (f_o1, .inl (k_o1, 6, .inl c_o1))]) [1, 0, 2, 3] (by decide) rfl
        exact (key k9).1 _ _ _ _ _ _ _ hs hP hD hS (lv_sub hl [1, 2, 0] rfl)
      · have hs := sm_neg hc1 hs
        refine lv_iload_n hx hb d_CH_take_13 rfl (lv_at hl 0 rfl) ?_
        refine lv_aload_n hx hb d_CH_take_14 rfl (lv_at hl 1 rfl) ?_
        refine va_get (D := (dC, dI)) (ci := 8) (v := .int v_ch_price) (C := R_CH) (T := T_CH) (N := 5) hx hb hts in_CH hown hK hP 1 rfl rfl 3 (by decide) (hts _ k_245) (fun _ h9 => h9) rfl d_CH_take_15 ?_
        refine lv_icmp_lt (tgt := 37) hx hb d_CH_take_18 (by decide) (fun hc2 => ?_) (fun hc2 => ?_)
        · have hs := sm_pos hc2 hs
          have hP := hP.sub (ws' := [(a_ch, .inr (8, [.ref f_ch_vector, .ref f_ch_costs, .int v_ch_columns, .int v_ch_price, .int v_ch_isFound])), (f_ch_vector, .inl (k_ch_vector, 6, .inl c_ch_vector)), (f_ch_costs, .inl (k_ch_costs, 6, .inl c_ch_costs)), (f_o1, .inl (k_o1, 6, .inl c_o1))]) [1, 0, 2, 3] rfl
          have hD := hD.sub (ws' := [(a_ch, .inr (8, [.ref f_ch_vector, .ref f_ch_costs, .int v_ch_columns, .int v_ch_price, .int v_ch_isFound])), (f_ch_vector, .inl (k_ch_vector, 6, .inl c_ch_vector)), (f_ch_costs, .inl (k_ch_costs, 6, .inl c_ch_costs)), (f_o1, .inl (k_o1, 6, .inl c_o1))]) [1, 0, 2, 3] (by decide) rfl
          exact (key k9).1 _ _ _ _ _ _ _ hs hP hD hS (lv_sub hl [1, 2, 0] rfl)
        · have hs := sm_neg hc2 hs
          refine lv_iload_n hx hb d_CH_take_21 rfl (lv_at hl 0 rfl) ?_
          refine lv_aload_n hx hb d_CH_take_22 rfl (lv_at hl 1 rfl) ?_
          refine va_get (D := (dC, dI)) (ci := 8) (v := .int v_ch_price) (C := R_CH) (T := T_CH) (N := 5) hx hb hts in_CH hown hK hP 1 rfl rfl 3 (by decide) (hts _ k_245) (fun _ h9 => h9) rfl d_CH_take_23 ?_
          refine lv_icmp_ne (tgt := 59) hx hb d_CH_take_26 (by decide) (fun hc3 => ?_) (fun hc3 => ?_)
          · have hs := sm_neg hc3 hs
            have hP := hP.sub (ws' := [(a_ch, .inr (8, [.ref f_ch_vector, .ref f_ch_costs, .int v_ch_columns, .int v_ch_price, .int v_ch_isFound])), (f_ch_vector, .inl (k_ch_vector, 6, .inl c_ch_vector)), (f_ch_costs, .inl (k_ch_costs, 6, .inl c_ch_costs)), (f_o1, .inl (k_o1, 6, .inl c_o1))]) [1, 0, 2, 3] rfl
            have hD := hD.sub (ws' := [(a_ch, .inr (8, [.ref f_ch_vector, .ref f_ch_costs, .int v_ch_columns, .int v_ch_price, .int v_ch_isFound])), (f_ch_vector, .inl (k_ch_vector, 6, .inl c_ch_vector)), (f_ch_costs, .inl (k_ch_costs, 6, .inl c_ch_costs)), (f_o1, .inl (k_o1, 6, .inl c_o1))]) [1, 0, 2, 3] (by decide) rfl
            exact (key k9).2 _ _ _ _ _ _ _ hs hP hD hS (lv_sub hl [] rfl)
          · have hs := sm_pos hc3 hs
            refine lv_aload_n hx hb d_CH_take_29 rfl (lv_at hl 1 rfl) ?_
            refine lv_aload_n hx hb d_CH_take_30 rfl (lv_at hl 2 rfl) ?_
            obtain ⟨r2, hq2, hs⟩ := sm_bd hs
            have hPc := hP.sub (ws' := [(a_ch, .inr (8, [.ref f_ch_vector, .ref f_ch_costs, .int v_ch_columns, .int v_ch_price, .int v_ch_isFound])), (f_ch_vector, .inl (k_ch_vector, 6, .inl c_ch_vector)), (f_o1, .inl (k_o1, 6, .inl c_o1))]) [1, 0, 3] rfl
            have hDc := hD.sub (ws' := [(a_ch, .inr (8, [.ref f_ch_vector, .ref f_ch_costs, .int v_ch_columns, .int v_ch_price, .int v_ch_isFound])), (f_ch_vector, .inl (k_ch_vector, 6, .inl c_ch_vector)), (f_o1, .inl (k_o1, 6, .inl c_o1))]) [1, 0, 3] (by decide) rfl
            have hKc := hK.sub (tys' := [(k_ch_vector, .int), (k_o1, .int)]) [0, 2] rfl
            have hFc := va_free (wc := [(a_ch, .inr (8, [.ref f_ch_vector, .ref f_ch_costs, .int v_ch_columns, .int v_ch_price, .int v_ch_isFound])), (f_ch_vector, .inl (k_ch_vector, 6, .inl c_ch_vector)), (f_o1, .inl (k_o1, 6, .inl c_o1))]) hD hS hA [1, 0, 3] rfl
            refine va_calli (va_runV (As := [.ref f_o1]) (rest := []) ⟨hx, hb, hml, hown, hts⟩ (c_CH_isBefore l dC dI (a_ch) (f_ch_vector) (f_ch_costs) (v_ch_columns) (v_ch_price) (v_ch_isFound) (k_ch_vector) (c_ch_vector) (f_o1) (k_o1) (c_o1) H4.size r2 hq2) (wd_V (C := "LeastSolutions$Cheapest") 1 hts k_806 k_9 k_803 k_805 ks_CH_isBefore rfl rfl (by decide +kernel) ⟨Nat.le_of_ble_eq_true rfl, Nat.le_of_ble_eq_true rfl⟩) ⟨fun a U g mk q => by obtain ⟨q0, q1, qP, qK, qD, qN⟩ := q; exact ⟨q0, q1, qP, va_K.moved (u := U) (U := U.calling g mk a) (Vm.Alike.refl U.vm) qK, qD, nw_ok.same (s := U) (U := U.calling g mk a) rfl qN⟩, va_recv (ci := 8) (q0 := 1) hK hP rfl rfl, fun U hU hW => ⟨rfl, by rw [hU], by rw [hU]; exact hPc, va_K.moved hW.alike hKc, hDc.weaken (fun _ _ _ _ => trivial), nw_ok.warm hW hN⟩⟩ rfl rfl hl.1 rfl (lv_room (Nat.le_of_ble_eq_true rfl)) d_CH_take_31 ⟨Nat.le_of_ble_eq_true rfl, Nat.le_of_ble_eq_true rfl⟩) hS (fun q _ h => hFc q h) hFc (fun q2 u t H5 locs ht hvm hr2 hB hz1 hk1 hS => ?_)
            have hr2 := (show q2 = r2 from hr2).symm
            subst hr2
            obtain ⟨hP1, hK1, hD1⟩ := hB
            rw [ht] at hP1
            have hK1 := va_K.moved hvm.symm hK1
            obtain ⟨hP, hD⟩ := va_join (wr := [(f_ch_costs, .inl (k_ch_costs, 6, .inl c_ch_costs))]) (w1 := [(a_ch, .inr (8, [.ref f_ch_vector, .ref f_ch_costs, .int v_ch_columns, .int v_ch_price, .int v_ch_isFound])), (f_ch_vector, .inl (k_ch_vector, 6, .inl c_ch_vector)), (f_o1, .inl (k_o1, 6, .inl c_o1))]) hP hD [1, 0, 3] [2] rfl rfl (by decide) (by decide) hk1 hFc hP1 hD1
            have hK := (hK.sub (tys' := [(k_ch_costs, .int)]) [1] rfl).app hK1
            have hK : va_K (dC, dI) cls [(k_ch_costs, .int), (k_ch_vector, .int), (k_o1, .int)] s := hK
            have hP : va_P (dC, dI) cls [(f_ch_costs, .inl (k_ch_costs, 6, .inl c_ch_costs)), (a_ch, .inr (8, [.ref f_ch_vector, .ref f_ch_costs, .int v_ch_columns, .int v_ch_price, .int v_ch_isFound])), (f_ch_vector, .inl (k_ch_vector, 6, .inl c_ch_vector)), (f_o1, .inl (k_o1, 6, .inl c_o1))] H5 := hP
            have hD : va_D A [(f_ch_costs, .inl (k_ch_costs, 6, .inl c_ch_costs)), (a_ch, .inr (8, [.ref f_ch_vector, .ref f_ch_costs, .int v_ch_columns, .int v_ch_price, .int v_ch_isFound])), (f_ch_vector, .inl (k_ch_vector, 6, .inl c_ch_vector)), (f_o1, .inl (k_o1, 6, .inl c_o1))] := hD
            refine lv_if_eq (tgt := 59) hx hb d_CH_take_34 (by decide) (fun hc4 => ?_) (fun hc4 => ?_)
            · have hs := sm_pos hc4 hs
              have hP := hP.sub (ws' := [(a_ch, .inr (8, [.ref f_ch_vector, .ref f_ch_costs, .int v_ch_columns, .int v_ch_price, .int v_ch_isFound])), (f_ch_vector, .inl (k_ch_vector, 6, .inl c_ch_vector)), (f_ch_costs, .inl (k_ch_costs, 6, .inl c_ch_costs)), (f_o1, .inl (k_o1, 6, .inl c_o1))]) [1, 2, 0, 3] rfl
              have hD := hD.sub (ws' := [(a_ch, .inr (8, [.ref f_ch_vector, .ref f_ch_costs, .int v_ch_columns, .int v_ch_price, .int v_ch_isFound])), (f_ch_vector, .inl (k_ch_vector, 6, .inl c_ch_vector)), (f_ch_costs, .inl (k_ch_costs, 6, .inl c_ch_costs)), (f_o1, .inl (k_o1, 6, .inl c_o1))]) [1, 2, 0, 3] (by decide) rfl
              have hK := hK.sub (tys' := [(k_ch_vector, .int), (k_ch_costs, .int), (k_o1, .int)]) [1, 0, 2] rfl
              exact (key k9).2 _ _ _ _ _ _ _ hs hP hD hS (lv_sub hl [] rfl)
            · have hs := sm_neg hc4 hs
              have hP := hP.sub (ws' := [(a_ch, .inr (8, [.ref f_ch_vector, .ref f_ch_costs, .int v_ch_columns, .int v_ch_price, .int v_ch_isFound])), (f_ch_vector, .inl (k_ch_vector, 6, .inl c_ch_vector)), (f_ch_costs, .inl (k_ch_costs, 6, .inl c_ch_costs)), (f_o1, .inl (k_o1, 6, .inl c_o1))]) [1, 2, 0, 3] rfl
              have hD := hD.sub (ws' := [(a_ch, .inr (8, [.ref f_ch_vector, .ref f_ch_costs, .int v_ch_columns, .int v_ch_price, .int v_ch_isFound])), (f_ch_vector, .inl (k_ch_vector, 6, .inl c_ch_vector)), (f_ch_costs, .inl (k_ch_costs, 6, .inl c_ch_costs)), (f_o1, .inl (k_o1, 6, .inl c_o1))]) [1, 2, 0, 3] (by decide) rfl
              have hK := hK.sub (tys' := [(k_ch_vector, .int), (k_ch_costs, .int), (k_o1, .int)]) [1, 0, 2] rfl
              exact (key k9).1 _ _ _ _ _ _ _ hs hP hD hS (lv_sub hl [1, 2, 0] rfl)
