noncomputable def fn_EQ_columns_b0 (v_eq_variables : Int32) (v_eq_slacks : Int32)  : Option ((Nat) ⊕ (Int32)) := some (.inr (v_eq_variables + v_eq_slacks))
noncomputable def fn_EQ_columns (v_eq_variables : Int32) (v_eq_slacks : Int32) : Nat → Option ((Nat) ⊕ (Int32)) := fun st => match st with
  | pc => if pc = 0 then fn_EQ_columns_b0 v_eq_variables v_eq_slacks else none
theorem fn_EQ_columns_q0 (v_eq_variables : Int32) (v_eq_slacks : Int32)  : fn_EQ_columns v_eq_variables v_eq_slacks (0) = fn_EQ_columns_b0 v_eq_variables v_eq_slacks := by simp [fn_EQ_columns]
set_option maxHeartbeats 4000000 in
set_option maxRecDepth 100000 in
theorem c_EQ_columns (l : Launch) (dC : Nat → ClassId) (dI : Nat → Nat → Nat) (a_eq : Nat) (f_eq_a : Nat) (f_eq_b : Nat) (f_eq_letters : Nat) (f_eq_slackRows : Nat) (f_eq_slackNumbers : Nat) (v_eq_rows : Int32) (v_eq_variables : Int32) (v_eq_slacks : Int32) (sz : Nat) (out : Int32) (hs : sm_tot (fn_EQ_columns v_eq_variables v_eq_slacks) 0 = some out) : Met l y_EQ_columns (Cond.code y_EQ_columns b_EQ_columns 1 (Option.some Jvm.ClassFile.FieldType.int) :: wd) { frames := 0, cells := 0, slots := 0, locals := 0 } (va_Pc [.ref a_eq] (fun U => U.heap.size = sz ∧ va_P (dC, dI) cls [(a_eq, .inr (4, [.ref f_eq_a, .ref f_eq_b, .ref f_eq_letters, .ref f_eq_slackRows, .ref f_eq_slackNumbers, .int v_eq_rows, .int v_eq_variables, .int v_eq_slacks]))] U.heap ∧ va_K (dC, dI) cls [] U ∧ va_D (fun _ => True) [(a_eq, .inr (4, [.ref f_eq_a, .ref f_eq_b, .ref f_eq_letters, .ref f_eq_slackRows, .ref f_eq_slackNumbers, .int v_eq_rows, .int v_eq_variables, .int v_eq_slacks]))] ∧ nw_ok U)) (va_Qi (fun r (_ : Unit) => r = out) (fun (_ : Unit) t => va_P (dC, dI) cls [(a_eq, .inr (4, [.ref f_eq_a, .ref f_eq_b, .ref f_eq_letters, .ref f_eq_slackRows, .ref f_eq_slackNumbers, .int v_eq_rows, .int v_eq_variables, .int v_eq_slacks]))] t.heap ∧ va_K (dC, dI) cls [] t ∧ va_D (va_A [(a_eq, .inr (4, [.ref f_eq_a, .ref f_eq_b, .ref f_eq_letters, .ref f_eq_slackRows, .ref f_eq_slackNumbers, .int v_eq_rows, .int v_eq_variables, .int v_eq_slacks]))] sz) [(a_eq, .inr (4, [.ref f_eq_a, .ref f_eq_b, .ref f_eq_letters, .ref f_eq_slackRows, .ref f_eq_slackNumbers, .int v_eq_rows, .int v_eq_variables, .int v_eq_slacks]))]) (va_A [(a_eq, .inr (4, [.ref f_eq_a, .ref f_eq_b, .ref f_eq_letters, .ref f_eq_slackRows, .ref f_eq_slackNumbers, .int v_eq_rows, .int v_eq_variables, .int v_eq_slacks]))] sz)) 0 0 (va_A [(a_eq, .inr (4, [.ref f_eq_a, .ref f_eq_b, .ref f_eq_letters, .ref f_eq_slackRows, .ref f_eq_slackNumbers, .int v_eq_rows, .int v_eq_variables, .int v_eq_slacks]))] sz) := by
  refine Met.ofW (cc := b_EQ_columns) (maxL := 1) (ret := (Option.some Jvm.ClassFile.FieldType.int)) (by decide) rfl ?_
  intro p e s m args below meth c s₁ B hml hv
  obtain ⟨rfl, hsz, hP, hK, hD0, hN⟩ := hv
  have hx := B.exec
  have hb := B.bytes
  have hr := B.returns
  have hlocks := B.notSynchronized
  have hts : ∀ w ∈ wd, w.before ([.ref a_eq] : List Value).toArray s = true := fun w hw => atoms_spec (ws := (Cond.code y_EQ_columns b_EQ_columns 1 (Option.some Jvm.ClassFile.FieldType.int) :: wd)) B.pre w (List.mem_cons_of_mem _ hw)
  have hown : s.vm.findClass "LeastSolutions$Equations" = some m.cls := findClass_of_methodNamed B.named
  subst hsz
  have hD := hD0.self (sz := s.heap.size)
  generalize hAe : va_A [(a_eq, .inr (4, [.ref f_eq_a, .ref f_eq_b, .ref f_eq_letters, .ref f_eq_slackRows, .ref f_eq_slackNumbers, .int v_eq_rows, .int v_eq_variables, .int v_eq_slacks]))] s.heap.size = A at hD ⊢
  have hA : ∀ q : Nat, s.heap.size ≤ q → A q := fun q h => by rw [← hAe]; exact Or.inr h
  have hS : va_S A s.heap s.heap [] := va_S.rf
  have hl := lv_entry ([.ref a_eq]) (n := 1) (Nat.le_of_ble_eq_true rfl)
  rw [lg_entry_eq]
  generalize (lg_sl ([.ref a_eq]) ++ List.replicate (1 - (lg_sl ([.ref a_eq])).length) Slot.unset).toArray = ls at hl ⊢
  have hl : lv_has ls 1 [(0, .ref a_eq)] := hl
  obtain ⟨k8, hs⟩ := sm_of hs
  cases k8 with
  | zero => cases hs
  | succ k9 =>
    rw [sm_it_succ, fn_EQ_columns_q0] at hs
    unfold fn_EQ_columns_b0 at hs
    refine lv_aload_n hx hb d_EQ_columns_0 rfl (lv_at hl 0 rfl) ?_
    refine va_get (D := (dC, dI)) (ci := 4) (v := .int v_eq_variables) (C := R_EQ) (T := T_EQ) (N := 8) hx hb hts in_EQ hown hK hP 0 rfl rfl 6 (by decide) (hts _ k_113) (fun _ h9 => h9) rfl d_EQ_columns_1 ?_
    refine lv_aload_n hx hb d_EQ_columns_4 rfl (lv_at hl 0 rfl) ?_
    refine va_get (D := (dC, dI)) (ci := 4) (v := .int v_eq_slacks) (C := R_EQ) (T := T_EQ) (N := 8) hx hb hts in_EQ hown hK hP 0 rfl rfl 7 (by decide) (hts _ k_115) (fun _ h9 => h9) rfl d_EQ_columns_5 ?_
    refine lv_iadd hx hb d_EQ_columns_8 ?_
    have he := sm_end hs
    subst he
    exact W.iret (v := (v_eq_variables + v_eq_slacks)) hx hb hr (fun t ht hW => ⟨⟨(v_eq_variables + v_eq_slacks), (), rfl, rfl, by rw [ht]; exact hP, va_K.moved hW.alike hK, hD⟩, hS.F ht⟩) hS.2.2 d_EQ_columns_9

noncomputable def fn_EQ_clear_b0  (_z0 : Int32) (v_eq_rows : Int32) (v_eq_variables : Int32) (v_eq_slacks : Int32) (c_eq_a : Nat → Nat → Int32) (c_eq_b : Nat → Int32) : Option ((Nat × Int32 × Int32 × Int32 × Int32 × (Nat → Nat → Int32) × (Nat → Int32)) ⊕ (Int32 × Int32 × Int32 × (Nat → Nat → Int32) × (Nat → Int32))) := some (.inl (2, 0, v_eq_rows, v_eq_variables, v_eq_slacks, c_eq_a, c_eq_b))
noncomputable def fn_EQ_clear_b2  (x1i : Int32) (w_eq_rows : Int32) (w_eq_variables : Int32) (w_eq_slacks : Int32) (u_eq_a : Nat → Nat → Int32) (u_eq_b : Nat → Int32) : Option ((Nat × Int32 × Int32 × Int32 × Int32 × (Nat → Nat → Int32) × (Nat → Int32)) ⊕ (Int32 × Int32 × Int32 × (Nat → Nat → Int32) × (Nat → Int32))) := if (4 : Int32) ≤ x1i then ((sm_tot (fn_JA_fill 4 0) (0, 0, 0, u_eq_b)).bind (fun r1 => some (.inr (0, 0, 0, u_eq_a, r1)))) else (if ¬ ((x1i : Int32) < 0 ∨ 4 ≤ (x1i : Int32).toNatClampNeg) then (sm_tot (fn_JA_fill_r (x1i : Int32).toNatClampNeg 0) (0, 0, 0, u_eq_a)).bind (fun r2 => some (.inl (2, (x1i + 1), w_eq_rows, w_eq_variables, w_eq_slacks, r2, u_eq_b))) else none)
noncomputable def fn_EQ_clear  : Nat × Int32 × Int32 × Int32 × Int32 × (Nat → Nat → Int32) × (Nat → Int32) → Option ((Nat × Int32 × Int32 × Int32 × Int32 × (Nat → Nat → Int32) × (Nat → Int32)) ⊕ (Int32 × Int32 × Int32 × (Nat → Nat → Int32) × (Nat → Int32))) := fun st => match st with
  | (pc, x1i, w_eq_rows, w_eq_variables, w_eq_slacks, u_eq_a, u_eq_b) => if pc = 0 then fn_EQ_clear_b0 x1i w_eq_rows w_eq_variables w_eq_slacks u_eq_a u_eq_b else if pc = 2 then fn_EQ_clear_b2 x1i w_eq_rows w_eq_variables w_eq_slacks u_eq_a u_eq_b else none
theorem fn_EQ_clear_q0  (x1i : Int32) (w_eq_rows : Int32) (w_eq_variables : Int32) (w_eq_slacks : Int32) (u_eq_a : Nat → Nat → Int32) (u_eq_b : Nat → Int32) : fn_EQ_clear (0, x1i, w_eq_rows, w_eq_variables, w_eq_slacks, u_eq_a, u_eq_b) = fn_EQ_clear_b0 x1i w_eq_rows w_eq_variables w_eq_slacks u_eq_a u_eq_b := by simp [fn_EQ_clear]
theorem fn_EQ_clear_q2  (x1i : Int32) (w_eq_rows : Int32) (w_eq_variables : Int32) (w_eq_slacks : Int32) (u_eq_a : Nat → Nat → Int32) (u_eq_b : Nat → Int32) : fn_EQ_clear (2, x1i, w_eq_rows, w_eq_variables, w_eq_slacks, u_eq_a, u_eq_b) = fn_EQ_clear_b2 x1i w_eq_rows w_eq_variables w_eq_slacks u_eq_a u_eq_b := by simp [fn_EQ_clear]
set_option maxHeartbeats 4000000 in
set_option maxRecDepth 100000 in
theorem c_EQ_clear (l : Launch) (dC : Nat → ClassId) (dI : Nat → Nat → Nat) (a_eq : Nat) (f_eq_a : Nat) (f_eq_b : Nat) (f_eq_letters : Nat) (f_eq_slackRows : Nat) (f_eq_slackNumbers : Nat) (v_eq_rows : Int32) (v_eq_variables : Int32) (v_eq_slacks : Int32) (k_eq_a : ClassId) (r_eq_a : Nat → Nat) (j_eq_a : ClassId) (c_eq_a : Nat → Nat → Int32) (k_eq_b : ClassId) (c_eq_b : Nat → Int32) (sz : Nat) (out : Int32 × Int32 × Int32 × (Nat → Nat → Int32) × (Nat → Int32)) (hs : sm_tot (fn_EQ_clear) (0, 0, v_eq_rows, v_eq_variables, v_eq_slacks, c_eq_a, c_eq_b) = some out) : Met l y_EQ_clear (Cond.code y_EQ_clear b_EQ_clear 2 (Option.none : Option Jvm.ClassFile.FieldType) :: wd) { frames := 1, cells := 0, slots := 0, locals := 23 } (va_Pc [.ref a_eq] (fun U => U.heap.size = sz ∧ va_P (dC, dI) cls [(a_eq, .inr (4, [.ref f_eq_a, .ref f_eq_b, .ref f_eq_letters, .ref f_eq_slackRows, .ref f_eq_slackNumbers, .int v_eq_rows, .int v_eq_variables, .int v_eq_slacks])), (f_eq_a, .inl (k_eq_a, 4, .inr (.inr (.inr (.inr (fun i9 => some (r_eq_a i9))))))), ((r_eq_a 0), .inl (j_eq_a, 6, .inl (c_eq_a 0))), ((r_eq_a 1), .inl (j_eq_a, 6, .inl (c_eq_a 1))), ((r_eq_a 2), .inl (j_eq_a, 6, .inl (c_eq_a 2))), ((r_eq_a 3), .inl (j_eq_a, 6, .inl (c_eq_a 3))), (f_eq_b, .inl (k_eq_b, 4, .inl c_eq_b))] U.heap ∧ va_K (dC, dI) cls [(k_eq_a, .array .int), (j_eq_a, .int), (k_eq_b, .int)] U ∧ va_D (fun _ => True) [(a_eq, .inr (4, [.ref f_eq_a, .ref f_eq_b, .ref f_eq_letters, .ref f_eq_slackRows, .ref f_eq_slackNumbers, .int v_eq_rows, .int v_eq_variables, .int v_eq_slacks])), (f_eq_a, .inl (k_eq_a, 4, .inr (.inr (.inr (.inr (fun i9 => some (r_eq_a i9))))))), ((r_eq_a 0), .inl (j_eq_a, 6, .inl (c_eq_a 0))), ((r_eq_a 1), .inl (j_eq_a, 6, .inl (c_eq_a 1))), ((r_eq_a 2), .inl (j_eq_a, 6, .inl (c_eq_a 2))), ((r_eq_a 3), .inl (j_eq_a, 6, .inl (c_eq_a 3))), (f_eq_b, .inl (k_eq_b, 4, .inl c_eq_b))] ∧ nw_ok U)) (va_Qv (fun _ : Unit => True) (fun (_ : Unit) t => va_P (dC, dI) cls [(a_eq, .inr (4, [.ref f_eq_a, .ref f_eq_b, .ref f_eq_letters, .ref f_eq_slackRows, .ref f_eq_slackNumbers, .int out.1, .int out.2.1, .int out.2.2.1])), (f_eq_a, .inl (k_eq_a, 4, .inr (.inr (.inr (.inr (fun i9 => some (r_eq_a i9))))))), ((r_eq_a 0), .inl (j_eq_a, 6, .inl (out.2.2.2.1 0))), ((r_eq_a 1), .inl (j_eq_a, 6, .inl (out.2.2.2.1 1))), ((r_eq_a 2), .inl (j_eq_a, 6, .inl (out.2.2.2.1 2))), ((r_eq_a 3), .inl (j_eq_a, 6, .inl (out.2.2.2.1 3))), (f_eq_b, .inl (k_eq_b, 4, .inl out.2.2.2.2))] t.heap ∧ va_K (dC, dI) cls [(k_eq_a, .array .int), (j_eq_a, .int), (k_eq_b, .int)] t ∧ va_D (va_A [(a_eq, .inr (4, [.ref f_eq_a, .ref f_eq_b, .ref f_eq_letters, .ref f_eq_slackRows, .ref f_eq_slackNumbers, .int v_eq_rows, .int v_eq_variables, .int v_eq_slacks])), (f_eq_a, .inl (k_eq_a, 4, .inr (.inr (.inr (.inr (fun i9 => some (r_eq_a i9))))))), ((r_eq_a 0), .inl (j_eq_a, 6, .inl (c_eq_a 0))), ((r_eq_a 1), .inl (j_eq_a, 6, .inl (c_eq_a 1))), ((r_eq_a 2), .inl (j_eq_a, 6, .inl (c_eq_a 2))), ((r_eq_a 3), .inl (j_eq_a, 6, .inl (c_eq_a 3))), (f_eq_b, .inl (k_eq_b, 4, .inl c_eq_b))] sz) [(a_eq, .inr (4, [.ref f_eq_a, .ref f_eq_b, .ref f_eq_letters, .ref f_eq_slackRows, .ref f_eq_slackNumbers, .int out.1, .int out.2.1, .int out.2.2.1])), (f_eq_a, .inl (k_eq_a, 4, .inr (.inr (.inr (.inr (fun i9 => some (r_eq_a i9))))))), ((r_eq_a 0), .inl (j_eq_a, 6, .inl (out.2.2.2.1 0))), ((r_eq_a 1), .inl (j_eq_a, 6, .inl (out.2.2.2.1 1))), ((r_eq_a 2), .inl (j_eq_a, 6, .inl (out.2.2.2.1 2))), ((r_eq_a 3), .inl (j_eq_a, 6, .inl (out.2.2.2.1 3))), (f_eq_b, .inl (k_eq_b, 4, .inl out.2.2.2.2))]) (va_A [(a_eq, .inr (4, [.ref f_eq_a, .ref f_eq_b, .ref f_eq_letters, .ref f_eq_slackRows, .ref f_eq_slackNumbers, .int v_eq_rows, .int v_eq_variables, .int v_eq_slacks])), (f_eq_a, .inl (k_eq_a, 4, .inr (.inr (.inr (.inr (fun i9 => some (r_eq_a i9))))))), ((r_eq_a 0), .inl (j_eq_a, 6, .inl (c_eq_a 0))), ((r_eq_a 1), .inl (j_eq_a, 6, .inl (c_eq_a 1))), ((r_eq_a 2), .inl (j_eq_a, 6, .inl (c_eq_a 2))), ((r_eq_a 3), .inl (j_eq_a, 6, .inl (c_eq_a 3))), (f_eq_b, .inl (k_eq_b, 4, .inl c_eq_b))] sz)) 0 0 (va_A [(a_eq, .inr (4, [.ref f_eq_a, .ref f_eq_b, .ref f_eq_letters, .ref f_eq_slackRows, .ref f_eq_slackNumbers, .int v_eq_rows, .int v_eq_variables, .int v_eq_slacks])), (f_eq_a, .inl (k_eq_a, 4, .inr (.inr (.inr (.inr (fun i9 => some (r_eq_a i9))))))), ((r_eq_a 0), .inl (j_eq_a, 6, .inl (c_eq_a 0))), ((r_eq_a 1), .inl (j_eq_a, 6, .inl (c_eq_a 1))), ((r_eq_a 2), .inl (j_eq_a, 6, .inl (c_eq_a 2))), ((r_eq_a 3), .inl (j_eq_a, 6, .inl (c_eq_a 3))), (f_eq_b, .inl (k_eq_b, 4, .inl c_eq_b))] sz) := by
  refine Met.ofW (cc := b_EQ_clear) (maxL := 2) (ret := (Option.none : Option Jvm.ClassFile.FieldType)) (by decide) rfl ?_
  intro p e s m args below meth c s₁ B hml hv
  obtain ⟨rfl, hsz, hP, hK, hD0, hN⟩ := hv
  have hx := B.exec
  have hb := B.bytes
  have hr := B.returns
  have hlocks := B.notSynchronized
  have hts : ∀ w ∈ wd, w.before ([.ref a_eq] : List Value).toArray s = true := fun w hw => atoms_spec (ws := (Cond.code y_EQ_clear b_EQ_clear 2 (Option.none : Option Jvm.ClassFile.FieldType) :: wd)) B.pre w (List.mem_cons_of_mem _ hw)
  have hown : s.vm.findClass "LeastSolutions$Equations" = some m.cls := findClass_of_methodNamed B.named
  subst hsz
  have hD := hD0.self (sz := s.heap.size)
  generalize hAe : va_A [(a_eq, .inr (4, [.ref f_eq_a, .ref f_eq_b, .ref f_eq_letters, .ref f_eq_slackRows, .ref f_eq_slackNumbers, .int v_eq_rows, .int v_eq_variables, .int v_eq_slacks])), (f_eq_a, .inl (k_eq_a, 4, .inr (.inr (.inr (.inr (fun i9 => some (r_eq_a i9))))))), ((r_eq_a 0), .inl (j_eq_a, 6, .inl (c_eq_a 0))), ((r_eq_a 1), .inl (j_eq_a, 6, .inl (c_eq_a 1))), ((r_eq_a 2), .inl (j_eq_a, 6, .inl (c_eq_a 2))), ((r_eq_a 3), .inl (j_eq_a, 6, .inl (c_eq_a 3))), (f_eq_b, .inl (k_eq_b, 4, .inl c_eq_b))] s.heap.size = A at hD ⊢
  have hA : ∀ q : Nat, s.heap.size ≤ q → A q := fun q h => by rw [← hAe]; exact Or.inr h
  have hS : va_S A s.heap s.heap [] := va_S.rf
  have hl := lv_entry ([.ref a_eq]) (n := 2) (Nat.le_of_ble_eq_true rfl)
  rw [lg_entry_eq]
  generalize (lg_sl ([.ref a_eq]) ++ List.replicate (2 - (lg_sl ([.ref a_eq])).length) Slot.unset).toArray = ls at hl ⊢
  have hl : lv_has ls 2 [(0, .ref a_eq)] := hl
  obtain ⟨k8, hs⟩ := sm_of hs
  refine sm_key (fun R Q k9 => (∀ (H : Heap) (locs : List Loc) (ls : Array Slot) (x1i : Int32) (w_eq_rows : Int32) (w_eq_variables : Int32) (w_eq_slacks : Int32) (u_eq_a : Nat → Nat → Int32) (u_eq_b : Nat → Int32), sm_it (fn_EQ_clear) k9 (2, x1i, w_eq_rows, w_eq_variables, w_eq_slacks, u_eq_a, u_eq_b) = some out → va_P (dC, dI) cls [(a_eq, .inr (4, [.ref f_eq_a, .ref f_eq_b, .ref f_eq_letters, .ref f_eq_slackRows, .ref f_eq_slackNumbers, .int w_eq_rows, .int w_eq_variables, .int w_eq_slacks])), (f_eq_a, .inl (k_eq_a, 4, .inr (.inr (.inr (.inr (fun i9 => some (r_eq_a i9))))))), ((r_eq_a 0), .inl (j_eq_a, 6, .inl (u_eq_a 0))), ((r_eq_a 1), .inl (j_eq_a, 6, .inl (u_eq_a 1))), ((r_eq_a 2), .inl (j_eq_a, 6, .inl (u_eq_a 2))), ((r_eq_a 3), .inl (j_eq_a, 6, .inl (u_eq_a 3))), (f_eq_b, .inl (k_eq_b, 4, .inl u_eq_b))] H → va_D A [(a_eq, .inr (4, [.ref f_eq_a, .ref f_eq_b, .ref f_eq_letters, .ref f_eq_slackRows, .ref f_eq_slackNumbers, .int w_eq_rows, .int w_eq_variables, .int w_eq_slacks])), (f_eq_a, .inl (k_eq_a, 4, .inr (.inr (.inr (.inr (fun i9 => some (r_eq_a i9))))))), ((r_eq_a 0), .inl (j_eq_a, 6, .inl (u_eq_a 0))), ((r_eq_a 1), .inl (j_eq_a, 6, .inl (u_eq_a 1))), ((r_eq_a 2), .inl (j_eq_a, 6, .inl (u_eq_a 2))), ((r_eq_a 3), .inl (j_eq_a, 6, .inl (u_eq_a 3))), (f_eq_b, .inl (k_eq_b, 4, .inl u_eq_b))] → va_S A s.heap H locs → lv_has ls 2 [(0, .ref a_eq), (1, .int x1i)] → W p l e R s m ([.ref a_eq] : List Value).toArray below meth c H locs 0 0 Q (F0 m 2 ls []))) ?_ ?_ ?_
  · exact fun _ _ _ _ _ _ _ _ _ hs => by cases hs
  · intro k9 ih
    skip
    intro H locs ls x1i w_eq_rows w_eq_variables w_eq_slacks u_eq_a u_eq_b hs hP hD hS hl
    rw [sm_it_succ, fn_EQ_clear_q2] at hs
    unfold fn_EQ_clear_b2 at hs
    refine lv_iload_n hx hb d_EQ_clear_2 rfl (lv_at hl 1 rfl) ?_
    refine lv_iconst (v := 4) hx hb d_EQ_clear_3 (by decide) ?_
    refine lv_icmp_ge (tgt := 23) hx hb d_EQ_clear_4 (by decide) (fun hc1 => ?_) (fun hc1 => ?_)
    · have hs := sm_pos hc1 hs
      refine lv_aload_n hx hb d_EQ_clear_23 rfl (lv_at hl 0 rfl) ?_
      refine va_get (D := (dC, dI)) (ci := 4) (v := .ref f_eq_b) (C := R_EQ) (T := T_EQ) (N := 8) hx hb hts in_EQ hown hK hP 0 rfl rfl 1 (by decide) (hts _ k_99) (fun _ h9 => h9) rfl d_EQ_clear_24 ?_
      refine lv_iconst (v := 0) hx hb d_EQ_clear_27 (by decide) ?_
      obtain ⟨r1, hq1, hs⟩ := sm_bd hs
      have hPc := hP.sub (ws' := [(f_eq_b, .inl (k_eq_b, 4, .inl u_eq_b))]) [6] rfl
      have hDc := hD.sub (ws' := [(f_eq_b, .inl (k_eq_b, 4, .inl u_eq_b))]) [6] (by decide) rfl
      have hKc := hK.sub (tys' := [(k_eq_b, .int)]) [2] rfl
      have hFc := va_free (wc := [(f_eq_b, .inl (k_eq_b, 4, .inl u_eq_b))]) hD hS hA [6] rfl
      refine va_callv (va_runS (As := [.ref f_eq_b, .int 0]) (rest := []) ⟨hx, hb, hml, hown, hts⟩ (c_JA_fill l dC dI (f_eq_b) (k_eq_b) (4) (u_eq_b) (0) H.size r1 hq1) (wd_S 2 hts k_408 k_13 k_406 k_407 rfl rfl (by decide +kernel) ⟨Nat.le_of_ble_eq_true rfl, Nat.le_of_ble_eq_true rfl⟩) ⟨fun a U g mk q => by obtain ⟨q0, q1, qP, qK, qD, qN⟩ := q; exact ⟨q0, q1, qP, va_K.moved (u := U) (U := U.calling g mk a) (Vm.Alike.refl U.vm) qK, qD, nw_ok.same (s := U) (U := U.calling g mk a) rfl qN⟩, fun U hU hW => ⟨rfl, by rw [hU], by rw [hU]; exact hPc, va_K.moved hW.alike hKc, hDc.weaken (fun _ _ _ _ => trivial), nw_ok.warm hW hN⟩⟩ rfl rfl hl.1 rfl (lv_room (Nat.le_of_ble_eq_true rfl)) d_EQ_clear_28 ⟨Nat.le_of_ble_eq_true rfl, Nat.le_of_ble_eq_true rfl⟩) hS (fun q _ h => hFc q h) hFc (fun u t H1 locs ht hvm hr1 hB hz1 hk1 hS => ?_)
      obtain ⟨hP1, hK1, hD1⟩ := hB
      rw [ht] at hP1
      have hK1 := va_K.moved hvm.symm hK1
      obtain ⟨hP, hD⟩ := va_join (wr := [(a_eq, .inr (4, [.ref f_eq_a, .ref f_eq_b, .ref f_eq_letters, .ref f_eq_slackRows, .ref f_eq_slackNumbers, .int w_eq_rows, .int w_eq_variables, .int w_eq_slacks])), (f_eq_a, .inl (k_eq_a, 4, .inr (.inr (.inr (.inr (fun i9 => some (r_eq_a i9))))))), ((r_eq_a 0), .inl (j_eq_a, 6, .inl (u_eq_a 0))), ((r_eq_a 1), .inl (j_eq_a, 6, .inl (u_eq_a 1))), ((r_eq_a 2), .inl (j_eq_a, 6, .inl (u_eq_a 2))), ((r_eq_a 3), .inl (j_eq_a, 6, .inl (u_eq_a 3)))]) (w1 := [(f_eq_b, .inl (k_eq_b, 4, .inl r1))]) hP hD [6] [0, 1, 2, 3, 4, 5] rfl rfl (by decide) (by decide) hk1 hFc hP1 hD1
      have hK := (hK.sub (tys' := [(k_eq_a, .array .int), (j_eq_a, .int)]) [0, 1] rfl).app hK1
      have hK : va_K (dC, dI) cls [(k_eq_a, .array .int), (j_eq_a, .int), (k_eq_b, .int)] s := hK
      have hP : va_P (dC, dI) cls [(a_eq, .inr (4, [.ref f_eq_a, .ref f_eq_b, .ref f_eq_letters, .ref f_eq_slackRows, .ref f_eq_slackNumbers, .int w_eq_rows, .int w_eq_variables, .int w_eq_slacks])), (f_eq_a, .inl (k_eq_a, 4, .inr (.inr (.inr (.inr (fun i9 => some (r_eq_a i9))))))), ((r_eq_a 0), .inl (j_eq_a, 6, .inl (u_eq_a 0))), ((r_eq_a 1), .inl (j_eq_a, 6, .inl (u_eq_a 1))), ((r_eq_a 2), .inl (j_eq_a, 6, .inl (u_eq_a 2))), ((r_eq_a 3), .inl (j_eq_a, 6, .inl (u_eq_a 3))), (f_eq_b, .inl (k_eq_b, 4, .inl r1))] H1 := hP
      have hD : va_D A [(a_eq, .inr (4, [.ref f_eq_a, .ref f_eq_b, .ref f_eq_letters, .ref f_eq_slackRows, .ref f_eq_slackNumbers, .int w_eq_rows, .int w_eq_variables, .int w_eq_slacks])), (f_eq_a, .inl (k_eq_a, 4, .inr (.inr (.inr (.inr (fun i9 => some (r_eq_a i9))))))), ((r_eq_a 0), .inl (j_eq_a, 6, .inl (u_eq_a 0))), ((r_eq_a 1), .inl (j_eq_a, 6, .inl (u_eq_a 1))), ((r_eq_a 2), .inl (j_eq_a, 6, .inl (u_eq_a 2))), ((r_eq_a 3), .inl (j_eq_a, 6, .inl (u_eq_a 3))), (f_eq_b, .inl (k_eq_b, 4, .inl r1))] := hD
      refine lv_aload_n hx hb d_EQ_clear_31 rfl (lv_at hl 0 rfl) ?_
      refine lv_iconst (v := 0) hx hb d_EQ_clear_32 (by decide) ?_
      refine va_put (D := (dC, dI)) (ci := 4) (v := .int 0) (ty := .int) (C := R_EQ) (T := T_EQ) (N := 8) hx hb hts in_EQ t_EQ t_EQ_ok n_EQ hown hK hP hD hS 0 rfl rfl 5 (by decide) (hts _ k_108) (fun _ h9 => h9) rfl (by decide +kernel) rfl rfl (Nat.le_of_ble_eq_true rfl) d_EQ_clear_33 (fun H2 locs hP hD hS => ?_)
      have hP : va_P (dC, dI) cls [(a_eq, .inr (4, [.ref f_eq_a, .ref f_eq_b, .ref f_eq_letters, .ref f_eq_slackRows, .ref f_eq_slackNumbers, .int 0, .int w_eq_variables, .int w_eq_slacks])), (f_eq_a, .inl (k_eq_a, 4, .inr (.inr (.inr (.inr (fun i9 => some (r_eq_a i9))))))), ((r_eq_a 0), .inl (j_eq_a, 6, .inl (u_eq_a 0))), ((r_eq_a 1), .inl (j_eq_a, 6, .inl (u_eq_a 1))), ((r_eq_a 2), .inl (j_eq_a, 6, .inl (u_eq_a 2))), ((r_eq_a 3), .inl (j_eq_a, 6, .inl (u_eq_a 3))), (f_eq_b, .inl (k_eq_b, 4, .inl r1))] H2 := hP
      have hD : va_D A [(a_eq, .inr (4, [.ref f_eq_a, .ref f_eq_b, .ref f_eq_letters, .ref f_eq_slackRows, .ref f_eq_slackNumbers, .int 0, .int w_eq_variables, .int w_eq_slacks])), (f_eq_a, .inl (k_eq_a, 4, .inr (.inr (.inr (.inr (fun i9 => some (r_eq_a i9))))))), ((r_eq_a 0), .inl (j_eq_a, 6, .inl (u_eq_a 0))), ((r_eq_a 1), .inl (j_eq_a, 6, .inl (u_eq_a 1))), ((r_eq_a 2), .inl (j_eq_a, 6, .inl (u_eq_a 2))), ((r_eq_a 3), .inl (j_eq_a, 6, .inl (u_eq_a 3))), (f_eq_b, .inl (k_eq_b, 4, .inl r1))] := hD
      refine lv_aload_n hx hb d_EQ_clear_36 rfl (lv_at hl 0 rfl) ?_
      refine lv_iconst (v := 0) hx hb d_EQ_clear_37 (by decide) ?_
      refine va_put (D := (dC, dI)) (ci := 4) (v := .int 0) (ty := .int) (C := R_EQ) (T := T_EQ) (N := 8) hx hb hts in_EQ t_EQ t_EQ_ok n_EQ hown hK hP hD hS 0 rfl rfl 6 (by decide) (hts _ k_113) (fun _ h9 => h9) rfl (by decide +kernel) rfl rfl (Nat.le_of_ble_eq_true rfl) d_EQ_clear_38 (fun H3 locs hP hD hS => ?_)
      have hP : va_P (dC, dI) cls [(a_eq, .inr (4, [.ref f_eq_a, .ref f_eq_b, .ref f_eq_letters, .ref f_eq_slackRows, .ref f_eq_slackNumbers, .int 0, .int 0, .int w_eq_slacks])), (f_eq_a, .inl (k_eq_a, 4, .inr (.inr (.inr (.inr (fun i9 => some (r_eq_a i9))))))), ((r_eq_a 0), .inl (j_eq_a, 6, .inl (u_eq_a 0))), ((r_eq_a 1), .inl (j_eq_a, 6, .inl (u_eq_a 1))), ((r_eq_a 2), .inl (j_eq_a, 6, .inl (u_eq_a 2))), ((r_eq_a 3), .inl (j_eq_a, 6, .inl (u_eq_a 3))), (f_eq_b, .inl (k_eq_b, 4, .inl r1))] H3 := hP
      have hD : va_D A [(a_eq, .inr (4, [.ref f_eq_a, .ref f_eq_b, .ref f_eq_letters, .ref f_eq_slackRows, .ref f_eq_slackNumbers, .int 0, .int 0, .int w_eq_slacks])), (f_eq_a, .inl (k_eq_a, 4, .inr (.inr (.inr (.inr (fun i9 => some (r_eq_a i9))))))), ((r_eq_a 0), .inl (j_eq_a, 6, .inl (u_eq_a 0))), ((r_eq_a 1), .inl (j_eq_a, 6, .inl (u_eq_a 1))), ((r_eq_a 2), .inl (j_eq_a, 6, .inl (u_eq_a 2))), ((r_eq_a 3), .inl (j_eq_a, 6, .inl (u_eq_a 3))), (f_eq_b, .inl (k_eq_b, 4, .inl r1))] := hD
      refine lv_aload_n hx hb d_EQ_clear_41 rfl (lv_at hl 0 rfl) ?_
      refine lv_iconst (v := 0) hx hb d_EQ_clear_42 (by decide) ?_
      refine va_put (D := (dC, dI)) (ci := 4) (v := .int 0) (ty := .int) (C := R_EQ) (T := T_EQ) (N := 8) hx hb hts in_EQ t_EQ t_EQ_ok n_EQ hown hK hP hD hS 0 rfl rfl 7 (by decide) (hts _ k_115) (fun _ h9 => h9) rfl (by decide +kernel) rfl rfl (Nat.le_of_ble_eq_true rfl) d_EQ_clear_43 (fun H4 locs hP hD hS => ?_)
      have hP : va_P (dC, dI) cls [(a_eq, .inr (4, [.ref f_eq_a, .ref f_eq_b, .ref f_eq_letters, .ref f_eq_slackRows, .ref f_eq_slackNumbers, .int 0, .int 0, .int 0])), (f_eq_a, .inl (k_eq_a, 4, .inr (.inr (.inr (.inr (fun i9 => some (r_eq_a i9))))))), ((r_eq_a 0), .inl (j_eq_a, 6, .inl (u_eq_a 0))), ((r_eq_a 1), .inl (j_eq_a, 6, .inl (u_eq_a 1))), ((r_eq_a 2), .inl (j_eq_a, 6, .inl (u_eq_a 2))), ((r_eq_a 3), .inl (j_eq_a, 6, .inl (u_eq_a 3))), (f_eq_b, .inl (k_eq_b, 4, .inl r1))] H4 := hP
      have hD : va_D A [(a_eq, .inr (4, [.ref f_eq_a, .ref f_eq_b, .ref f_eq_letters, .ref f_eq_slackRows, .ref f_eq_slackNumbers, .int 0, .int 0, .int 0])), (f_eq_a, .inl (k_eq_a, 4, .inr (.inr (.inr (.inr (fun i9 => some (r_eq_a i9))))))), ((r_eq_a 0), .inl (j_eq_a, 6, .inl (u_eq_a 0))), ((r_eq_a 1), .inl (j_eq_a, 6, .inl (u_eq_a 1))), ((r_eq_a 2), .inl (j_eq_a, 6, .inl (u_eq_a 2))), ((r_eq_a 3), .inl (j_eq_a, 6, .inl (u_eq_a 3))), (f_eq_b, .inl (k_eq_b, 4, .inl r1))] := hD
      have he := sm_end hs
      subst he
      exact W.vret hx hb hr (fun t ht hW => ⟨⟨(), rfl, trivial, by rw [ht]; exact hP, va_K.moved hW.alike hK, hD⟩, hS.F ht⟩) hS.2.2 d_EQ_clear_46
    · have hs := sm_neg hc1 hs
      refine lv_aload_n hx hb d_EQ_clear_7 rfl (lv_at hl 0 rfl) ?_
      refine va_get (D := (dC, dI)) (ci := 4) (v := .ref f_eq_a) (C := R_EQ) (T := T_EQ) (N := 8) hx hb hts in_EQ hown hK hP 0 rfl rfl 0 (by decide) (hts _ k_94) (fun _ h9 => h9) rfl d_EQ_clear_8 ?_
      refine lv_iload_n hx hb d_EQ_clear_11 rfl (lv_at hl 1 rfl) ?_
      obtain ⟨hg1, hs⟩ := sm_gd hs
      refine ro_ald (Ra := r_eq_a) (k := (x1i : Int32).toNatClampNeg) hx hb hK hP 1 0 rfl rfl rfl rfl hg1 d_EQ_clear_12 ?_
      refine lv_iconst (v := 0) hx hb d_EQ_clear_13 (by decide) ?_
      obtain ⟨r2, hq2, hs⟩ := sm_bd hs
      have hPc := hP.sub (ws' := [((r_eq_a 0), .inl (j_eq_a, 6, .inl (u_eq_a 0))), ((r_eq_a 1), .inl (j_eq_a, 6, .inl (u_eq_a 1))), ((r_eq_a 2), .inl (j_eq_a, 6, .inl (u_eq_a 2))), ((r_eq_a 3), .inl (j_eq_a, 6, .inl (u_eq_a 3)))]) [2, 3, 4, 5] rfl
      have hDc := hD.sub (ws' := [((r_eq_a 0), .inl (j_eq_a, 6, .inl (u_eq_a 0))), ((r_eq_a 1), .inl (j_eq_a, 6, .inl (u_eq_a 1))), ((r_eq_a 2), .inl (j_eq_a, 6, .inl (u_eq_a 2))), ((r_eq_a 3), .inl (j_eq_a, 6, .inl (u_eq_a 3)))]) [2, 3, 4, 5] (by decide) rfl
      have hKc := hK.sub (tys' := [(j_eq_a, .int)]) [1] rfl
      have hFc := va_free (wc := [((r_eq_a 0), .inl (j_eq_a, 6, .inl (u_eq_a 0))), ((r_eq_a 1), .inl (j_eq_a, 6, .inl (u_eq_a 1))), ((r_eq_a 2), .inl (j_eq_a, 6, .inl (u_eq_a 2))), ((r_eq_a 3), .inl (j_eq_a, 6, .inl (u_eq_a 3)))]) hD hS hA [2, 3, 4, 5] rfl
      refine va_callv (va_runS (As := [.ref (r_eq_a (x1i : Int32).toNatClampNeg), .int 0]) (rest := []) ⟨hx, hb, hml, hown, hts⟩ (c_JA_fill_r l dC dI (r_eq_a) (j_eq_a) (u_eq_a) ((x1i : Int32).toNatClampNeg) (0) H.size r2 hq2 (ro_lt hg1)) (wd_S 2 hts k_408 k_13 k_406 k_407 rfl rfl (by decide +kernel) ⟨Nat.le_of_ble_eq_true rfl, Nat.le_of_ble_eq_true rfl⟩) ⟨fun a U g mk q => by obtain ⟨q0, q1, qP, qK, qD, qN⟩ := q; exact ⟨q0, q1, qP, va_K.moved (u := U) (U := U.calling g mk a) (Vm.Alike.refl U.vm) qK, qD, nw_ok.same (s := U) (U := U.calling g mk a) rfl qN⟩, fun U hU hW => ⟨rfl, by rw [hU], by rw [hU]; exact hPc, va_K.moved hW.alike hKc, hDc.weaken (fun _ _ _ _ => trivial), nw_ok.warm hW hN⟩⟩ rfl rfl hl.1 rfl (lv_room (Nat.le_of_ble_eq_true rfl)) d_EQ_clear_14 ⟨Nat.le_of_ble_eq_true rfl, Nat.le_of_ble_eq_true rfl⟩) hS (fun q _ h => hFc q h) hFc (fun u t H5 locs ht hvm hr2 hB hz1 hk1 hS => ?_)
      obtain ⟨hP1, hK1, hD1⟩ := hB
      rw [ht] at hP1
      have hK1 := va_K.moved hvm.symm hK1
      obtain ⟨hP, hD⟩ := va_join (wr := [(a_eq, .inr (4, [.ref f_eq_a, .ref f_eq_b, .ref f_eq_letters, .ref f_eq_slackRows, .ref f_eq_slackNumbers, .int w_eq_rows, .int w_eq_variables, .int w_eq_slacks])), (f_eq_a, .inl (k_eq_a, 4, .inr (.inr (.inr (.inr (fun i9 => some (r_eq_a i9))))))), (f_eq_b, .inl (k_eq_b, 4, .inl u_eq_b))]) (w1 := [((r_eq_a 0), .inl (j_eq_a, 6, .inl (r2 0))), ((r_eq_a 1), .inl (j_eq_a, 6, .inl (r2 1))), ((r_eq_a 2), .inl (j_eq_a, 6, .inl (r2 2))), ((r_eq_a 3), .inl (j_eq_a, 6, .inl (r2 3)))]) hP hD [2, 3, 4, 5] [0, 1, 6] rfl rfl (by decide) (by decide) hk1 hFc hP1 hD1
      have hK := (hK.sub (tys' := [(k_eq_a, .array .int), (k_eq_b, .int)]) [0, 2] rfl).app hK1
      have hK : va_K (dC, dI) cls [(k_eq_a, .array .int), (k_eq_b, .int), (j_eq_a, .int)] s := hK
      have hP : va_P (dC, dI) cls [(a_eq, .inr (4, [.ref f_eq_a, .ref f_eq_b, .ref f_eq_letters, .ref f_eq_slackRows, .ref f_eq_slackNumbers, .int w_eq_rows, .int w_eq_variables, .int w_eq_slacks])), (f_eq_a, .inl (k_eq_a, 4, .inr (.inr (.inr (.inr (fun i9 => some (r_eq_a i9))))))), (f_eq_b, .inl (k_eq_b, 4, .inl u_eq_b)), ((r_eq_a 0), .inl (j_eq_a, 6, .inl (r2 0))), ((r_eq_a 1), .inl (j_eq_a, 6, .inl (r2 1))), ((r_eq_a 2), .inl (j_eq_a, 6, .inl (r2 2))), ((r_eq_a 3), .inl (j_eq_a, 6, .inl (r2 3)))] H5 := hP
      have hD : va_D A [(a_eq, .inr (4, [.ref f_eq_a, .ref f_eq_b, .ref f_eq_letters, .ref f_eq_slackRows, .ref f_eq_slackNumbers, .int w_eq_rows, .int w_eq_variables, .int w_eq_slacks])), (f_eq_a, .inl (k_eq_a, 4, .inr (.inr (.inr (.inr (fun i9 => some (r_eq_a i9))))))), (f_eq_b, .inl (k_eq_b, 4, .inl u_eq_b)), ((r_eq_a 0), .inl (j_eq_a, 6, .inl (r2 0))), ((r_eq_a 1), .inl (j_eq_a, 6, .inl (r2 1))), ((r_eq_a 2), .inl (j_eq_a, 6, .inl (r2 2))), ((r_eq_a 3), .inl (j_eq_a, 6, .inl (r2 3)))] := hD
      refine lv_iinc (k := 1) (v := (x1i + 1)) hx hb d_EQ_clear_17 hl rfl (congrArg (fun z : Int32 => x1i + z) (by decide : Int32.ofInt 1 = 1)) (by decide) rfl (fun ls hl => ?_)
      have hl : lv_has ls 2 [(1, .int (x1i + 1)), (0, .ref a_eq)] := hl
      refine lv_goto (tgt := 2) hx hb d_EQ_clear_20 (by decide) ?_
      have hP := hP.sub (ws' := [(a_eq, .inr (4, [.ref f_eq_a, .ref f_eq_b, .ref f_eq_letters, .ref f_eq_slackRows, .ref f_eq_slackNumbers, .int w_eq_rows, .int w_eq_variables, .int w_eq_slacks])), (f_eq_a, .inl (k_eq_a, 4, .inr (.inr (.inr (.inr (fun i9 => some (r_eq_a i9))))))), ((r_eq_a 0), .inl (j_eq_a, 6, .inl (r2 0))), ((r_eq_a 1), .inl (j_eq_a, 6, .inl (r2 1))), ((r_eq_a 2), .inl (j_eq_a, 6, .inl (r2 2))), ((r_eq_a 3), .inl (j_eq_a, 6, .inl (r2 3))), (f_eq_b, .inl (k_eq_b, 4, .inl u_eq_b))]) [0, 1, 3, 4, 5, 6, 2] rfl
      have hD := hD.sub (ws' := [(a_eq, .inr (4, [.ref f_eq_a, .ref f_eq_b, .ref f_eq_letters, .ref f_eq_slackRows, .ref f_eq_slackNumbers, .int w_eq_rows, .int w_eq_variables, .int w_eq_slacks])), (f_eq_a, .inl (k_eq_a, 4, .inr (.inr (.inr (.inr (fun i9 => some (r_eq_a i9))))))), ((r_eq_a 0), .inl (j_eq_a, 6, .inl (r2 0))), ((r_eq_a 1), .inl (j_eq_a, 6, .inl (r2 1))), ((r_eq_a 2), .inl (j_eq_a, 6, .inl (r2 2))), ((r_eq_a 3), .inl (j_eq_a, 6, .inl (r2 3))), (f_eq_b, .inl (k_eq_b, 4, .inl u_eq_b))]) [0, 1, 3, 4, 5, 6, 2] (by decide) rfl
      have hK := hK.sub (tys' := [(k_eq_a, .array .int), (j_eq_a, .int), (k_eq_b, .int)]) [0, 2, 1] rfl
      exact ih _ _ _ _ _ _ _ _ _ hs hP hD hS (lv_sub hl [1, 0] rfl)
  · intro key
    cases k8 with
    | zero => cases hs
    | succ k9 =>
      rw [sm_it_succ, fn_EQ_clear_q0] at hs
      unfold fn_EQ_clear_b0 at hs
      refine lv_iconst (v := 0) hx hb d_EQ_clear_0 (by decide) ?_
      refine lv_istore_n hx hb d_EQ_clear_1 rfl hl (by decide) rfl (fun ls hl => ?_)
      have hl : lv_has ls 2 [(1, .int 0), (0, .ref a_eq)] := hl
      exact (key k9) _ _ _ _ _ _ _ _ _ hs hP hD hS (lv_sub hl [1, 0] rfl)

noncomputable def fn_EQ_isFull_b0 (v_eq_variables : Int32) (v_eq_slacks : Int32) (_z0 : Int32) : Option ((Nat × Int32) ⊕ (Int32)) := (sm_tot (fn_EQ_columns v_eq_variables v_eq_slacks) 0).bind (fun r1 => if (r1 : Int32) < 6 then (some (.inl (14, 0))) else (some (.inl (14, 1))))
noncomputable def fn_EQ_isFull_b14 (v_eq_variables : Int32) (v_eq_slacks : Int32) (s0i : Int32) : Option ((Nat × Int32) ⊕ (Int32)) := if ((s0i : Int32) = 0 ∨ (s0i : Int32) = 1) then some (.inr s0i) else none
noncomputable def fn_EQ_isFull (v_eq_variables : Int32) (v_eq_slacks : Int32) : Nat × Int32 → Option ((Nat × Int32) ⊕ (Int32)) := fun st => match st with
  | (pc, s0i) => if pc = 0 then fn_EQ_isFull_b0 v_eq_variables v_eq_slacks s0i else if pc = 14 then fn_EQ_isFull_b14 v_eq_variables v_eq_slacks s0i else none
theorem fn_EQ_isFull_q0 (v_eq_variables : Int32) (v_eq_slacks : Int32) (s0i : Int32) : fn_EQ_isFull v_eq_variables v_eq_slacks (0, s0i) = fn_EQ_isFull_b0 v_eq_variables v_eq_slacks s0i := by simp [fn_EQ_isFull]
theorem fn_EQ_isFull_q14 (v_eq_variables : Int32) (v_eq_slacks : Int32) (s0i : Int32) : fn_EQ_isFull v_eq_variables v_eq_slacks (14, s0i) = fn_EQ_isFull_b14 v_eq_variables v_eq_slacks s0i := by simp [fn_EQ_isFull]
set_option maxHeartbeats 4000000 in
set_option maxRecDepth 100000 in
theorem c_EQ_isFull (l : Launch) (dC : Nat → ClassId) (dI : Nat → Nat → Nat) (a_eq : Nat) (f_eq_a : Nat) (f_eq_b : Nat) (f_eq_letters : Nat) (f_eq_slackRows : Nat) (f_eq_slackNumbers : Nat) (v_eq_rows : Int32) (v_eq_variables : Int32) (v_eq_slacks : Int32) (sz : Nat) (out : Int32) (hs : sm_tot (fn_EQ_isFull v_eq_variables v_eq_slacks) (0, 0) = some out) : Met l y_EQ_isFull (Cond.code y_EQ_isFull b_EQ_isFull 1 (Option.some Jvm.ClassFile.FieldType.boolean) :: wd) { frames := 1, cells := 0, slots := 0, locals := 20 } (va_Pc [.ref a_eq] (fun U => U.heap.size = sz ∧ va_P (dC, dI) cls [(a_eq, .inr (4, [.ref f_eq_a, .ref f_eq_b, .ref f_eq_letters, .ref f_eq_slackRows, .ref f_eq_slackNumbers, .int v_eq_rows, .int v_eq_variables, .int v_eq_slacks]))] U.heap ∧ va_K (dC, dI) cls [] U ∧ va_D (fun _ => True) [(a_eq, .inr (4, [.ref f_eq_a, .ref f_eq_b, .ref f_eq_letters, .ref f_eq_slackRows, .ref f_eq_slackNumbers, .int v_eq_rows, .int v_eq_variables, .int v_eq_slacks]))] ∧ nw_ok U)) (va_Qi (fun r (_ : Unit) => r = out) (fun (_ : Unit) t => va_P (dC, dI) cls [(a_eq, .inr (4, [.ref f_eq_a, .ref f_eq_b, .ref f_eq_letters, .ref f_eq_slackRows, .ref f_eq_slackNumbers, .int v_eq_rows, .int v_eq_variables, .int v_eq_slacks]))] t.heap ∧ va_K (dC, dI) cls [] t ∧ va_D (va_A [(a_eq, .inr (4, [.ref f_eq_a, .ref f_eq_b, .ref f_eq_letters, .ref f_eq_slackRows, .ref f_eq_slackNumbers, .int v_eq_rows, .int v_eq_variables, .int v_eq_slacks]))] sz) [(a_eq, .inr (4, [.ref f_eq_a, .ref f_eq_b, .ref f_eq_letters, .ref f_eq_slackRows, .ref f_eq_slackNumbers, .int v_eq_rows, .int v_eq_variables, .int v_eq_slacks]))]) (va_A [(a_eq, .inr (4, [.ref f_eq_a, .ref f_eq_b, .ref f_eq_letters, .ref f_eq_slackRows, .ref f_eq_slackNumbers, .int v_eq_rows, .int v_eq_variables, .int v_eq_slacks]))] sz)) 0 0 (va_A [(a_eq, .inr (4, [.ref f_eq_a, .ref f_eq_b, .ref f_eq_letters, .ref f_eq_slackRows, .ref f_eq_slackNumbers, .int v_eq_rows, .int v_eq_variables, .int v_eq_slacks]))] sz) := by
  refine Met.ofW (cc := b_EQ_isFull) (maxL := 1) (ret := (Option.some Jvm.ClassFile.FieldType.boolean)) (by decide) rfl ?_
  intro p e s m args below meth c s₁ B hml hv
  obtain ⟨rfl, hsz, hP, hK, hD0, hN⟩ := hv
  have hx := B.exec
  have hb := B.bytes
  have hr := B.returns
  have hlocks := B.notSynchronized
  have hts : ∀ w ∈ wd, w.before ([.ref a_eq] : List Value).toArray s = true := fun w hw => atoms_spec (ws := (Cond.code y_EQ_isFull b_EQ_isFull 1 (Option.some Jvm.ClassFile.FieldType.boolean) :: wd)) B.pre w (List.mem_cons_of_mem _ hw)
  have hown : s.vm.findClass "LeastSolutions$Equations" = some m.cls := findClass_of_methodNamed B.named
  subst hsz
  have hD := hD0.self (sz := s.heap.size)
  generalize hAe : va_A [(a_eq, .inr (4, [.ref f_eq_a, .ref f_eq_b, .ref f_eq_letters, .ref f_eq_slackRows, .ref f_eq_slackNumbers, .int v_eq_rows, .int v_eq_variables, .int v_eq_slacks]))] s.heap.size = A at hD ⊢
  have hA : ∀ q : Nat, s.heap.size ≤ q → A q := fun q h => by rw [← hAe]; exact Or.inr h
  have hS : va_S A s.heap s.heap [] := va_S.rf
  have hl := lv_entry ([.ref a_eq]) (n := 1) (Nat.le_of_ble_eq_true rfl)
  rw [lg_entry_eq]
  generalize (lg_sl ([.ref a_eq]) ++ List.replicate (1 - (lg_sl ([.ref a_eq])).length) Slot.unset).toArray = ls at hl ⊢
  have hl : lv_has ls 1 [(0, .ref a_eq)] := hl
  obtain ⟨k8, hs⟩ := sm_of hs
  refine sm_key (fun R Q k9 => (∀ (H : Heap) (locs : List Loc) (ls : Array Slot) (s0i : Int32), sm_it (fn_EQ_isFull v_eq_variables v_eq_slacks) k9 (14, s0i) = some out → va_P (dC, dI) cls [(a_eq, .inr (4, [.ref f_eq_a, .ref f_eq_b, .ref f_eq_letters, .ref f_eq_slackRows, .ref f_eq_slackNumbers, .int v_eq_rows, .int v_eq_variables, .int v_eq_slacks]))] H → va_D A [(a_eq, .inr (4, [.ref f_eq_a, .ref f_eq_b, .ref f_eq_letters, .ref f_eq_slackRows, .ref f_eq_slackNumbers, .int v_eq_rows, .int v_eq_variables, .int v_eq_slacks]))] → va_S A s.heap H locs → lv_has ls 1 [] → W p l e R s m ([.ref a_eq] : List Value).toArray below meth c H locs 0 0 Q (F0 m 14 ls [.int s0i]))) ?_ ?_ ?_
  · exact fun _ _ _ _ hs => by cases hs
  · intro k9 ih
    skip
    intro H locs ls s0i hs hP hD hS hl
    rw [sm_it_succ, fn_EQ_isFull_q14] at hs
    unfold fn_EQ_isFull_b14 at hs
    obtain ⟨hg1, hs⟩ := sm_gd hs
    have he := sm_end hs
    subst he
    exact W.zret (v := s0i) (ty := .boolean) hx hb hr (by rcases hg1 with h9 | h9 <;> rw [h9] <;> rfl) (fun t ht hW => ⟨⟨s0i, (), rfl, rfl, by rw [ht]; exact hP, va_K.moved hW.alike hK, hD⟩, hS.F ht⟩) hS.2.2 d_EQ_isFull_14
  · intro key
    cases k8 with
    | zero => cases hs
    | succ k9 =>
      rw [sm_it_succ, fn_EQ_isFull_q0] at hs
      unfold fn_EQ_isFull_b0 at hs
      refine lv_aload_n hx hb d_EQ_isFull_0 rfl (lv_at hl 0 rfl) ?_
      obtain ⟨r1, hq1, hs⟩ := sm_bd hs
      have hPc := hP.sub (ws' := [(a_eq, .inr (4, [.ref f_eq_a, .ref f_eq_b, .ref f_eq_letters, .ref f_eq_slackRows, .ref f_eq_slackNumbers, .int v_eq_rows, .int v_eq_variables, .int v_eq_slacks]))]) [0] rfl
      have hDc := hD.sub (ws' := [(a_eq, .inr (4, [.ref f_eq_a, .ref f_eq_b, .ref f_eq_letters, .ref f_eq_slackRows, .ref f_eq_slackNumbers, .int v_eq_rows, .int v_eq_variables, .int v_eq_slacks]))]) [0] (by decide) rfl
      have hKc := hK.sub (tys' := []) [] rfl
      have hFc := va_free (wc := [(a_eq, .inr (4, [.ref f_eq_a, .ref f_eq_b, .ref f_eq_letters, .ref f_eq_slackRows, .ref f_eq_slackNumbers, .int v_eq_rows, .int v_eq_variables, .int v_eq_slacks]))]) hD hS hA [0] rfl
      refine va_calli (va_runV (As := []) (rest := []) ⟨hx, hb, hml, hown, hts⟩ (c_EQ_columns l dC dI (a_eq) (f_eq_a) (f_eq_b) (f_eq_letters) (f_eq_slackRows) (f_eq_slackNumbers) (v_eq_rows) (v_eq_variables) (v_eq_slacks) s.heap.size r1 hq1) (wd_V (C := "LeastSolutions$Equations") 0 hts k_440 k_5 k_437 k_438 k_439 rfl rfl (by decide +kernel) ⟨Nat.le_of_ble_eq_true rfl, Nat.le_of_ble_eq_true rfl⟩) ⟨fun a U g mk q => by obtain ⟨q0, q1, qP, qK, qD, qN⟩ := q; exact ⟨q0, q1, qP, va_K.moved (u := U) (U := U.calling g mk a) (Vm.Alike.refl U.vm) qK, qD, nw_ok.same (s := U) (U := U.calling g mk a) rfl qN⟩, va_recv (ci := 4) (q0 := 0) hK hP rfl rfl, fun U hU hW => ⟨rfl, by rw [hU], by rw [hU]; exact hPc, va_K.moved hW.alike hKc, hDc.weaken (fun _ _ _ _ => trivial), nw_ok.warm hW hN⟩⟩ rfl rfl hl.1 rfl (lv_room (Nat.le_of_ble_eq_true rfl)) d_EQ_isFull_1 ⟨Nat.le_of_ble_eq_true rfl, Nat.le_of_ble_eq_true rfl⟩) hS (fun q _ h => hFc q h) hFc (fun q1 u t H1 locs ht hvm hr1 hB hz1 hk1 hS => ?_)
      have hr1 := (show q1 = r1 from hr1).symm
      subst hr1
      obtain ⟨hP1, hK1, hD1⟩ := hB
      rw [ht] at hP1
      have hK1 := va_K.moved hvm.symm hK1
      obtain ⟨hP, hD⟩ := va_join (wr := []) (w1 := [(a_eq, .inr (4, [.ref f_eq_a, .ref f_eq_b, .ref f_eq_letters, .ref f_eq_slackRows, .ref f_eq_slackNumbers, .int v_eq_rows, .int v_eq_variables, .int v_eq_slacks]))]) hP hD [0] [] rfl rfl (by decide) (by decide) hk1 hFc hP1 hD1
      have hK := (hK.sub (tys' := []) [] rfl).app hK1
      have hK : va_K (dC, dI) cls [] s := hK
      have hP : va_P (dC, dI) cls [(a_eq, .inr (4, [.ref f_eq_a, .ref f_eq_b, .ref f_eq_letters, .ref f_eq_slackRows, .ref f_eq_slackNumbers, .int v_eq_rows, .int v_eq_variables, .int v_eq_slacks]))] H1 := hP
      have hD : va_D A [(a_eq, .inr (4, [.ref f_eq_a, .ref f_eq_b, .ref f_eq_letters, .ref f_eq_slackRows, .ref f_eq_slackNumbers, .int v_eq_rows, .int v_eq_variables, .int v_eq_slacks]))] := hD
      refine lv_bipush (v := 6) hx hb d_EQ_isFull_4 (by decide) ?_
      refine lv_icmp_lt (tgt := 13) hx hb d_EQ_isFull_6 (by decide) (fun hc1 => ?_) (fun hc1 => ?_)
      · have hs := sm_pos hc1 hs
        refine lv_iconst (v := 0) hx hb d_EQ_isFull_13 (by decide) ?_
        exact (key k9) _ _ _ _ hs hP hD hS (lv_sub hl [] rfl)
      · have hs := sm_neg hc1 hs
        refine lv_iconst (v := 1) hx hb d_EQ_isFull_9 (by decide) ?_
        refine lv_goto (tgt := 14) hx hb d_EQ_isFull_10 (by decide) ?_
        exact (key k9) _ _ _ _ hs hP hD hS (lv_sub hl [] rfl)

noncomputable def fn_EQ_columnOf_b0 (a1 : Int32) (v_eq_slacks : Int32) (_z0 : Int32) (v_eq_variables : Int32) (c_eq_letters : Nat → Int32) : Option ((Nat × Int32 × Int32 × (Nat → Int32)) ⊕ (Int32 × Int32 × (Nat → Int32))) := some (.inl (2, 0, v_eq_variables, c_eq_letters))
noncomputable def fn_EQ_columnOf_b2 (a1 : Int32) (v_eq_slacks : Int32) (x2i : Int32) (w_eq_variables : Int32) (u_eq_letters : Nat → Int32) : Option ((Nat × Int32 × Int32 × (Nat → Int32)) ⊕ (Int32 × Int32 × (Nat → Int32))) := if (w_eq_variables : Int32) ≤ x2i then ((sm_tot (fn_EQ_isFull w_eq_variables v_eq_slacks) (0, 0)).bind (fun r1 => if (r1 : Int32) = 0 then (if ¬ ((w_eq_variables : Int32) < 0 ∨ 6 ≤ (w_eq_variables : Int32).toNatClampNeg) then some (.inr (((w_eq_variables + 1) - 1), (w_eq_variables + 1), (upd u_eq_letters (w_eq_variables : Int32).toNatClampNeg a1))) else none) else (some (.inr ((-1), w_eq_variables, u_eq_letters))))) else (if ¬ ((x2i : Int32) < 0 ∨ 6 ≤ (x2i : Int32).toNatClampNeg) then if ((u_eq_letters (x2i : Int32).toNatClampNeg) : Int32) = a1 then (some (.inr (x2i, w_eq_variables, u_eq_letters))) else (some (.inl (2, (x2i + 1), w_eq_variables, u_eq_letters))) else none)
noncomputable def fn_EQ_columnOf (a1 : Int32) (v_eq_slacks : Int32) : Nat × Int32 × Int32 × (Nat → Int32) → Option ((Nat × Int32 × Int32 × (Nat → Int32)) ⊕ (Int32 × Int32 × (Nat → Int32))) := fun st => match st with
  | (pc, x2i, w_eq_variables, u_eq_letters) => if pc = 0 then fn_EQ_columnOf_b0 a1 v_eq_slacks x2i w_eq_variables u_eq_letters else if pc = 2 then fn_EQ_columnOf_b2 a1 v_eq_slacks x2i w_eq_variables u_eq_letters else none
theorem fn_EQ_columnOf_q0 (a1 : Int32) (v_eq_slacks : Int32) (x2i : Int32) (w_eq_variables : Int32) (u_eq_letters : Nat → Int32) : fn_EQ_columnOf a1 v_eq_slacks (0, x2i, w_eq_variables, u_eq_letters) = fn_EQ_columnOf_b0 a1 v_eq_slacks x2i w_eq_variables u_eq_letters := by simp [fn_EQ_columnOf]
theorem fn_EQ_columnOf_q2 (a1 : Int32) (v_eq_slacks : Int32) (x2i : Int32) (w_eq_variables : Int32) (u_eq_letters : Nat → Int32) : fn_EQ_columnOf a1 v_eq_slacks (2, x2i, w_eq_variables, u_eq_letters) = fn_EQ_columnOf_b2 a1 v_eq_slacks x2i w_eq_variables u_eq_letters := by simp [fn_EQ_columnOf]
set_option maxHeartbeats 4000000 in
set_option maxRecDepth 100000 in
theorem c_EQ_columnOf (l : Launch) (dC : Nat → ClassId) (dI : Nat → Nat → Nat) (a_eq : Nat) (f_eq_a : Nat) (f_eq_b : Nat) (f_eq_letters : Nat) (f_eq_slackRows : Nat) (f_eq_slackNumbers : Nat) (v_eq_rows : Int32) (v_eq_variables : Int32) (v_eq_slacks : Int32) (k_eq_letters : ClassId) (c_eq_letters : Nat → Int32) (a1 : Int32) (sz : Nat) (out : Int32 × Int32 × (Nat → Int32)) (hs : sm_tot (fn_EQ_columnOf a1 v_eq_slacks) (0, 0, v_eq_variables, c_eq_letters) = some out) : Met l y_EQ_columnOf (Cond.code y_EQ_columnOf b_EQ_columnOf 3 (Option.some Jvm.ClassFile.FieldType.int) :: wd) { frames := 2, cells := 0, slots := 0, locals := 40 } (va_Pc [.ref a_eq, .int a1] (fun U => U.heap.size = sz ∧ va_P (dC, dI) cls [(a_eq, .inr (4, [.ref f_eq_a, .ref f_eq_b, .ref f_eq_letters, .ref f_eq_slackRows, .ref f_eq_slackNumbers, .int v_eq_rows, .int v_eq_variables, .int v_eq_slacks])), (f_eq_letters, .inl (k_eq_letters, 6, .inl c_eq_letters))] U.heap ∧ va_K (dC, dI) cls [(k_eq_letters, .int)] U ∧ va_D (fun _ => True) [(a_eq, .inr (4, [.ref f_eq_a, .ref f_eq_b, .ref f_eq_letters, .ref f_eq_slackRows, .ref f_eq_slackNumbers, .int v_eq_rows, .int v_eq_variables, .int v_eq_slacks])), (f_eq_letters, .inl (k_eq_letters, 6, .inl c_eq_letters))] ∧ nw_ok U)) (va_Qi (fun r (_ : Unit) => r = out.1) (fun (_ : Unit) t => va_P (dC, dI) cls [(a_eq, .inr (4, [.ref f_eq_a, .ref f_eq_b, .ref f_eq_letters, .ref f_eq_slackRows, .ref f_eq_slackNumbers, .int v_eq_rows, .int out.2.1, .int v_eq_slacks])), (f_eq_letters, .inl (k_eq_letters, 6, .inl out.2.2))] t.heap ∧ va_K (dC, dI) cls [(k_eq_letters, .int)] t ∧ va_D (va_A [(a_eq, .inr (4, [.ref f_eq_a, .ref f_eq_b, .ref f_eq_letters, .ref f_eq_slackRows, .ref f_eq_slackNumbers, .int v_eq_rows, .int v_eq_variables, .int v_eq_slacks])), (f_eq_letters, .inl (k_eq_letters, 6, .inl c_eq_letters))] sz) [(a_eq, .inr (4, [.ref f_eq_a, .ref f_eq_b, .ref f_eq_letters, .ref f_eq_slackRows, .ref f_eq_slackNumbers, .int v_eq_rows, .int out.2.1, .int v_eq_slacks])), (f_eq_letters, .inl (k_eq_letters, 6, .inl out.2.2))]) (va_A [(a_eq, .inr (4, [.ref f_eq_a, .ref f_eq_b, .ref f_eq_letters, .ref f_eq_slackRows, .ref f_eq_slackNumbers, .int v_eq_rows, .int v_eq_variables, .int v_eq_slacks])), (f_eq_letters, .inl (k_eq_letters, 6, .inl c_eq_letters))] sz)) 0 0 (va_A [(a_eq, .inr (4, [.ref f_eq_a, .ref f_eq_b, .ref f_eq_letters, .ref f_eq_slackRows, .ref f_eq_slackNumbers, .int v_eq_rows, .int v_eq_variables, .int v_eq_slacks])), (f_eq_letters, .inl (k_eq_letters, 6, .inl c_eq_letters))] sz) := by
  refine Met.ofW (cc := b_EQ_columnOf) (maxL := 3) (ret := (Option.some Jvm.ClassFile.FieldType.int)) (by decide) rfl ?_
  intro p e s m args below meth c s₁ B hml hv
  obtain ⟨rfl, hsz, hP, hK, hD0, hN⟩ := hv
  have hx := B.exec
  have hb := B.bytes
  have hr := B.returns
  have hlocks := B.notSynchronized
  have hts : ∀ w ∈ wd, w.before ([.ref a_eq, .int a1] : List Value).toArray s = true := fun w hw => atoms_spec (ws := (Cond.code y_EQ_columnOf b_EQ_columnOf 3 (Option.some Jvm.ClassFile.FieldType.int) :: wd)) B.pre w (List.mem_cons_of_mem _ hw)
  have hown : s.vm.findClass "LeastSolutions$Equations" = some m.cls := findClass_of_methodNamed B.named
  subst hsz
  have hD := hD0.self (sz := s.heap.size)
  generalize hAe : va_A [(a_eq, .inr (4, [.ref f_eq_a, .ref f_eq_b, .ref f_eq_letters, .ref f_eq_slackRows, .ref f_eq_slackNumbers, .int v_eq_rows, .int v_eq_variables, .int v_eq_slacks])), (f_eq_letters, .inl (k_eq_letters, 6, .inl c_eq_letters))] s.heap.size = A at hD ⊢
  have hA : ∀ q : Nat, s.heap.size ≤ q → A q := fun q h => by rw [← hAe]; exact Or.inr h
  have hS : va_S A s.heap s.heap [] := va_S.rf
  have hl := lv_entry ([.ref a_eq, .int a1]) (n := 3) (Nat.le_of_ble_eq_true rfl)
  rw [lg_entry_eq]
  generalize (lg_sl ([.ref a_eq, .int a1]) ++ List.replicate (3 - (lg_sl ([.ref a_eq, .int a1])).length) Slot.unset).toArray = ls at hl ⊢
  have hl : lv_has ls 3 [(0, .ref a_eq), (1, .int a1)] := hl
  obtain ⟨k8, hs⟩ := sm_of hs
  refine sm_key (fun R Q k9 => (∀ (H : Heap) (locs : List Loc) (ls : Array Slot) (x2i : Int32) (w_eq_variables : Int32) (u_eq_letters : Nat → Int32), sm_it (fn_EQ_columnOf a1 v_eq_slacks) k9 (2, x2i, w_eq_variables, u_eq_letters) = some out → va_P (dC, dI) cls [(a_eq, .inr (4, [.ref f_eq_a, .ref f_eq_b, .ref f_eq_letters, .ref f_eq_slackRows, .ref f_eq_slackNumbers, .int v_eq_rows, .int w_eq_variables, .int v_eq_slacks])), (f_eq_letters, .inl (k_eq_letters, 6, .inl u_eq_letters))] H → va_D A [(a_eq, .inr (4, [.ref f_eq_a, .ref f_eq_b, .ref f_eq_letters, .ref f_eq_slackRows, .ref f_eq_slackNumbers, .int v_eq_rows, .int w_eq_variables, .int v_eq_slacks])), (f_eq_letters, .inl (k_eq_letters, 6, .inl u_eq_letters))] → va_S A s.heap H locs → lv_has ls 3 [(0, .ref a_eq), (1, .int a1), (2, .int x2i)] → W p l e R s m ([.ref a_eq, .int a1] : List Value).toArray below meth c H locs 0 0 Q (F0 m 2 ls []))) ?_ ?_ ?_
  · exact fun _ _ _ _ _ _ hs => by cases hs
  · intro k9 ih
    skip
    intro H locs ls x2i w_eq_variables u_eq_letters hs hP hD hS hl
    rw [sm_it_succ, fn_EQ_columnOf_q2] at hs
    unfold fn_EQ_columnOf_b2 at hs
    refine lv_iload_n hx hb d_EQ_columnOf_2 rfl (lv_at hl 2 rfl) ?_
    refine lv_aload_n hx hb d_EQ_columnOf_3 rfl (lv_at hl 0 rfl) ?_
    refine va_get (D := (dC, dI)) (ci := 4) (v := .int w_eq_variables) (C := R_EQ) (T := T_EQ) (N := 8) hx hb hts in_EQ hown hK hP 0 rfl rfl 6 (by decide) (hts _ k_113) (fun _ h9 => h9) rfl d_EQ_columnOf_4 ?_
    refine lv_icmp_ge (tgt := 28) hx hb d_EQ_columnOf_7 (by decide) (fun hc1 => ?_) (fun hc1 => ?_)
    · have hs := sm_pos hc1 hs
      refine lv_aload_n hx hb d_EQ_columnOf_28 rfl (lv_at hl 0 rfl) ?_
      obtain ⟨r1, hq1, hs⟩ := sm_bd hs
      have hPc := hP.sub (ws' := [(a_eq, .inr (4, [.ref f_eq_a, .ref f_eq_b, .ref f_eq_letters, .ref f_eq_slackRows, .ref f_eq_slackNumbers, .int v_eq_rows, .int w_eq_variables, .int v_eq_slacks]))]) [0] rfl
      have hDc := hD.sub (ws' := [(a_eq, .inr (4, [.ref f_eq_a, .ref f_eq_b, .ref f_eq_letters, .ref f_eq_slackRows, .ref f_eq_slackNumbers, .int v_eq_rows, .int w_eq_variables, .int v_eq_slacks]))]) [0] (by decide) rfl
      have hKc := hK.sub (tys' := []) [] rfl
      have hFc := va_free (wc := [(a_eq, .inr (4, [.ref f_eq_a, .ref f_eq_b, .ref f_eq_letters, .ref f_eq_slackRows, .ref f_eq_slackNumbers, .int v_eq_rows, .int w_eq_variables, .int v_eq_slacks]))]) hD hS hA [0] rfl
      refine va_calli (va_runV (As := []) (rest := []) ⟨hx, hb, hml, hown, hts⟩ (c_EQ_isFull l dC dI (a_eq) (f_eq_a) (f_eq_b) (f_eq_letters) (f_eq_slackRows) (f_eq_slackNumbers) (v_eq_rows) (w_eq_variables) (v_eq_slacks) H.size r1 hq1) (wd_V (C := "LeastSolutions$Equations") 0 hts k_436 k_5 k_433 k_434 k_435 rfl rfl (by decide +kernel) ⟨Nat.le_of_ble_eq_true rfl, Nat.le_of_ble_eq_true rfl⟩) ⟨fun a U g mk q => by obtain ⟨q0, q1, qP, qK, qD, qN⟩ := q; exact ⟨q0, q1, qP, va_K.moved (u := U) (U := U.calling g mk a) (Vm.Alike.refl U.vm) qK, qD, nw_ok.same (s := U) (U := U.calling g mk a) rfl qN⟩, va_recv (ci := 4) (q0 := 0) hK hP rfl rfl, fun U hU hW => ⟨rfl, by rw [hU], by rw [hU]; exact hPc, va_K.moved hW.alike hKc, hDc.weaken (fun _ _ _ _ => trivial), nw_ok.warm hW hN⟩⟩ rfl rfl hl.1 rfl (lv_room (Nat.le_of_ble_eq_true rfl)) d_EQ_columnOf_29 ⟨Nat.le_of_ble_eq_true rfl, Nat.le_of_ble_eq_true rfl⟩) hS (fun q _ h => hFc q h) hFc (fun q1 u t H1 locs ht hvm hr1 hB hz1 hk1 hS => ?_)
      have hr1 := (show q1 = r1 from hr1).symm
      subst hr1
      obtain ⟨hP1, hK1, hD1⟩ := hB
      rw [ht] at hP1
      have hK1 := va_K.moved hvm.symm hK1
      obtain ⟨hP, hD⟩ := va_join (wr := [(f_eq_letters, .inl (k_eq_letters, 6, .inl u_eq_letters))]) (w1 := [(a_eq, .inr (4, [.ref f_eq_a, .ref f_eq_b, .ref f_eq_letters, .ref f_eq_slackRows, .ref f_eq_slackNumbers, .int v_eq_rows, .int w_eq_variables, .int v_eq_slacks]))]) hP hD [0] [1] rfl rfl (by decide) (by decide) hk1 hFc hP1 hD1
      have hK := (hK.sub (tys' := [(k_eq_letters, .int)]) [0] rfl).app hK1
      have hK : va_K (dC, dI) cls [(k_eq_letters, .int)] s := hK
      have hP : va_P (dC, dI) cls [(f_eq_letters, .inl (k_eq_letters, 6, .inl u_eq_letters)), (a_eq, .inr (4, [.ref f_eq_a, .ref f_eq_b, .ref f_eq_letters, .ref f_eq_slackRows, .ref f_eq_slackNumbers, .int v_eq_rows, .int w_eq_variables, .int v_eq_slacks]))] H1 := hP
      have hD : va_D A [(f_eq_letters, .inl (k_eq_letters, 6, .inl u_eq_letters)), (a_eq, .inr (4, [.ref f_eq_a, .ref f_eq_b, .ref f_eq_letters, .ref f_eq_slackRows, .ref f_eq_slackNumbers, .int v_eq_rows, .int w_eq_variables, .int v_eq_slacks]))] := hD
      refine lv_if_eq (tgt := 37) hx hb d_EQ_columnOf_32 (by decide) (fun hc2 => ?_) (fun hc2 => ?_)
      · have hs := sm_pos hc2 hs
        refine lv_aload_n hx hb d_EQ_columnOf_37 rfl (lv_at hl 0 rfl) ?_
        refine va_get (D := (dC, dI)) (ci := 4) (v := .ref f_eq_letters) (C := R_EQ) (T := T_EQ) (N := 8) hx hb hts in_EQ hown hK hP 1 rfl rfl 2 (by decide) (hts _ k_104) (fun _ h9 => h9) rfl d_EQ_columnOf_38 ?_
        refine lv_aload_n hx hb d_EQ_columnOf_41 rfl (lv_at hl 0 rfl) ?_
        refine va_get (D := (dC, dI)) (ci := 4) (v := .int w_eq_variables) (C := R_EQ) (T := T_EQ) (N := 8) hx hb hts in_EQ hown hK hP 1 rfl rfl 6 (by decide) (hts _ k_113) (fun _ h9 => h9) rfl d_EQ_columnOf_42 ?_
        refine lv_iload_n hx hb d_EQ_columnOf_45 rfl (lv_at hl 1 rfl) ?_
        obtain ⟨hg1, hs⟩ := sm_gd hs
        refine va_iast hx hb hK hP hD hS 0 0 rfl rfl hg1 d_EQ_columnOf_46 (fun H2 locs hP hD hS => ?_)
        have hP : va_P (dC, dI) cls [(f_eq_letters, .inl (k_eq_letters, 6, .inl (upd u_eq_letters (w_eq_variables : Int32).toNatClampNeg a1))), (a_eq, .inr (4, [.ref f_eq_a, .ref f_eq_b, .ref f_eq_letters, .ref f_eq_slackRows, .ref f_eq_slackNumbers, .int v_eq_rows, .int w_eq_variables, .int v_eq_slacks]))] H2 := hP
        have hD : va_D A [(f_eq_letters, .inl (k_eq_letters, 6, .inl (upd u_eq_letters (w_eq_variables : Int32).toNatClampNeg a1))), (a_eq, .inr (4, [.ref f_eq_a, .ref f_eq_b, .ref f_eq_letters, .ref f_eq_slackRows, .ref f_eq_slackNumbers, .int v_eq_rows, .int w_eq_variables, .int v_eq_slacks]))] := hD
        refine lv_aload_n hx hb d_EQ_columnOf_47 rfl (lv_at hl 0 rfl) ?_
        refine lv_dup hx hb d_EQ_columnOf_48 rfl ?_
        refine va_get (D := (dC, dI)) (ci := 4) (v := .int w_eq_variables) (C := R_EQ) (T := T_EQ) (N := 8) hx hb hts in_EQ hown hK hP 1 rfl rfl 6 (by decide) (hts _ k_113) (fun _ h9 => h9) rfl d_EQ_columnOf_49 ?_
        refine lv_iconst (v := 1) hx hb d_EQ_columnOf_52 (by decide) ?_
        refine lv_iadd hx hb d_EQ_columnOf_53 ?_
        refine va_put (D := (dC, dI)) (ci := 4) (v := .int (w_eq_variables + 1)) (ty := .int) (C := R_EQ) (T := T_EQ) (N := 8) hx hb hts in_EQ t_EQ t_EQ_ok n_EQ hown hK hP hD hS 1 rfl rfl 6 (by decide) (hts _ k_113) (fun _ h9 => h9) rfl (by decide +kernel) rfl rfl (Nat.le_of_ble_eq_true rfl) d_EQ_columnOf_54 (fun H3 locs hP hD hS => ?_)
        have hP : va_P (dC, dI) cls [(f_eq_letters, .inl (k_eq_letters, 6, .inl (upd u_eq_letters (w_eq_variables : Int32).toNatClampNeg a1))), (a_eq, .inr (4, [.ref f_eq_a, .ref f_eq_b, .ref f_eq_letters, .ref f_eq_slackRows, .ref f_eq_slackNumbers, .int v_eq_rows, .int (w_eq_variables + 1), .int v_eq_slacks]))] H3 := hP
        have hD : va_D A [(f_eq_letters, .inl (k_eq_letters, 6, .inl (upd u_eq_letters (w_eq_variables : Int32).toNatClampNeg a1))), (a_eq, .inr (4, [.ref f_eq_a, .ref f_eq_b, .ref f_eq_letters, .ref f_eq_slackRows, .ref f_eq_slackNumbers, .int v_eq_rows, .int (w_eq_variables + 1), .int v_eq_slacks]))] := hD
        refine lv_aload_n hx hb d_EQ_columnOf_57 rfl (lv_at hl 0 rfl) ?_
        refine va_get (D := (dC, dI)) (ci := 4) (v := .int (w_eq_variables + 1)) (C := R_EQ) (T := T_EQ) (N := 8) hx hb hts in_EQ hown hK hP 1 rfl rfl 6 (by decide) (hts _ k_113) (fun _ h9 => h9) rfl d_EQ_columnOf_58 ?_
        refine lv_iconst (v := 1) hx hb d_EQ_columnOf_61 (by decide) ?_
        refine lv_isub hx hb d_EQ_columnOf_62 ?_
        have hP := hP.sub (ws' := [(a_eq, .inr (4, [.ref f_eq_a, .ref f_eq_b, .ref f_eq_letters, .ref f_eq_slackRows, .ref f_eq_slackNumbers, .int v_eq_rows, .int (w_eq_variables + 1), .int v_eq_slacks])), (f_eq_letters, .inl (k_eq_letters, 6, .inl (upd u_eq_letters (w_eq_variables : Int32).toNatClampNeg a1)))]) [1, 0] rfl
        have hD := hD.sub (ws' := [(a_eq, .inr (4, [.ref f_eq_a, .ref f_eq_b, .ref f_eq_letters, .ref f_eq_slackRows, .ref f_eq_slackNumbers, .int v_eq_rows, .int (w_eq_variables + 1), .int v_eq_slacks])), (f_eq_letters, .inl (k_eq_letters, 6, .inl (upd u_eq_letters (w_eq_variables : Int32).toNatClampNeg a1)))]) [1, 0] (by decide) rfl
        have he := sm_end hs
        subst he
        exact W.iret (v := ((w_eq_variables + 1) - 1)) hx hb hr (fun t ht hW => ⟨⟨((w_eq_variables + 1) - 1), (), rfl, rfl, by rw [ht]; exact hP, va_K.moved hW.alike hK, hD⟩, hS.F ht⟩) hS.2.2 d_EQ_columnOf_63
      · have hs := sm_neg hc2 hs
        refine lv_iconst (v := (-1)) hx hb d_EQ_columnOf_35 (by decide) ?_
        have hP := hP.sub (ws' := [(a_eq, .inr (4, [.ref f_eq_a, .ref f_eq_b, .ref f_eq_letters, .ref f_eq_slackRows, .ref f_eq_slackNumbers, .int v_eq_rows, .int w_eq_variables, .int v_eq_slacks])), (f_eq_letters, .inl (k_eq_letters, 6, .inl u_eq_letters))]) [1, 0] rfl
        have hD := hD.sub (ws' := [(a_eq, .inr (4, [.ref f_eq_a, .ref f_eq_b, .ref f_eq_letters, .ref f_eq_slackRows, .ref f_eq_slackNumbers, .int v_eq_rows, .int w_eq_variables, .int v_eq_slacks])), (f_eq_letters, .inl (k_eq_letters, 6, .inl u_eq_letters))]) [1, 0] (by decide) rfl
        have he := sm_end hs
        subst he
        exact W.iret (v := (-1)) hx hb hr (fun t ht hW => ⟨⟨(-1), (), rfl, rfl, by rw [ht]; exact hP, va_K.moved hW.alike hK, hD⟩, hS.F ht⟩) hS.2.2 d_EQ_columnOf_36
    · have hs := sm_neg hc1 hs
      refine lv_aload_n hx hb d_EQ_columnOf_10 rfl (lv_at hl 0 rfl) ?_
      refine va_get (D := (dC, dI)) (ci := 4) (v := .ref f_eq_letters) (C := R_EQ) (T := T_EQ) (N := 8) hx hb hts in_EQ hown hK hP 0 rfl rfl 2 (by decide) (hts _ k_104) (fun _ h9 => h9) rfl d_EQ_columnOf_11 ?_
      refine lv_iload_n hx hb d_EQ_columnOf_14 rfl (lv_at hl 2 rfl) ?_
      obtain ⟨hg2, hs⟩ := sm_gd hs
      refine va_iald hx hb hK hP 1 0 rfl rfl hg2 d_EQ_columnOf_15 ?_
      refine lv_iload_n hx hb d_EQ_columnOf_16 rfl (lv_at hl 1 rfl) ?_
      refine lv_icmp_ne (tgt := 22) hx hb d_EQ_columnOf_17 (by decide) (fun hc3 => ?_) (fun hc3 => ?_)
      · have hs := sm_neg hc3 hs
        refine lv_iinc (k := 2) (v := (x2i + 1)) hx hb d_EQ_columnOf_22 hl rfl (congrArg (fun z : Int32 => x2i + z) (by decide : Int32.ofInt 1 = 1)) (by decide) rfl (fun ls hl => ?_)
        have hl : lv_has ls 3 [(2, .int (x2i + 1)), (0, .ref a_eq), (1, .int a1)] := hl
        refine lv_goto (tgt := 2) hx hb d_EQ_columnOf_25 (by decide) ?_
        exact ih _ _ _ _ _ _ hs hP hD hS (lv_sub hl [1, 2, 0] rfl)
      · have hs := sm_pos hc3 hs
        refine lv_iload_n hx hb d_EQ_columnOf_20 rfl (lv_at hl 2 rfl) ?_
        have he := sm_end hs
        subst he
        exact W.iret (v := x2i) hx hb hr (fun t ht hW => ⟨⟨x2i, (), rfl, rfl, by rw [ht]; exact hP, va_K.moved hW.alike hK, hD⟩, hS.F ht⟩) hS.2.2 d_EQ_columnOf_21
  · intro key
    cases k8 with
    | zero => cases hs
    | succ k9 =>
      rw [sm_it_succ, fn_EQ_columnOf_q0] at hs
      unfold fn_EQ_columnOf_b0 at hs
      refine lv_iconst (v := 0) hx hb d_EQ_columnOf_0 (by decide) ?_
      refine lv_istore_n hx hb d_EQ_columnOf_1 rfl hl (by decide) rfl (fun ls hl => ?_)
      have hl : lv_has ls 3 [(2, .int 0), (0, .ref a_eq), (1, .int a1)] := hl
      exact (key k9) _ _ _ _ _ _ hs hP hD hS (lv_sub hl [1, 2, 0] rfl)

noncomputable def fn_EQ_addSlack_b0 (a1 : Int32) (a2 : Int32) (v_eq_variables : Int32) (v_eq_slacks : Int32) (c_eq_slackRows : Nat → Int32) (c_eq_slackNumbers : Nat → Int32) : Option ((Nat × Int32 × (Nat → Int32) × (Nat → Int32)) ⊕ (Int32 × (Nat → Int32) × (Nat → Int32))) := (sm_tot (fn_EQ_isFull v_eq_variables v_eq_slacks) (0, 0)).bind (fun r1 => if (r1 : Int32) = 0 then (if ¬ ((v_eq_slacks : Int32) < 0 ∨ 6 ≤ (v_eq_slacks : Int32).toNatClampNeg) then some (.inl (37, (v_eq_slacks + 1), (upd c_eq_slackRows (v_eq_slacks : Int32).toNatClampNeg a1), (upd c_eq_slackNumbers (v_eq_slacks : Int32).toNatClampNeg a2))) else none) else (some (.inl (37, v_eq_slacks, c_eq_slackRows, c_eq_slackNumbers))))
noncomputable def fn_EQ_addSlack_b37 (a1 : Int32) (a2 : Int32) (v_eq_variables : Int32) (w_eq_slacks : Int32) (u_eq_slackRows : Nat → Int32) (u_eq_slackNumbers : Nat → Int32) : Option ((Nat × Int32 × (Nat → Int32) × (Nat → Int32)) ⊕ (Int32 × (Nat → Int32) × (Nat → Int32))) := some (.inr (w_eq_slacks, u_eq_slackRows, u_eq_slackNumbers))
noncomputable def fn_EQ_addSlack (a1 : Int32) (a2 : Int32) (v_eq_variables : Int32) : Nat × Int32 × (Nat → Int32) × (Nat → Int32) → Option ((Nat × Int32 × (Nat → Int32) × (Nat → Int32)) ⊕ (Int32 × (Nat → Int32) × (Nat → Int32))) := fun st => match st with
  | (pc, w_eq_slacks, u_eq_slackRows, u_eq_slackNumbers) => if pc = 0 then fn_EQ_addSlack_b0 a1 a2 v_eq_variables w_eq_slacks u_eq_slackRows u_eq_slackNumbers else if pc = 37 then fn_EQ_addSlack_b37 a1 a2 v_eq_variables w_eq_slacks u_eq_slackRows u_eq_slackNumbers else none
theorem fn_EQ_addSlack_q0 (a1 : Int32) (a2 : Int32) (v_eq_variables : Int32) (w_eq_slacks : Int32) (u_eq_slackRows : Nat → Int32) (u_eq_slackNumbers : Nat → Int32) : fn_EQ_addSlack a1 a2 v_eq_variables (0, w_eq_slacks, u_eq_slackRows, u_eq_slackNumbers) = fn_EQ_addSlack_b0 a1 a2 v_eq_variables w_eq_slacks u_eq_slackRows u_eq_slackNumbers := by simp [fn_EQ_addSlack]
theorem fn_EQ_addSlack_q37 (a1 : Int32) (a2 : Int32) (v_eq_variables : Int32) (w_eq_slacks : Int32) (u_eq_slackRows : Nat → Int32) (u_eq_slackNumbers : Nat → Int32) : fn_EQ_addSlack a1 a2 v_eq_variables (37, w_eq_slacks, u_eq_slackRows, u_eq_slackNumbers) = fn_EQ_addSlack_b37 a1 a2 v_eq_variables w_eq_slacks u_eq_slackRows u_eq_slackNumbers := by simp [fn_EQ_addSlack]
set_option maxHeartbeats 4000000 in
set_option maxRecDepth 100000 in
theorem c_EQ_addSlack (l : Launch) (dC : Nat → ClassId) (dI : Nat → Nat → Nat) (a_eq : Nat) (f_eq_a : Nat) (f_eq_b : Nat) (f_eq_letters : Nat) (f_eq_slackRows : Nat) (f_eq_slackNumbers : Nat) (v_eq_rows : Int32) (v_eq_variables : Int32) (v_eq_slacks : Int32) (k_eq_slackRows : ClassId) (c_eq_slackRows : Nat → Int32) (k_eq_slackNumbers : ClassId) (c_eq_slackNumbers : Nat → Int32) (a1 : Int32) (a2 : Int32) (sz : Nat) (out : Int32 × (Nat → Int32) × (Nat → Int32)) (hs : sm_tot (fn_EQ_addSlack a1 a2 v_eq_variables) (0, v_eq_slacks, c_eq_slackRows, c_eq_slackNumbers) = some out) : Met l y_EQ_addSlack (Cond.code y_EQ_addSlack b_EQ_addSlack 3 (Option.none : Option Jvm.ClassFile.FieldType) :: wd) { frames := 2, cells := 0, slots := 0, locals := 40 } (va_Pc [.ref a_eq, .int a1, .int a2] (fun U => U.heap.size = sz ∧ va_P (dC, dI) cls [(a_eq, .inr (4, [.ref f_eq_a, .ref f_eq_b, .ref f_eq_letters, .ref f_eq_slackRows, .ref f_eq_slackNumbers, .int v_eq_rows, .int v_eq_variables, .int v_eq_slacks])), (f_eq_slackRows, .inl (k_eq_slackRows, 6, .inl c_eq_slackRows)), (f_eq_slackNumbers, .inl (k_eq_slackNumbers, 6, .inl c_eq_slackNumbers))] U.heap ∧ va_K (dC, dI) cls [(k_eq_slackRows, .int), (k_eq_slackNumbers, .int)] U ∧ va_D (fun _ => True) [(a_eq, .inr (4, [.ref f_eq_a, .ref f_eq_b, .ref f_eq_letters, .ref f_eq_slackRows, .ref f_eq_slackNumbers, .int v_eq_rows, .int v_eq_variables, .int v_eq_slacks])), (f_eq_slackRows, .inl (k_eq_slackRows, 6, .inl c_eq_slackRows)), (f_eq_slackNumbers, .inl (k_eq_slackNumbers, 6, .inl c_eq_slackNumbers))] ∧ nw_ok U)) (va_Qv (fun _ : Unit => True) (fun (_ : Unit) t => va_P (dC, dI) cls [(a_eq, .inr (4, [.ref f_eq_a, .ref f_eq_b, .ref f_eq_letters, .ref f_eq_slackRows, .ref f_eq_slackNumbers, .int v_eq_rows, .int v_eq_variables, .int out.1])), (f_eq_slackRows, .inl (k_eq_slackRows, 6, .inl out.2.1)), (f_eq_slackNumbers, .inl (k_eq_slackNumbers, 6, .inl out.2.2))] t.heap ∧ va_K (dC, dI) cls [(k_eq_slackRows, .int), (k_eq_slackNumbers, .int)] t ∧ va_D (va_A [(a_eq, .inr (4, [.ref f_eq_a, .ref f_eq_b, .ref f_eq_letters, .ref f_eq_slackRows, .ref f_eq_slackNumbers, .int v_eq_rows, .int v_eq_variables, .int v_eq_slacks])), (f_eq_slackRows, .inl (k_eq_slackRows, 6, .inl c_eq_slackRows)), (f_eq_slackNumbers, .inl (k_eq_slackNumbers, 6, .inl c_eq_slackNumbers))] sz) [(a_eq, .inr (4, [.ref f_eq_a, .ref f_eq_b, .ref f_eq_letters, .ref f_eq_slackRows, .ref f_eq_slackNumbers, .int v_eq_rows, .int v_eq_variables, .int out.1])), (f_eq_slackRows, .inl (k_eq_slackRows, 6, .inl out.2.1)), (f_eq_slackNumbers, .inl (k_eq_slackNumbers, 6, .inl out.2.2))]) (va_A [(a_eq, .inr (4, [.ref f_eq_a, .ref f_eq_b, .ref f_eq_letters, .ref f_eq_slackRows, .ref f_eq_slackNumbers, .int v_eq_rows, .int v_eq_variables, .int v_eq_slacks])), (f_eq_slackRows, .inl (k_eq_slackRows, 6, .inl c_eq_slackRows)), (f_eq_slackNumbers, .inl (k_eq_slackNumbers, 6, .inl c_eq_slackNumbers))] sz)) 0 0 (va_A [(a_eq, .inr (4, [.ref f_eq_a, .ref f_eq_b, .ref f_eq_letters, .ref f_eq_slackRows, .ref f_eq_slackNumbers, .int v_eq_rows, .int v_eq_variables, .int v_eq_slacks])), (f_eq_slackRows, .inl (k_eq_slackRows, 6, .inl c_eq_slackRows)), (f_eq_slackNumbers, .inl (k_eq_slackNumbers, 6, .inl c_eq_slackNumbers))] sz) := by
  refine Met.ofW (cc := b_EQ_addSlack) (maxL := 3) (ret := (Option.none : Option Jvm.ClassFile.FieldType)) (by decide) rfl ?_
  intro p e s m args below meth c s₁ B hml hv
  obtain ⟨rfl, hsz, hP, hK, hD0, hN⟩ := hv
  have hx := B.exec
  have hb := B.bytes
  have hr := B.returns
  have hlocks := B.notSynchronized
  have hts : ∀ w ∈ wd, w.before ([.ref a_eq, .int a1, .int a2] : List Value).toArray s = true := fun w hw => atoms_spec (ws := (Cond.code y_EQ_addSlack b_EQ_addSlack 3 (Option.none : Option Jvm.ClassFile.FieldType) :: wd)) B.pre w (List.mem_cons_of_mem _ hw)
  have hown : s.vm.findClass "LeastSolutions$Equations" = some m.cls := findClass_of_methodNamed B.named
  subst hsz
  have hD := hD0.self (sz := s.heap.size)
  generalize hAe : va_A [(a_eq, .inr (4, [.ref f_eq_a, .ref f_eq_b, .ref f_eq_letters, .ref f_eq_slackRows, .ref f_eq_slackNumbers, .int v_eq_rows, .int v_eq_variables, .int v_eq_slacks])), (f_eq_slackRows, .inl (k_eq_slackRows, 6, .inl c_eq_slackRows)), (f_eq_slackNumbers, .inl (k_eq_slackNumbers, 6, .inl c_eq_slackNumbers))] s.heap.size = A at hD ⊢
  have hA : ∀ q : Nat, s.heap.size ≤ q → A q := fun q h => by rw [← hAe]; exact Or.inr h
  have hS : va_S A s.heap s.heap [] := va_S.rf
  have hl := lv_entry ([.ref a_eq, .int a1, .int a2]) (n := 3) (Nat.le_of_ble_eq_true rfl)
  rw [lg_entry_eq]
  generalize (lg_sl ([.ref a_eq, .int a1, .int a2]) ++ List.replicate (3 - (lg_sl ([.ref a_eq, .int a1, .int a2])).length) Slot.unset).toArray = ls at hl ⊢
  have hl : lv_has ls 3 [(0, .ref a_eq), (1, .int a1), (2, .int a2)] := hl
  obtain ⟨k8, hs⟩ := sm_of hs
  refine sm_key (fun R Q k9 => (∀ (H : Heap) (locs : List Loc) (ls : Array Slot) (w_eq_slacks : Int32) (u_eq_slackRows : Nat → Int32) (u_eq_slackNumbers : Nat → Int32), sm_it (fn_EQ_addSlack a1 a2 v_eq_variables) k9 (37, w_eq_slacks, u_eq_slackRows, u_eq_slackNumbers) = some out → va_P (dC, dI) cls [(a_eq, .inr (4, [.ref f_eq_a, .ref f_eq_b, .ref f_eq_letters, .ref f_eq_slackRows, .ref f_eq_slackNumbers, .int v_eq_rows, .int v_eq_variables, .int w_eq_slacks])), (f_eq_slackRows, .inl (k_eq_slackRows, 6, .inl u_eq_slackRows)), (f_eq_slackNumbers, .inl (k_eq_slackNumbers, 6, .inl u_eq_slackNumbers))] H → va_D A [(a_eq, .inr (4, [.ref f_eq_a, .ref f_eq_b, .ref f_eq_letters, .ref f_eq_slackRows, .ref f_eq_slackNumbers, .int v_eq_rows, .int v_eq_variables, .int w_eq_slacks])), (f_eq_slackRows, .inl (k_eq_slackRows, 6, .inl u_eq_slackRows)), (f_eq_slackNumbers, .inl (k_eq_slackNumbers, 6, .inl u_eq_slackNumbers))] → va_S A s.heap H locs → lv_has ls 3 [] → W p l e R s m ([.ref a_eq, .int a1, .int a2] : List Value).toArray below meth c H locs 0 0 Q (F0 m 37 ls []))) ?_ ?_ ?_
  · exact fun _ _ _ _ _ _ hs => by cases hs
  · intro k9 ih
    skip
    intro H locs ls w_eq_slacks u_eq_slackRows u_eq_slackNumbers hs hP hD hS hl
    rw [sm_it_succ, fn_EQ_addSlack_q37] at hs
    unfold fn_EQ_addSlack_b37 at hs
    have he := sm_end hs
    subst he
    exact W.vret hx hb hr (fun t ht hW => ⟨⟨(), rfl, trivial, by rw [ht]; exact hP, va_K.moved hW.alike hK, hD⟩, hS.F ht⟩) hS.2.2 d_EQ_addSlack_37
  · intro key
    cases k8 with
    | zero => cases hs
    | succ k9 =>
      rw [sm_it_succ, fn_EQ_addSlack_q0] at hs
      unfold fn_EQ_addSlack_b0 at hs
      refine lv_aload_n hx hb d_EQ_addSlack_0 rfl (lv_at hl 0 rfl) ?_
      obtain ⟨r1, hq1, hs⟩ := sm_bd hs
      have hPc := hP.sub (ws' := [(a_eq, .inr (4, [.ref f_eq_a, .ref f_eq_b, .ref f_eq_letters, .ref f_eq_slackRows, .ref f_eq_slackNumbers, .int v_eq_rows, .int v_eq_variables, .int v_eq_slacks]))]) [0] rfl
      have hDc := hD.sub (ws' := [(a_eq, .inr (4, [.ref f_eq_a, .ref f_eq_b, .ref f_eq_letters, .ref f_eq_slackRows, .ref f_eq_slackNumbers, .int v_eq_rows, .int v_eq_variables, .int v_eq_slacks]))]) [0] (by decide) rfl
      have hKc := hK.sub (tys' := []) [] rfl
      have hFc := va_free (wc := [(a_eq, .inr (4, [.ref f_eq_a, .ref f_eq_b, .ref f_eq_letters, .ref f_eq_slackRows, .ref f_eq_slackNumbers, .int v_eq_rows, .int v_eq_variables, .int v_eq_slacks]))]) hD hS hA [0] rfl
      refine va_calli (va_runV (As := []) (rest := []) ⟨hx, hb, hml, hown, hts⟩ (c_EQ_isFull l dC dI (a_eq) (f_eq_a) (f_eq_b) (f_eq_letters) (f_eq_slackRows) (f_eq_slackNumbers) (v_eq_rows) (v_eq_variables) (v_eq_slacks) s.heap.size r1 hq1) (wd_V (C := "LeastSolutions$Equations") 0 hts k_436 k_5 k_433 k_434 k_435 rfl rfl (by decide +kernel) ⟨Nat.le_of_ble_eq_true rfl, Nat.le_of_ble_eq_true rfl⟩) ⟨fun a U g mk q => by obtain ⟨q0, q1, qP, qK, qD, qN⟩ := q; exact ⟨q0, q1, qP, va_K.moved (u := U) (U := U.calling g mk a) (Vm.Alike.refl U.vm) qK, qD, nw_ok.same (s := U) (U := U.calling g mk a) rfl qN⟩, va_recv (ci := 4) (q0 := 0) hK hP rfl rfl, fun U hU hW => ⟨rfl, by rw [hU], by rw [hU]; exact hPc, va_K.moved hW.alike hKc, hDc.weaken (fun _ _ _ _ => trivial), nw_ok.warm hW hN⟩⟩ rfl rfl hl.1 rfl (lv_room (Nat.le_of_ble_eq_true rfl)) d_EQ_addSlack_1 ⟨Nat.le_of_ble_eq_true rfl, Nat.le_of_ble_eq_true rfl⟩) hS (fun q _ h => hFc q h) hFc (fun q1 u t H1 locs ht hvm hr1 hB hz1 hk1 hS => ?_)
      have hr1 := (show q1 = r1 from hr1).symm
      subst hr1
      obtain ⟨hP1, hK1, hD1⟩ := hB
      rw [ht] at hP1
      have hK1 := va_K.moved hvm.symm hK1
      obtain ⟨hP, hD⟩ := va_join (wr := [(f_eq_slackRows, .inl (k_eq_slackRows, 6, .inl c_eq_slackRows)), (f_eq_slackNumbers, .inl (k_eq_slackNumbers, 6, .inl c_eq_slackNumbers))]) (w1 := [(a_eq, .inr (4, [.ref f_eq_a, .ref f_eq_b, .ref f_eq_letters, .ref f_eq_slackRows, .ref f_eq_slackNumbers, .int v_eq_rows, .int v_eq_variables, .int v_eq_slacks]))]) hP hD [0] [1, 2] rfl rfl (by decide) (by decide) hk1 hFc hP1 hD1
      have hK := (hK.sub (tys' := [(k_eq_slackRows, .int), (k_eq_slackNumbers, .int)]) [0, 1] rfl).app hK1
      have hK : va_K (dC, dI) cls [(k_eq_slackRows, .int), (k_eq_slackNumbers, .int)] s := hK
      have hP : va_P (dC, dI) cls [(f_eq_slackRows, .inl (k_eq_slackRows, 6, .inl c_eq_slackRows)), (f_eq_slackNumbers, .inl (k_eq_slackNumbers, 6, .inl c_eq_slackNumbers)), (a_eq, .inr (4, [.ref f_eq_a, .ref f_eq_b, .ref f_eq_letters, .ref f_eq_slackRows, .ref f_eq_slackNumbers, .int v_eq_rows, .int v_eq_variables, .int v_eq_slacks]))] H1 := hP
      have hD : va_D A [(f_eq_slackRows, .inl (k_eq_slackRows, 6, .inl c_eq_slackRows)), (f_eq_slackNumbers, .inl (k_eq_slackNumbers, 6, .inl c_eq_slackNumbers)), (a_eq, .inr (4, [.ref f_eq_a, .ref f_eq_b, .ref f_eq_letters, .ref f_eq_slackRows, .ref f_eq_slackNumbers, .int v_eq_rows, .int v_eq_variables, .int v_eq_slacks]))] := hD
      refine lv_if_ne (tgt := 37) hx hb d_EQ_addSlack_4 (by decide) (fun hc1 => ?_) (fun hc1 => ?_)
      · have hs := sm_neg hc1 hs
        have hP := hP.sub (ws' := [(a_eq, .inr (4, [.ref f_eq_a, .ref f_eq_b, .ref f_eq_letters, .ref f_eq_slackRows, .ref f_eq_slackNumbers, .int v_eq_rows, .int v_eq_variables, .int v_eq_slacks])), (f_eq_slackRows, .inl (k_eq_slackRows, 6, .inl c_eq_slackRows)), (f_eq_slackNumbers, .inl (k_eq_slackNumbers, 6, .inl c_eq_slackNumbers))]) [2, 0, 1] rfl
        have hD := hD.sub (ws' := [(a_eq, .inr (4, [.ref f_eq_a, .ref f_eq_b, .ref f_eq_letters, .ref f_eq_slackRows, .ref f_eq_slackNumbers, .int v_eq_rows, .int v_eq_variables, .int v_eq_slacks])), (f_eq_slackRows, .inl (k_eq_slackRows, 6, .inl c_eq_slackRows)), (f_eq_slackNumbers, .inl (k_eq_slackNumbers, 6, .inl c_eq_slackNumbers))]) [2, 0, 1] (by decide) rfl
        exact (key k9) _ _ _ _ _ _ hs hP hD hS (lv_sub hl [] rfl)
      · have hs := sm_pos hc1 hs
        refine lv_aload_n hx hb d_EQ_addSlack_7 rfl (lv_at hl 0 rfl) ?_
        refine va_get (D := (dC, dI)) (ci := 4) (v := .ref f_eq_slackRows) (C := R_EQ) (T := T_EQ) (N := 8) hx hb hts in_EQ hown hK hP 2 rfl rfl 3 (by decide) (hts _ k_106) (fun _ h9 => h9) rfl d_EQ_addSlack_8 ?_
        refine lv_aload_n hx hb d_EQ_addSlack_11 rfl (lv_at hl 0 rfl) ?_
        refine va_get (D := (dC, dI)) (ci := 4) (v := .int v_eq_slacks) (C := R_EQ) (T := T_EQ) (N := 8) hx hb hts in_EQ hown hK hP 2 rfl rfl 7 (by decide) (hts _ k_115) (fun _ h9 => h9) rfl d_EQ_addSlack_12 ?_
        refine lv_iload_n hx hb d_EQ_addSlack_15 rfl (lv_at hl 1 rfl) ?_
        obtain ⟨hg1, hs⟩ := sm_gd hs
        refine va_iast hx hb hK hP hD hS 0 0 rfl rfl hg1 d_EQ_addSlack_16 (fun H2 locs hP hD hS => ?_)
        have hP : va_P (dC, dI) cls [(f_eq_slackRows, .inl (k_eq_slackRows, 6, .inl (upd c_eq_slackRows (v_eq_slacks : Int32).toNatClampNeg a1))), (f_eq_slackNumbers, .inl (k_eq_slackNumbers, 6, .inl c_eq_slackNumbers)), (a_eq, .inr (4, [.ref f_eq_a, .ref f_eq_b, .ref f_eq_letters, .ref f_eq_slackRows, .ref f_eq_slackNumbers, .int v_eq_rows, .int v_eq_variables, .int v_eq_slacks]))] H2 := hP
        have hD : va_D A [(f_eq_slackRows, .inl (k_eq_slackRows, 6, .inl (upd c_eq_slackRows (v_eq_slacks : Int32).toNatClampNeg a1))), (f_eq_slackNumbers, .inl (k_eq_slackNumbers, 6, .inl c_eq_slackNumbers)), (a_eq, .inr (4, [.ref f_eq_a, .ref f_eq_b, .ref f_eq_letters, .ref f_eq_slackRows, .ref f_eq_slackNumbers, .int v_eq_rows, .int v_eq_variables, .int v_eq_slacks]))] := hD
        refine lv_aload_n hx hb d_EQ_addSlack_17 rfl (lv_at hl 0 rfl) ?_
        refine va_get (D := (dC, dI)) (ci := 4) (v := .ref f_eq_slackNumbers) (C := R_EQ) (T := T_EQ) (N := 8) hx hb hts in_EQ hown hK hP 2 rfl rfl 4 (by decide) (hts _ k_107) (fun _ h9 => h9) rfl d_EQ_addSlack_18 ?_
        refine lv_aload_n hx hb d_EQ_addSlack_21 rfl (lv_at hl 0 rfl) ?_
        refine va_get (D := (dC, dI)) (ci := 4) (v := .int v_eq_slacks) (C := R_EQ) (T := T_EQ) (N := 8) hx hb hts in_EQ hown hK hP 2 rfl rfl 7 (by decide) (hts _ k_115) (fun _ h9 => h9) rfl d_EQ_addSlack_22 ?_
        refine lv_iload_n hx hb d_EQ_addSlack_25 rfl (lv_at hl 2 rfl) ?_
        refine va_iast hx hb hK hP hD hS 1 1 rfl rfl hg1 d_EQ_addSlack_26 (fun H3 locs hP hD hS => ?_)
        have hP : va_P (dC, dI) cls [(f_eq_slackRows, .inl (k_eq_slackRows, 6, .inl (upd c_eq_slackRows (v_eq_slacks : Int32).toNatClampNeg a1))), (f_eq_slackNumbers, .inl (k_eq_slackNumbers, 6, .inl (upd c_eq_slackNumbers (v_eq_slacks : Int32).toNatClampNeg a2))), (a_eq, .inr (4, [.ref f_eq_a, .ref f_eq_b, .ref f_eq_letters, .ref f_eq_slackRows, .ref f_eq_slackNumbers, .int v_eq_rows, .int v_eq_variables, .int v_eq_slacks]))] H3 := hP
        have hD : va_D A [(f_eq_slackRows, .inl (k_eq_slackRows, 6, .inl (upd c_eq_slackRows (v_eq_slacks : Int32).toNatClampNeg a1))), (f_eq_slackNumbers, .inl (k_eq_slackNumbers, 6, .inl (upd c_eq_slackNumbers (v_eq_slacks : Int32).toNatClampNeg a2))), (a_eq, .inr (4, [.ref f_eq_a, .ref f_eq_b, .ref f_eq_letters, .ref f_eq_slackRows, .ref f_eq_slackNumbers, .int v_eq_rows, .int v_eq_variables, .int v_eq_slacks]))] := hD
        refine lv_aload_n hx hb d_EQ_addSlack_27 rfl (lv_at hl 0 rfl) ?_
        refine lv_dup hx hb d_EQ_addSlack_28 rfl ?_
        refine va_get (D := (dC, dI)) (ci := 4) (v := .int v_eq_slacks) (C := R_EQ) (T := T_EQ) (N := 8) hx hb hts in_EQ hown hK hP 2 rfl rfl 7 (by decide) (hts _ k_115) (fun _ h9 => h9) rfl d_EQ_addSlack_29 ?_
        refine lv_iconst (v := 1) hx hb d_EQ_addSlack_32 (by decide) ?_
        refine lv_iadd hx hb d_EQ_addSlack_33 ?_
        refine va_put (D := (dC, dI)) (ci := 4) (v := .int (v_eq_slacks + 1)) (ty := .int) (C := R_EQ) (T := T_EQ) (N := 8) hx hb hts in_EQ t_EQ t_EQ_ok n_EQ hown hK hP hD hS 2 rfl rfl 7 (by decide) (hts _ k_115) (fun _ h9 => h9) rfl (by decide +kernel) rfl rfl (Nat.le_of_ble_eq_true rfl) d_EQ_addSlack_34 (fun H4 locs hP hD hS => ?_)
        have hP : va_P (dC, dI) cls [(f_eq_slackRows, .inl (k_eq_slackRows, 6, .inl (upd c_eq_slackRows (v_eq_slacks : Int32).toNatClampNeg a1))), (f_eq_slackNumbers, .inl (k_eq_slackNumbers, 6, .inl (upd c_eq_slackNumbers (v_eq_slacks : Int32).toNatClampNeg a2))), (a_eq, .inr (4, [.ref f_eq_a, .ref f_eq_b, .ref f_eq_letters, .ref f_eq_slackRows, .ref f_eq_slackNumbers, .int v_eq_rows, .int v_eq_variables, .int (v_eq_slacks + 1)]))] H4 := hP
        have hD : va_D A [(f_eq_slackRows, .inl (k_eq_slackRows, 6, .inl (upd c_eq_slackRows (v_eq_slacks : Int32).toNatClampNeg a1))), (f_eq_slackNumbers, .inl (k_eq_slackNumbers, 6, .inl (upd c_eq_slackNumbers (v_eq_slacks : Int32).toNatClampNeg a2))), (a_eq, .inr (4, [.ref f_eq_a, .ref f_eq_b, .ref f_eq_letters, .ref f_eq_slackRows, .ref f_eq_slackNumbers, .int v_eq_rows, .int v_eq_variables, .int (v_eq_slacks + 1)]))] := hD
        have hP := hP.sub (ws' := [(a_eq, .inr (4, [.ref f_eq_a, .ref f_eq_b, .ref f_eq_letters, .ref f_eq_slackRows, .ref f_eq_slackNumbers, .int v_eq_rows, .int v_eq_variables, .int (v_eq_slacks + 1)])), (f_eq_slackRows, .inl (k_eq_slackRows, 6, .inl (upd c_eq_slackRows (v_eq_slacks : Int32).toNatClampNeg a1))), (f_eq_slackNumbers, .inl (k_eq_slackNumbers, 6, .inl (upd c_eq_slackNumbers (v_eq_slacks : Int32).toNatClampNeg a2)))]) [2, 0, 1] rfl
        have hD := hD.sub (ws' := [(a_eq, .inr (4, [.ref f_eq_a, .ref f_eq_b, .ref f_eq_letters, .ref f_eq_slackRows, .ref f_eq_slackNumbers, .int v_eq_rows, .int v_eq_variables, .int (v_eq_slacks + 1)])), (f_eq_slackRows, .inl (k_eq_slackRows, 6, .inl (upd c_eq_slackRows (v_eq_slacks : Int32).toNatClampNeg a1))), (f_eq_slackNumbers, .inl (k_eq_slackNumbers, 6, .inl (upd c_eq_slackNumbers (v_eq_slacks : Int32).toNatClampNeg a2)))]) [2, 0, 1] (by decide) rfl
        exact (key k9) _ _ _ _ _ _ hs hP hD hS (lv_sub hl [] rfl)

noncomputable def fn_EQ_placeSlacks_b0 (v_eq_variables : Int32) (v_eq_slacks : Int32) (c_eq_slackRows : Nat → Int32) (c_eq_slackNumbers : Nat → Int32) (_z0 : Int32) (c_eq_a : Nat → Nat → Int32) : Option ((Nat × Int32 × (Nat → Nat → Int32)) ⊕ ((Nat → Nat → Int32))) := some (.inl (2, 0, c_eq_a))
noncomputable def fn_EQ_placeSlacks_b2 (v_eq_variables : Int32) (v_eq_slacks : Int32) (c_eq_slackRows : Nat → Int32) (c_eq_slackNumbers : Nat → Int32) (x1i : Int32) (u_eq_a : Nat → Nat → Int32) : Option ((Nat × Int32 × (Nat → Nat → Int32)) ⊕ ((Nat → Nat → Int32))) := if (v_eq_slacks : Int32) ≤ x1i then (some (.inl (51, 0, u_eq_a))) else (if (6 : Int32) ≤ (v_eq_variables + x1i) then (some (.inl (51, 0, u_eq_a))) else (if ¬ ((x1i : Int32) < 0 ∨ 6 ≤ (x1i : Int32).toNatClampNeg) then if ¬ (((c_eq_slackRows (x1i : Int32).toNatClampNeg) : Int32) < 0 ∨ 4 ≤ ((c_eq_slackRows (x1i : Int32).toNatClampNeg) : Int32).toNatClampNeg) then if ¬ (((v_eq_variables + x1i) : Int32) < 0 ∨ 6 ≤ ((v_eq_variables + x1i) : Int32).toNatClampNeg) then some (.inl (2, (x1i + 1), (up2 u_eq_a (((c_eq_slackRows (x1i : Int32).toNatClampNeg) : Int32).toNatClampNeg) (upd (u_eq_a (((c_eq_slackRows (x1i : Int32).toNatClampNeg) : Int32).toNatClampNeg)) ((v_eq_variables + x1i) : Int32).toNatClampNeg (c_eq_slackNumbers (x1i : Int32).toNatClampNeg))))) else none else none else none))
noncomputable def fn_EQ_placeSlacks_b51 (v_eq_variables : Int32) (v_eq_slacks : Int32) (c_eq_slackRows : Nat → Int32) (c_eq_slackNumbers : Nat → Int32) (x1i : Int32) (u_eq_a : Nat → Nat → Int32) : Option ((Nat × Int32 × (Nat → Nat → Int32)) ⊕ ((Nat → Nat → Int32))) := some (.inr u_eq_a)
noncomputable def fn_EQ_placeSlacks (v_eq_variables : Int32) (v_eq_slacks : Int32) (c_eq_slackRows : Nat → Int32) (c_eq_slackNumbers : Nat → Int32) : Nat × Int32 × (Nat → Nat → Int32) → Option ((Nat × Int32 × (Nat → Nat → Int32)) ⊕ ((Nat → Nat → Int32))) := fun st => match st with
  | (pc, x1i, u_eq_a) => if pc = 0 then fn_EQ_placeSlacks_b0 v_eq_variables v_eq_slacks c_eq_slackRows c_eq_slackNumbers x1i u_eq_a else if pc = 2 then fn_EQ_placeSlacks_b2 v_eq_variables v_eq_slacks c_eq_slackRows c_eq_slackNumbers x1i u_eq_a else if pc = 51 then fn_EQ_placeSlacks_b51 v_eq_variables v_eq_slacks c_eq_slackRows c_eq_slackNumbers x1i u_eq_a else none
theorem fn_EQ_placeSlacks_q0 (v_eq_variables : Int32) (v_eq_slacks : Int32) (c_eq_slackRows : Nat → Int32) (c_eq_slackNumbers : Nat → Int32) (x1i : Int32) (u_eq_a : Nat → Nat → Int32) : fn_EQ_placeSlacks v_eq_variables v_eq_slacks c_eq_slackRows c_eq_slackNumbers (0, x1i, u_eq_a) = fn_EQ_placeSlacks_b0 v_eq_variables v_eq_slacks c_eq_slackRows c_eq_slackNumbers x1i u_eq_a := by simp [fn_EQ_placeSlacks]
theorem fn_EQ_placeSlacks_q2 (v_eq_variables : Int32) (v_eq_slacks : Int32) (c_eq_slackRows : Nat → Int32) (c_eq_slackNumbers : Nat → Int32) (x1i : Int32) (u_eq_a : Nat → Nat → Int32) : fn_EQ_placeSlacks v_eq_variables v_eq_slacks c_eq_slackRows c_eq_slackNumbers (2, x1i, u_eq_a) = fn_EQ_placeSlacks_b2 v_eq_variables v_eq_slacks c_eq_slackRows c_eq_slackNumbers x1i u_eq_a := by simp [fn_EQ_placeSlacks]
theorem fn_EQ_placeSlacks_q51 (v_eq_variables : Int32) (v_eq_slacks : Int32) (c_eq_slackRows : Nat → Int32) (c_eq_slackNumbers : Nat → Int32) (x1i : Int32) (u_eq_a : Nat → Nat → Int32) : fn_EQ_placeSlacks v_eq_variables v_eq_slacks c_eq_slackRows c_eq_slackNumbers (51, x1i, u_eq_a) = fn_EQ_placeSlacks_b51 v_eq_variables v_eq_slacks c_eq_slackRows c_eq_slackNumbers x1i u_eq_a := by simp [fn_EQ_placeSlacks]
set_option maxHeartbeats 4000000 in
set_option maxRecDepth 100000 in
theorem c_EQ_placeSlacks (l : Launch) (dC : Nat → ClassId) (dI : Nat → Nat → Nat) (a_eq : Nat) (f_eq_a : Nat) (f_eq_b : Nat) (f_eq_letters : Nat) (f_eq_slackRows : Nat) (f_eq_slackNumbers : Nat) (v_eq_rows : Int32) (v_eq_variables : Int32) (v_eq_slacks : Int32) (k_eq_a : ClassId) (r_eq_a : Nat → Nat) (j_eq_a : ClassId) (c_eq_a : Nat → Nat → Int32) (k_eq_slackRows : ClassId) (c_eq_slackRows : Nat → Int32) (k_eq_slackNumbers : ClassId) (c_eq_slackNumbers : Nat → Int32) (sz : Nat) (out : (Nat → Nat → Int32)) (hs : sm_tot (fn_EQ_placeSlacks v_eq_variables v_eq_slacks c_eq_slackRows c_eq_slackNumbers) (0, 0, c_eq_a) = some out) : Met l y_EQ_placeSlacks (Cond.code y_EQ_placeSlacks b_EQ_placeSlacks 2 (Option.none : Option Jvm.ClassFile.FieldType) :: wd) { frames := 0, cells := 0, slots := 0, locals := 0 } (va_Pc [.ref a_eq] (fun U => U.heap.size = sz ∧ va_P (dC, dI) cls [(a_eq, .inr (4, [.ref f_eq_a, .ref f_eq_b, .ref f_eq_letters, .ref f_eq_slackRows, .ref f_eq_slackNumbers, .int v_eq_rows, .int v_eq_variables, .int v_eq_slacks])), (f_eq_a, .inl (k_eq_a, 4, .inr (.inr (.inr (.inr (fun i9 => some (r_eq_a i9))))))), ((r_eq_a 0), .inl (j_eq_a, 6, .inl (c_eq_a 0))), ((r_eq_a 1), .inl (j_eq_a, 6, .inl (c_eq_a 1))), ((r_eq_a 2), .inl (j_eq_a, 6, .inl (c_eq_a 2))), ((r_eq_a 3), .inl (j_eq_a, 6, .inl (c_eq_a 3))), (f_eq_slackRows, .inl (k_eq_slackRows, 6, .inl c_eq_slackRows)), (f_eq_slackNumbers, .inl (k_eq_slackNumbers, 6, .inl c_eq_slackNumbers))] U.heap ∧ va_K (dC, dI) cls [(k_eq_a, .array .int), (j_eq_a, .int), (k_eq_slackRows, .int), (k_eq_slackNumbers, .int)] U ∧ va_D (fun _ => True) [(a_eq, .inr (4, [.ref f_eq_a, .ref f_eq_b, .ref f_eq_letters, .ref f_eq_slackRows, .ref f_eq_slackNumbers, .int v_eq_rows, .int v_eq_variables, .int v_eq_slacks])), (f_eq_a, .inl (k_eq_a, 4, .inr (.inr (.inr (.inr (fun i9 => some (r_eq_a i9))))))), ((r_eq_a 0), .inl (j_eq_a, 6, .inl (c_eq_a 0))), ((r_eq_a 1), .inl (j_eq_a, 6, .inl (c_eq_a 1))), ((r_eq_a 2), .inl (j_eq_a, 6, .inl (c_eq_a 2))), ((r_eq_a 3), .inl (j_eq_a, 6, .inl (c_eq_a 3))), (f_eq_slackRows, .inl (k_eq_slackRows, 6, .inl c_eq_slackRows)), (f_eq_slackNumbers, .inl (k_eq_slackNumbers, 6, .inl c_eq_slackNumbers))] ∧ nw_ok U)) (va_Qv (fun _ : Unit => True) (fun (_ : Unit) t => va_P (dC, dI) cls [(a_eq, .inr (4, [.ref f_eq_a, .ref f_eq_b, .ref f_eq_letters, .ref f_eq_slackRows, .ref f_eq_slackNumbers, .int v_eq_rows, .int v_eq_variables, .int v_eq_slacks])), (f_eq_a, .inl (k_eq_a, 4, .inr (.inr (.inr (.inr (fun i9 => some (r_eq_a i9))))))), ((r_eq_a 0), .inl (j_eq_a, 6, .inl (out 0))), ((r_eq_a 1), .inl (j_eq_a, 6, .inl (out 1))), ((r_eq_a 2), .inl (j_eq_a, 6, .inl (out 2))), ((r_eq_a 3), .inl (j_eq_a, 6, .inl (out 3))), (f_eq_slackRows, .inl (k_eq_slackRows, 6, .inl c_eq_slackRows)), (f_eq_slackNumbers, .inl (k_eq_slackNumbers, 6, .inl c_eq_slackNumbers))] t.heap ∧ va_K (dC, dI) cls [(k_eq_a, .array .int), (j_eq_a, .int), (k_eq_slackRows, .int), (k_eq_slackNumbers, .int)] t ∧ va_D (va_A [(a_eq, .inr (4, [.ref f_eq_a, .ref f_eq_b, .ref f_eq_letters, .ref f_eq_slackRows, .ref f_eq_slackNumbers, .int v_eq_rows, .int v_eq_variables, .int v_eq_slacks])), (f_eq_a, .inl (k_eq_a, 4, .inr (.inr (.inr (.inr (fun i9 => some (r_eq_a i9))))))), ((r_eq_a 0), .inl (j_eq_a, 6, .inl (c_eq_a 0))), ((r_eq_a 1), .inl (j_eq_a, 6, .inl (c_eq_a 1))), ((r_eq_a 2), .inl (j_eq_a, 6, .inl (c_eq_a 2))), ((r_eq_a 3), .inl (j_eq_a, 6, .inl (c_eq_a 3))), (f_eq_slackRows, .inl (k_eq_slackRows, 6, .inl c_eq_slackRows)), (f_eq_slackNumbers, .inl (k_eq_slackNumbers, 6, .inl c_eq_slackNumbers))] sz) [(a_eq, .inr (4, [.ref f_eq_a, .ref f_eq_b, .ref f_eq_letters, .ref f_eq_slackRows, .ref f_eq_slackNumbers, .int v_eq_rows, .int v_eq_variables, .int v_eq_slacks])), (f_eq_a, .inl (k_eq_a, 4, .inr (.inr (.inr (.inr (fun i9 => some (r_eq_a i9))))))), ((r_eq_a 0), .inl (j_eq_a, 6, .inl (out 0))), ((r_eq_a 1), .inl (j_eq_a, 6, .inl (out 1))), ((r_eq_a 2), .inl (j_eq_a, 6, .inl (out 2))), ((r_eq_a 3), .inl (j_eq_a, 6, .inl (out 3))), (f_eq_slackRows, .inl (k_eq_slackRows, 6, .inl c_eq_slackRows)), (f_eq_slackNumbers, .inl (k_eq_slackNumbers, 6, .inl c_eq_slackNumbers))]) (va_A [(a_eq, .inr (4, [.ref f_eq_a, .ref f_eq_b, .ref f_eq_letters, .ref f_eq_slackRows, .ref f_eq_slackNumbers, .int v_eq_rows, .int v_eq_variables, .int v_eq_slacks])), (f_eq_a, .inl (k_eq_a, 4, .inr (.inr (.inr (.inr (fun i9 => some (r_eq_a i9))))))), ((r_eq_a 0), .inl (j_eq_a, 6, .inl (c_eq_a 0))), ((r_eq_a 1), .inl (j_eq_a, 6, .inl (c_eq_a 1))), ((r_eq_a 2), .inl (j_eq_a, 6, .inl (c_eq_a 2))), ((r_eq_a 3), .inl (j_eq_a, 6, .inl (c_eq_a 3))), (f_eq_slackRows, .inl (k_eq_slackRows, 6, .inl c_eq_slackRows)), (f_eq_slackNumbers, .inl (k_eq_slackNumbers, 6, .inl c_eq_slackNumbers))] sz)) 0 0 (va_A [(a_eq, .inr (4, [.ref f_eq_a, .ref f_eq_b, .ref f_eq_letters, .ref f_eq_slackRows, .ref f_eq_slackNumbers, .int v_eq_rows, .int v_eq_variables, .int v_eq_slacks])), (f_eq_a, .inl (k_eq_a, 4, .inr (.inr (.inr (.inr (fun i9 => some (r_eq_a i9))))))), ((r_eq_a 0), .inl (j_eq_a, 6, .inl (c_eq_a 0))), ((r_eq_a 1), .inl (j_eq_a, 6, .inl (c_eq_a 1))), ((r_eq_a 2), .inl (j_eq_a, 6, .inl (c_eq_a 2))), ((r_eq_a 3), .inl (j_eq_a, 6, .inl (c_eq_a 3))), (f_eq_slackRows, .inl (k_eq_slackRows, 6, .inl c_eq_slackRows)), (f_eq_slackNumbers, .inl (k_eq_slackNumbers, 6, .inl c_eq_slackNumbers))] sz) := by
  refine Met.ofW (cc := b_EQ_placeSlacks) (maxL := 2) (ret := (Option.none : Option Jvm.ClassFile.FieldType)) (by decide) rfl ?_
  intro p e s m args below meth c s₁ B hml hv
  obtain ⟨rfl, hsz, hP, hK, hD0, hN⟩ := hv
  have hx := B.exec
  have hb := B.bytes
  have hr := B.returns
  have hlocks := B.notSynchronized
  have hts : ∀ w ∈ wd, w.before ([.ref a_eq] : List Value).toArray s = true := fun w hw => atoms_spec (ws := (Cond.code y_EQ_placeSlacks b_EQ_placeSlacks 2 (Option.none : Option Jvm.ClassFile.FieldType) :: wd)) B.pre w (List.mem_cons_of_mem _ hw)
  have hown : s.vm.findClass "LeastSolutions$Equations" = some m.cls := findClass_of_methodNamed B.named
  subst hsz
  have hD := hD0.self (sz := s.heap.size)
  generalize hAe : va_A [(a_eq, .inr (4, [.ref f_eq_a, .ref f_eq_b, .ref f_eq_letters, .ref f_eq_slackRows, .ref f_eq_slackNumbers, .int v_eq_rows, .int v_eq_variables, .int v_eq_slacks])), (f_eq_a, .inl (k_eq_a, 4, .inr (.inr (.inr (.inr (fun i9 => some (r_eq_a i9))))))), ((r_eq_a 0), .inl (j_eq_a, 6, .inl (c_eq_a 0))), ((r_eq_a 1), .inl (j_eq_a, 6, .inl (c_eq_a 1))), ((r_eq_a 2), .inl (j_eq_a, 6, .inl (c_eq_a 2))), ((r_eq_a 3), .inl (j_eq_a, 6, .inl (c_eq_a 3))), (f_eq_slackRows, .inl (k_eq_slackRows, 6, .inl c_eq_slackRows)), (f_eq_slackNumbers, .inl (k_eq_slackNumbers, 6, .inl c_eq_slackNumbers))] s.heap.size = A at hD ⊢
  have hA : ∀ q : Nat, s.heap.size ≤ q → A q := fun q h => by rw [← hAe]; exact Or.inr h
  have hS : va_S A s.heap s.heap [] := va_S.rf
  have hl := lv_entry ([.ref a_eq]) (n := 2) (Nat.le_of_ble_eq_true rfl)
  rw [lg_entry_eq]
  generalize (lg_sl ([.ref a_eq]) ++ List.replicate (2 - (lg_sl ([.ref a_eq])).length) Slot.unset).toArray = ls at hl ⊢
  have hl : lv_has ls 2 [(0, .ref a_eq)] := hl
  obtain ⟨k8, hs⟩ := sm_of hs
  refine sm_key (fun R Q k9 => (∀ (H : Heap) (locs : List Loc) (ls : Array Slot) (x1i : Int32) (u_eq_a : Nat → Nat → Int32), sm_it (fn_EQ_placeSlacks v_eq_variables v_eq_slacks c_eq_slackRows c_eq_slackNumbers) k9 (2, x1i, u_eq_a) = some out → va_P (dC, dI) cls [(a_eq, .inr (4, [.ref f_eq_a, .ref f_eq_b, .ref f_eq_letters, .ref f_eq_slackRows, .ref f_eq_slackNumbers, .int v_eq_rows, .int v_eq_variables, .int v_eq_slacks])), (f_eq_a, .inl (k_eq_a, 4, .inr (.inr (.inr (.inr (fun i9 => some (r_eq_a i9))))))), ((r_eq_a 0), .inl (j_eq_a, 6, .inl (u_eq_a 0))), ((r_eq_a 1), .inl (j_eq_a, 6, .inl (u_eq_a 1))), ((r_eq_a 2), .inl (j_eq_a, 6, .inl (u_eq_a 2))), ((r_eq_a 3), .inl (j_eq_a, 6, .inl (u_eq_a 3))), (f_eq_slackRows, .inl (k_eq_slackRows, 6, .inl c_eq_slackRows)), (f_eq_slackNumbers, .inl (k_eq_slackNumbers, 6, .inl c_eq_slackNumbers))] H → va_D A [(a_eq, .inr (4, [.ref f_eq_a, .ref f_eq_b, .ref f_eq_letters, .ref f_eq_slackRows, .ref f_eq_slackNumbers, .int v_eq_rows, .int v_eq_variables, .int v_eq_slacks])), (f_eq_a, .inl (k_eq_a, 4, .inr (.inr (.inr (.inr (fun i9 => some (r_eq_a i9))))))), ((r_eq_a 0), .inl (j_eq_a, 6, .inl (u_eq_a 0))), ((r_eq_a 1), .inl (j_eq_a, 6, .inl (u_eq_a 1))), ((r_eq_a 2), .inl (j_eq_a, 6, .inl (u_eq_a 2))), ((r_eq_a 3), .inl (j_eq_a, 6, .inl (u_eq_a 3))), (f_eq_slackRows, .inl (k_eq_slackRows, 6, .inl c_eq_slackRows)), (f_eq_slackNumbers, .inl (k_eq_slackNumbers, 6, .inl c_eq_slackNumbers))] → va_S A s.heap H locs → lv_has ls 2 [(0, .ref a_eq), (1, .int x1i)] → W p l e R s m ([.ref a_eq] : List Value).toArray below meth c H locs 0 0 Q (F0 m 2 ls [])) ∧ (∀ (H : Heap) (locs : List Loc) (ls : Array Slot) (x1i : Int32) (u_eq_a : Nat → Nat → Int32), sm_it (fn_EQ_placeSlacks v_eq_variables v_eq_slacks c_eq_slackRows c_eq_slackNumbers) k9 (51, x1i, u_eq_a) = some out → va_P (dC, dI) cls [(a_eq, .inr (4, [.ref f_eq_a, .ref f_eq_b, .ref f_eq_letters, .ref f_eq_slackRows, .ref f_eq_slackNumbers, .int v_eq_rows, .int v_eq_variables, .int v_eq_slacks])), (f_eq_a, .inl (k_eq_a, 4, .inr (.inr (.inr (.inr (fun i9 => some (r_eq_a i9))))))), ((r_eq_a 0), .inl (j_eq_a, 6, .inl (u_eq_a 0))), ((r_eq_a 1), .inl (j_eq_a, 6, .inl (u_eq_a 1))), ((r_eq_a 2), .inl (j_eq_a, 6, .inl (u_eq_a 2))), ((r_eq_a 3), .inl (j_eq_a, 6, .inl (u_eq_a 3))), (f_eq_slackRows, .inl (k_eq_slackRows, 6, .inl c_eq_slackRows)), (f_eq_slackNumbers, .inl (k_eq_slackNumbers, 6, .inl c_eq_slackNumbers))] H → va_D A [(a_eq, .inr (4, [.ref f_eq_a, .ref f_eq_b, .ref f_eq_letters, .ref f_eq_slackRows, .ref f_eq_slackNumbers, .int v_eq_rows, .int v_eq_variables, .int v_eq_slacks])), (f_eq_a, .inl (k_eq_a, 4, .inr (.inr (.inr (.inr (fun i9 => some (r_eq_a i9))))))), ((r_eq_a 0), .inl (j_eq_a, 6, .inl (u_eq_a 0))), ((r_eq_a 1), .inl (j_eq_a, 6, .inl (u_eq_a 1))), ((r_eq_a 2), .inl (j_eq_a, 6, .inl (u_eq_a 2))), ((r_eq_a 3), .inl (j_eq_a, 6, .inl (u_eq_a 3))), (f_eq_slackRows, .inl (k_eq_slackRows, 6, .inl c_eq_slackRows)), (f_eq_slackNumbers, .inl (k_eq_slackNumbers, 6, .inl c_eq_slackNumbers))] → va_S A s.heap H locs → lv_has ls 2 [] → W p l e R s m ([.ref a_eq] : List Value).toArray below meth c H locs 0 0 Q (F0 m 51 ls []))) ?_ ?_ ?_
  · exact ⟨(fun _ _ _ _ _ hs => by cases hs), (fun _ _ _ _ _ hs => by cases hs)⟩
  · intro k9 ih
    refine ⟨?_, ?_⟩
    · intro H locs ls x1i u_eq_a hs hP hD hS hl
      rw [sm_it_succ, fn_EQ_placeSlacks_q2] at hs
      unfold fn_EQ_placeSlacks_b2 at hs
      refine lv_iload_n hx hb d_EQ_placeSlacks_2 rfl (lv_at hl 1 rfl) ?_
      refine lv_aload_n hx hb d_EQ_placeSlacks_3 rfl (lv_at hl 0 rfl) ?_
      refine va_get (D := (dC, dI)) (ci := 4) (v := .int v_eq_slacks) (C := R_EQ) (T := T_EQ) (N := 8) hx hb hts in_EQ hown hK hP 0 rfl rfl 7 (by decide) (hts _ k_115) (fun _ h9 => h9) rfl d_EQ_placeSlacks_4 ?_
      refine lv_icmp_ge (tgt := 51) hx hb d_EQ_placeSlacks_7 (by decide) (fun hc1 => ?_) (fun hc1 => ?_)
      · have hs := sm_pos hc1 hs
        exact ih.2 _ _ _ _ _ hs hP hD hS (lv_sub hl [] rfl)
      · have hs := sm_neg hc1 hs
        refine lv_aload_n hx hb d_EQ_placeSlacks_10 rfl (lv_at hl 0 rfl) ?_
        refine va_get (D := (dC, dI)) (ci := 4) (v := .int v_eq_variables) (C := R_EQ) (T := T_EQ) (N := 8) hx hb hts in_EQ hown hK hP 0 rfl rfl 6 (by decide) (hts _ k_113) (fun _ h9 => h9) rfl d_EQ_placeSlacks_11 ?_
        refine lv_iload_n hx hb d_EQ_placeSlacks_14 rfl (lv_at hl 1 rfl) ?_
        refine lv_iadd hx hb d_EQ_placeSlacks_15 ?_
        refine lv_bipush (v := 6) hx hb d_EQ_placeSlacks_16 (by decide) ?_
        refine lv_icmp_ge (tgt := 51) hx hb d_EQ_placeSlacks_18 (by decide) (fun hc2 => ?_) (fun hc2 => ?_)
        · have hs := sm_pos hc2 hs
          exact ih.2 _ _ _ _ _ hs hP hD hS (lv_sub hl [] rfl)
        · have hs := sm_neg hc2 hs
          refine lv_aload_n hx hb d_EQ_placeSlacks_21 rfl (lv_at hl 0 rfl) ?_
          refine va_get (D := (dC, dI)) (ci := 4) (v := .ref f_eq_a) (C := R_EQ) (T := T_EQ) (N := 8) hx hb hts in_EQ hown hK hP 0 rfl rfl 0 (by decide) (hts _ k_94) (fun _ h9 => h9) rfl d_EQ_placeSlacks_22 ?_
          refine lv_aload_n hx hb d_EQ_placeSlacks_25 rfl (lv_at hl 0 rfl) ?_
          refine va_get (D := (dC, dI)) (ci := 4) (v := .ref f_eq_slackRows) (C := R_EQ) (T := T_EQ) (N := 8) hx hb hts in_EQ hown hK hP 0 rfl rfl 3 (by decide) (hts _ k_106) (fun _ h9 => h9) rfl d_EQ_placeSlacks_26 ?_
          refine lv_iload_n hx hb d_EQ_placeSlacks_29 rfl (lv_at hl 1 rfl) ?_
          obtain ⟨hg1, hs⟩ := sm_gd hs
          refine va_iald hx hb hK hP 6 2 rfl rfl hg1 d_EQ_placeSlacks_30 ?_
          obtain ⟨hg2, hs⟩ := sm_gd hs
          refine ro_ald (Ra := r_eq_a) (k := ((c_eq_slackRows (x1i : Int32).toNatClampNeg) : Int32).toNatClampNeg) hx hb hK hP 1 0 rfl rfl rfl rfl hg2 d_EQ_placeSlacks_31 ?_
          refine lv_aload_n hx hb d_EQ_placeSlacks_32 rfl (lv_at hl 0 rfl) ?_
          refine va_get (D := (dC, dI)) (ci := 4) (v := .int v_eq_variables) (C := R_EQ) (T := T_EQ) (N := 8) hx hb hts in_EQ hown hK hP 0 rfl rfl 6 (by decide) (hts _ k_113) (fun _ h9 => h9) rfl d_EQ_placeSlacks_33 ?_
          refine lv_iload_n hx hb d_EQ_placeSlacks_36 rfl (lv_at hl 1 rfl) ?_
          refine lv_iadd hx hb d_EQ_placeSlacks_37 ?_
          refine lv_aload_n hx hb d_EQ_placeSlacks_38 rfl (lv_at hl 0 rfl) ?_
          refine va_get (D := (dC, dI)) (ci := 4) (v := .ref f_eq_slackNumbers) (C := R_EQ) (T := T_EQ) (N := 8) hx hb hts in_EQ hown hK hP 0 rfl rfl 4 (by decide) (hts _ k_107) (fun _ h9 => h9) rfl d_EQ_placeSlacks_39 ?_
          refine lv_iload_n hx hb d_EQ_placeSlacks_42 rfl (lv_at hl 1 rfl) ?_
          refine va_iald hx hb hK hP 7 3 rfl rfl hg1 d_EQ_placeSlacks_43 ?_
          obtain ⟨hg3, hs⟩ := sm_gd hs
          refine va_iast hx hb hK hP hD hS (2 + ((c_eq_slackRows (x1i : Int32).toNatClampNeg) : Int32).toNatClampNeg) 1 (ro4 (P := fun i9 => ([(a_eq, .inr (4, [.ref f_eq_a, .ref f_eq_b, .ref f_eq_letters, .ref f_eq_slackRows, .ref f_eq_slackNumbers, .int v_eq_rows, .int v_eq_variables, .int v_eq_slacks])), (f_eq_a, .inl (k_eq_a, 4, .inr (.inr (.inr (.inr (fun i9 => some (r_eq_a i9))))))), ((r_eq_a 0), .inl (j_eq_a, 6, .inl (u_eq_a 0))), ((r_eq_a 1), .inl (j_eq_a, 6, .inl (u_eq_a 1))), ((r_eq_a 2), .inl (j_eq_a, 6, .inl (u_eq_a 2))), ((r_eq_a 3), .inl (j_eq_a, 6, .inl (u_eq_a 3))), (f_eq_slackRows, .inl (k_eq_slackRows, 6, .inl c_eq_slackRows)), (f_eq_slackNumbers, .inl (k_eq_slackNumbers, 6, .inl c_eq_slackNumbers))] : va_W)[2 + i9]? = some ((r_eq_a i9), .inl (j_eq_a, 6, .inl (u_eq_a i9)))) rfl rfl rfl rfl (ro_lt hg2)) rfl hg3 d_EQ_placeSlacks_44 (fun H1 locs hP hD hS => ?_)
          have e9 := ro4 (P := fun i9 => List.set ([(a_eq, .inr (4, [.ref f_eq_a, .ref f_eq_b, .ref f_eq_letters, .ref f_eq_slackRows, .ref f_eq_slackNumbers, .int v_eq_rows, .int v_eq_variables, .int v_eq_slacks])), (f_eq_a, .inl (k_eq_a, 4, .inr (.inr (.inr (.inr (fun i9 => some (r_eq_a i9))))))), ((r_eq_a 0), .inl (j_eq_a, 6, .inl (u_eq_a 0))), ((r_eq_a 1), .inl (j_eq_a, 6, .inl (u_eq_a 1))), ((r_eq_a 2), .inl (j_eq_a, 6, .inl (u_eq_a 2))), ((r_eq_a 3), .inl (j_eq_a, 6, .inl (u_eq_a 3))), (f_eq_slackRows, .inl (k_eq_slackRows, 6, .inl c_eq_slackRows)), (f_eq_slackNumbers, .inl (k_eq_slackNumbers, 6, .inl c_eq_slackNumbers))] : va_W) (2 + i9) ((r_eq_a i9), .inl (j_eq_a, 6, .inl (upd (u_eq_a i9) ((v_eq_variables + x1i) : Int32).toNatClampNeg (c_eq_slackNumbers (x1i : Int32).toNatClampNeg)))) = ([(a_eq, .inr (4, [.ref f_eq_a, .ref f_eq_b, .ref f_eq_letters, .ref f_eq_slackRows, .ref f_eq_slackNumbers, .int v_eq_rows, .int v_eq_variables, .int v_eq_slacks])), (f_eq_a, .inl (k_eq_a, 4, .inr (.inr (.inr (.inr (fun i9 => some (r_eq_a i9))))))), ((r_eq_a 0), .inl (j_eq_a, 6, .inl ((up2 u_eq_a i9 (upd (u_eq_a i9) ((v_eq_variables + x1i) : Int32).toNatClampNeg (c_eq_slackNumbers (x1i : Int32).toNatClampNeg))) 0))), ((r_eq_a 1), .inl (j_eq_a, 6, .inl ((up2 u_eq_a i9 (upd (u_eq_a i9) ((v_eq_variables + x1i) : Int32).toNatClampNeg (c_eq_slackNumbers (x1i : Int32).toNatClampNeg))) 1))), ((r_eq_a 2), .inl (j_eq_a, 6, .inl ((up2 u_eq_a i9 (upd (u_eq_a i9) ((v_eq_variables + x1i) : Int32).toNatClampNeg (c_eq_slackNumbers (x1i : Int32).toNatClampNeg))) 2))), ((r_eq_a 3), .inl (j_eq_a, 6, .inl ((up2 u_eq_a i9 (upd (u_eq_a i9) ((v_eq_variables + x1i) : Int32).toNatClampNeg (c_eq_slackNumbers (x1i : Int32).toNatClampNeg))) 3))), (f_eq_slackRows, .inl (k_eq_slackRows, 6, .inl c_eq_slackRows)), (f_eq_slackNumbers, .inl (k_eq_slackNumbers, 6, .inl c_eq_slackNumbers))] : va_W)) rfl rfl rfl rfl (ro_lt hg2)
          rw [e9] at hP hD
          have hP : va_P (dC, dI) cls [(a_eq, .inr (4, [.ref f_eq_a, .ref f_eq_b, .ref f_eq_letters, .ref f_eq_slackRows, .ref f_eq_slackNumbers, .int v_eq_rows, .int v_eq_variables, .int v_eq_slacks])), (f_eq_a, .inl (k_eq_a, 4, .inr (.inr (.inr (.inr (fun i9 => some (r_eq_a i9))))))), ((r_eq_a 0), .inl (j_eq_a, 6, .inl ((up2 u_eq_a (((c_eq_slackRows (x1i : Int32).toNatClampNeg) : Int32).toNatClampNeg) (upd (u_eq_a (((c_eq_slackRows (x1i : Int32).toNatClampNeg) : Int32).toNatClampNeg)) ((v_eq_variables + x1i) : Int32).toNatClampNeg (c_eq_slackNumbers (x1i : Int32).toNatClampNeg))) 0))), ((r_eq_a 1), .inl (j_eq_a, 6, .inl ((up2 u_eq_a (((c_eq_slackRows (x1i : Int32).toNatClampNeg) : Int32).toNatClampNeg) (upd (u_eq_a (((c_eq_slackRows (x1i : Int32).toNatClampNeg) : Int32).toNatClampNeg)) ((v_eq_variables + x1i) : Int32).toNatClampNeg (c_eq_slackNumbers (x1i : Int32).toNatClampNeg))) 1))), ((r_eq_a 2), .inl (j_eq_a, 6, .inl ((up2 u_eq_a (((c_eq_slackRows (x1i : Int32).toNatClampNeg) : Int32).toNatClampNeg) (upd (u_eq_a (((c_eq_slackRows (x1i : Int32).toNatClampNeg) : Int32).toNatClampNeg)) ((v_eq_variables + x1i) : Int32).toNatClampNeg (c_eq_slackNumbers (x1i : Int32).toNatClampNeg))) 2))), ((r_eq_a 3), .inl (j_eq_a, 6, .inl ((up2 u_eq_a (((c_eq_slackRows (x1i : Int32).toNatClampNeg) : Int32).toNatClampNeg) (upd (u_eq_a (((c_eq_slackRows (x1i : Int32).toNatClampNeg) : Int32).toNatClampNeg)) ((v_eq_variables + x1i) : Int32).toNatClampNeg (c_eq_slackNumbers (x1i : Int32).toNatClampNeg))) 3))), (f_eq_slackRows, .inl (k_eq_slackRows, 6, .inl c_eq_slackRows)), (f_eq_slackNumbers, .inl (k_eq_slackNumbers, 6, .inl c_eq_slackNumbers))] H1 := hP
          have hD : va_D A [(a_eq, .inr (4, [.ref f_eq_a, .ref f_eq_b, .ref f_eq_letters, .ref f_eq_slackRows, .ref f_eq_slackNumbers, .int v_eq_rows, .int v_eq_variables, .int v_eq_slacks])), (f_eq_a, .inl (k_eq_a, 4, .inr (.inr (.inr (.inr (fun i9 => some (r_eq_a i9))))))), ((r_eq_a 0), .inl (j_eq_a, 6, .inl ((up2 u_eq_a (((c_eq_slackRows (x1i : Int32).toNatClampNeg) : Int32).toNatClampNeg) (upd (u_eq_a (((c_eq_slackRows (x1i : Int32).toNatClampNeg) : Int32).toNatClampNeg)) ((v_eq_variables + x1i) : Int32).toNatClampNeg (c_eq_slackNumbers (x1i : Int32).toNatClampNeg))) 0))), ((r_eq_a 1), .inl (j_eq_a, 6, .inl ((up2 u_eq_a (((c_eq_slackRows (x1i : Int32).toNatClampNeg) : Int32).toNatClampNeg) (upd (u_eq_a (((c_eq_slackRows (x1i : Int32).toNatClampNeg) : Int32).toNatClampNeg)) ((v_eq_variables + x1i) : Int32).toNatClampNeg (c_eq_slackNumbers (x1i : Int32).toNatClampNeg))) 1))), ((r_eq_a 2), .inl (j_eq_a, 6, .inl ((up2 u_eq_a (((c_eq_slackRows (x1i : Int32).toNatClampNeg) : Int32).toNatClampNeg) (upd (u_eq_a (((c_eq_slackRows (x1i : Int32).toNatClampNeg) : Int32).toNatClampNeg)) ((v_eq_variables + x1i) : Int32).toNatClampNeg (c_eq_slackNumbers (x1i : Int32).toNatClampNeg))) 2))), ((r_eq_a 3), .inl (j_eq_a, 6, .inl ((up2 u_eq_a (((c_eq_slackRows (x1i : Int32).toNatClampNeg) : Int32).toNatClampNeg) (upd (u_eq_a (((c_eq_slackRows (x1i : Int32).toNatClampNeg) : Int32).toNatClampNeg)) ((v_eq_variables + x1i) : Int32).toNatClampNeg (c_eq_slackNumbers (x1i : Int32).toNatClampNeg))) 3))), (f_eq_slackRows, .inl (k_eq_slackRows, 6, .inl c_eq_slackRows)), (f_eq_slackNumbers, .inl (k_eq_slackNumbers, 6, .inl c_eq_slackNumbers))] := hD
          refine lv_iinc (k := 1) (v := (x1i + 1)) hx hb d_EQ_placeSlacks_45 hl rfl (congrArg (fun z : Int32 => x1i + z) (by decide : Int32.ofInt 1 = 1)) (by decide) rfl (fun ls hl => ?_)
          have hl : lv_has ls 2 [(1, .int (x1i + 1)), (0, .ref a_eq)] := hl
          refine lv_goto (tgt := 2) hx hb d_EQ_placeSlacks_48 (by decide) ?_
          exact ih.1 _ _ _ _ _ hs hP hD hS (lv_sub hl [1, 0] rfl)
    · intro H locs ls x1i u_eq_a hs hP hD hS hl
      rw [sm_it_succ, fn_EQ_placeSlacks_q51] at hs
      unfold fn_EQ_placeSlacks_b51 at hs
      have he := sm_end hs
      subst he
      exact W.vret hx hb hr (fun t ht hW => ⟨⟨(), rfl, trivial, by rw [ht]; exact hP, va_K.moved hW.alike hK, hD⟩, hS.F ht⟩) hS.2.2 d_EQ_placeSlacks_51
  · intro key
    cases k8 with
    | zero => cases hs
    | succ k9 =>
      rw [sm_it_succ, fn_EQ_placeSlacks_q0] at hs
      unfold fn_EQ_placeSlacks_b0 at hs
      refine lv_iconst (v := 0) hx hb d_EQ_placeSlacks_0 (by decide) ?_
      refine lv_istore_n hx hb d_EQ_placeSlacks_1 rfl hl (by decide) rfl (fun ls hl => ?_)
      have hl : lv_has ls 2 [(1, .int 0), (0, .ref a_eq)] := hl
      exact (key k9).1 _ _ _ _ _ hs hP hD hS (lv_sub hl [1, 0] rfl)

noncomputable def fn_EQ_isLarge_b0 (a1 : Int32) (v_eq_variables : Int32) (c_eq_a : Nat → Nat → Int32) (c_eq_b : Nat → Int32) (_z0 : Int32) (_z1 : Int32) : Option ((Nat × Int32 × Int32) ⊕ (Int32)) := some (.inl (2, 0, 0))
noncomputable def fn_EQ_isLarge_b2 (a1 : Int32) (v_eq_variables : Int32) (c_eq_a : Nat → Nat → Int32) (c_eq_b : Nat → Int32) (x2i : Int32) (s0i : Int32) : Option ((Nat × Int32 × Int32) ⊕ (Int32)) := if (v_eq_variables : Int32) ≤ x2i then (if ¬ ((a1 : Int32) < 0 ∨ 4 ≤ (a1 : Int32).toNatClampNeg) then if ((if (0 : Int32) ≤ (c_eq_b (a1 : Int32).toNatClampNeg) then (c_eq_b (a1 : Int32).toNatClampNeg) else 0 - (c_eq_b (a1 : Int32).toNatClampNeg)) : Int32) ≤ 200 then (some (.inl (54, 0, 0))) else (some (.inl (54, 0, 1))) else none) else (if ¬ ((a1 : Int32) < 0 ∨ 4 ≤ (a1 : Int32).toNatClampNeg) then if ¬ ((x2i : Int32) < 0 ∨ 6 ≤ (x2i : Int32).toNatClampNeg) then if ((if (0 : Int32) ≤ (c_eq_a ((a1 : Int32).toNatClampNeg) (x2i : Int32).toNatClampNeg) then (c_eq_a ((a1 : Int32).toNatClampNeg) (x2i : Int32).toNatClampNeg) else 0 - (c_eq_a ((a1 : Int32).toNatClampNeg) (x2i : Int32).toNatClampNeg)) : Int32) ≤ 20 then (some (.inl (2, (x2i + 1), 0))) else (some (.inr 1)) else none else none)
noncomputable def fn_EQ_isLarge_b54 (a1 : Int32) (v_eq_variables : Int32) (c_eq_a : Nat → Nat → Int32) (c_eq_b : Nat → Int32) (x2i : Int32) (s0i : Int32) : Option ((Nat × Int32 × Int32) ⊕ (Int32)) := if ((s0i : Int32) = 0 ∨ (s0i : Int32) = 1) then some (.inr s0i) else none
noncomputable def fn_EQ_isLarge (a1 : Int32) (v_eq_variables : Int32) (c_eq_a : Nat → Nat → Int32) (c_eq_b : Nat → Int32) : Nat × Int32 × Int32 → Option ((Nat × Int32 × Int32) ⊕ (Int32)) := fun st => match st with
  | (pc, x2i, s0i) => if pc = 0 then fn_EQ_isLarge_b0 a1 v_eq_variables c_eq_a c_eq_b x2i s0i else if pc = 2 then fn_EQ_isLarge_b2 a1 v_eq_variables c_eq_a c_eq_b x2i s0i else if pc = 54 then fn_EQ_isLarge_b54 a1 v_eq_variables c_eq_a c_eq_b x2i s0i else none
theorem fn_EQ_isLarge_q0 (a1 : Int32) (v_eq_variables : Int32) (c_eq_a : Nat → Nat → Int32) (c_eq_b : Nat → Int32) (x2i : Int32) (s0i : Int32) : fn_EQ_isLarge a1 v_eq_variables c_eq_a c_eq_b (0, x2i, s0i) = fn_EQ_isLarge_b0 a1 v_eq_variables c_eq_a c_eq_b x2i s0i := by simp [fn_EQ_isLarge]
theorem fn_EQ_isLarge_q2 (a1 : Int32) (v_eq_variables : Int32) (c_eq_a : Nat → Nat → Int32) (c_eq_b : Nat → Int32) (x2i : Int32) (s0i : Int32) : fn_EQ_isLarge a1 v_eq_variables c_eq_a c_eq_b (2, x2i, s0i) = fn_EQ_isLarge_b2 a1 v_eq_variables c_eq_a c_eq_b x2i s0i := by simp [fn_EQ_isLarge]
theorem fn_EQ_isLarge_q54 (a1 : Int32) (v_eq_variables : Int32) (c_eq_a : Nat → Nat → Int32) (c_eq_b : Nat → Int32) (x2i : Int32) (s0i : Int32) : fn_EQ_isLarge a1 v_eq_variables c_eq_a c_eq_b (54, x2i, s0i) = fn_EQ_isLarge_b54 a1 v_eq_variables c_eq_a c_eq_b x2i s0i := by simp [fn_EQ_isLarge]
set_option maxHeartbeats 4000000 in
set_option maxRecDepth 100000 in
theorem c_EQ_isLarge (l : Launch) (dC : Nat → ClassId) (dI : Nat → Nat → Nat) (a_eq : Nat) (f_eq_a : Nat) (f_eq_b : Nat) (f_eq_letters : Nat) (f_eq_slackRows : Nat) (f_eq_slackNumbers : Nat) (v_eq_rows : Int32) (v_eq_variables : Int32) (v_eq_slacks : Int32) (k_eq_a : ClassId) (r_eq_a : Nat → Nat) (j_eq_a : ClassId) (c_eq_a : Nat → Nat → Int32) (k_eq_b : ClassId) (c_eq_b : Nat → Int32) (a1 : Int32) (sz : Nat) (out : Int32) (hs : sm_tot (fn_EQ_isLarge a1 v_eq_variables c_eq_a c_eq_b) (0, 0, 0) = some out) : Met l y_EQ_isLarge (Cond.code y_EQ_isLarge b_EQ_isLarge 3 (Option.some Jvm.ClassFile.FieldType.boolean) :: wd) { frames := 1, cells := 0, slots := 0, locals := 29 } (va_Pc [.ref a_eq, .int a1] (fun U => U.heap.size = sz ∧ va_P (dC, dI) cls [(a_eq, .inr (4, [.ref f_eq_a, .ref f_eq_b, .ref f_eq_letters, .ref f_eq_slackRows, .ref f_eq_slackNumbers, .int v_eq_rows, .int v_eq_variables, .int v_eq_slacks])), (f_eq_a, .inl (k_eq_a, 4, .inr (.inr (.inr (.inr (fun i9 => some (r_eq_a i9))))))), ((r_eq_a 0), .inl (j_eq_a, 6, .inl (c_eq_a 0))), ((r_eq_a 1), .inl (j_eq_a, 6, .inl (c_eq_a 1))), ((r_eq_a 2), .inl (j_eq_a, 6, .inl (c_eq_a 2))), ((r_eq_a 3), .inl (j_eq_a, 6, .inl (c_eq_a 3))), (f_eq_b, .inl (k_eq_b, 4, .inl c_eq_b))] U.heap ∧ va_K (dC, dI) cls [(k_eq_a, .array .int), (j_eq_a, .int), (k_eq_b, .int)] U ∧ va_D (fun _ => True) [(a_eq, .inr (4, [.ref f_eq_a, .ref f_eq_b, .ref f_eq_letters, .ref f_eq_slackRows, .ref f_eq_slackNumbers, .int v_eq_rows, .int v_eq_variables, .int v_eq_slacks])), (f_eq_a, .inl (k_eq_a, 4, .inr (.inr (.inr (.inr (fun i9 => some (r_eq_a i9))))))), ((r_eq_a 0), .inl (j_eq_a, 6, .inl (c_eq_a 0))), ((r_eq_a 1), .inl (j_eq_a, 6, .inl (c_eq_a 1))), ((r_eq_a 2), .inl (j_eq_a, 6, .inl (c_eq_a 2))), ((r_eq_a 3), .inl (j_eq_a, 6, .inl (c_eq_a 3))), (f_eq_b, .inl (k_eq_b, 4, .inl c_eq_b))] ∧ nw_ok U)) (va_Qi (fun r (_ : Unit) => r = out) (fun (_ : Unit) t => va_P (dC, dI) cls [(a_eq, .inr (4, [.ref f_eq_a, .ref f_eq_b, .ref f_eq_letters, .ref f_eq_slackRows, .ref f_eq_slackNumbers, .int v_eq_rows, .int v_eq_variables, .int v_eq_slacks])), (f_eq_a, .inl (k_eq_a, 4, .inr (.inr (.inr (.inr (fun i9 => some (r_eq_a i9))))))), ((r_eq_a 0), .inl (j_eq_a, 6, .inl (c_eq_a 0))), ((r_eq_a 1), .inl (j_eq_a, 6, .inl (c_eq_a 1))), ((r_eq_a 2), .inl (j_eq_a, 6, .inl (c_eq_a 2))), ((r_eq_a 3), .inl (j_eq_a, 6, .inl (c_eq_a 3))), (f_eq_b, .inl (k_eq_b, 4, .inl c_eq_b))] t.heap ∧ va_K (dC, dI) cls [(k_eq_a, .array .int), (j_eq_a, .int), (k_eq_b, .int)] t ∧ va_D (va_A [(a_eq, .inr (4, [.ref f_eq_a, .ref f_eq_b, .ref f_eq_letters, .ref f_eq_slackRows, .ref f_eq_slackNumbers, .int v_eq_rows, .int v_eq_variables, .int v_eq_slacks])), (f_eq_a, .inl (k_eq_a, 4, .inr (.inr (.inr (.inr (fun i9 => some (r_eq_a i9))))))), ((r_eq_a 0), .inl (j_eq_a, 6, .inl (c_eq_a 0))), ((r_eq_a 1), .inl (j_eq_a, 6, .inl (c_eq_a 1))), ((r_eq_a 2), .inl (j_eq_a, 6, .inl (c_eq_a 2))), ((r_eq_a 3), .inl (j_eq_a, 6, .inl (c_eq_a 3))), (f_eq_b, .inl (k_eq_b, 4, .inl c_eq_b))] sz) [(a_eq, .inr (4, [.ref f_eq_a, .ref f_eq_b, .ref f_eq_letters, .ref f_eq_slackRows, .ref f_eq_slackNumbers, .int v_eq_rows, .int v_eq_variables, .int v_eq_slacks])), (f_eq_a, .inl (k_eq_a, 4, .inr (.inr (.inr (.inr (fun i9 => some (r_eq_a i9))))))), ((r_eq_a 0), .inl (j_eq_a, 6, .inl (c_eq_a 0))), ((r_eq_a 1), .inl (j_eq_a, 6, .inl (c_eq_a 1))), ((r_eq_a 2), .inl (j_eq_a, 6, .inl (c_eq_a 2))), ((r_eq_a 3), .inl (j_eq_a, 6, .inl (c_eq_a 3))), (f_eq_b, .inl (k_eq_b, 4, .inl c_eq_b))]) (va_A [(a_eq, .inr (4, [.ref f_eq_a, .ref f_eq_b, .ref f_eq_letters, .ref f_eq_slackRows, .ref f_eq_slackNumbers, .int v_eq_rows, .int v_eq_variables, .int v_eq_slacks])), (f_eq_a, .inl (k_eq_a, 4, .inr (.inr (.inr (.inr (fun i9 => some (r_eq_a i9))))))), ((r_eq_a 0), .inl (j_eq_a, 6, .inl (c_eq_a 0))), ((r_eq_a 1), .inl (j_eq_a, 6, .inl (c_eq_a 1))), ((r_eq_a 2), .inl (j_eq_a, 6, .inl (c_eq_a 2))), ((r_eq_a 3), .inl (j_eq_a, 6, .inl (c_eq_a 3))), (f_eq_b, .inl (k_eq_b, 4, .inl c_eq_b))] sz)) 0 0 (va_A [(a_eq, .inr (4, [.ref f_eq_a, .ref f_eq_b, .ref f_eq_letters, .ref f_eq_slackRows, .ref f_eq_slackNumbers, .int v_eq_rows, .int v_eq_variables, .int v_eq_slacks])), (f_eq_a, .inl (k_eq_a, 4, .inr (.inr (.inr (.inr (fun i9 => some (r_eq_a i9))))))), ((r_eq_a 0), .inl (j_eq_a, 6, .inl (c_eq_a 0))), ((r_eq_a 1), .inl (j_eq_a, 6, .inl (c_eq_a 1))), ((r_eq_a 2), .inl (j_eq_a, 6, .inl (c_eq_a 2))), ((r_eq_a 3), .inl (j_eq_a, 6, .inl (c_eq_a 3))), (f_eq_b, .inl (k_eq_b, 4, .inl c_eq_b))] sz) := by
  refine Met.ofW (cc := b_EQ_isLarge) (maxL := 3) (ret := (Option.some Jvm.ClassFile.FieldType.boolean)) (by decide) rfl ?_
  intro p e s m args below meth c s₁ B hml hv
  obtain ⟨rfl, hsz, hP, hK, hD0, hN⟩ := hv
  have hx := B.exec
  have hb := B.bytes
  have hr := B.returns
  have hlocks := B.notSynchronized
  have hts : ∀ w ∈ wd, w.before ([.ref a_eq, .int a1] : List Value).toArray s = true := fun w hw => atoms_spec (ws := (Cond.code y_EQ_isLarge b_EQ_isLarge 3 (Option.some Jvm.ClassFile.FieldType.boolean) :: wd)) B.pre w (List.mem_cons_of_mem _ hw)
  have hown : s.vm.findClass "LeastSolutions$Equations" = some m.cls := findClass_of_methodNamed B.named
  subst hsz
  have hD := hD0.self (sz := s.heap.size)
  generalize hAe : va_A [(a_eq, .inr (4, [.ref f_eq_a, .ref f_eq_b, .ref f_eq_letters, .ref f_eq_slackRows, .ref f_eq_slackNumbers, .int v_eq_rows, .int v_eq_variables, .int v_eq_slacks])), (f_eq_a, .inl (k_eq_a, 4, .inr (.inr (.inr (.inr (fun i9 => some (r_eq_a i9))))))), ((r_eq_a 0), .inl (j_eq_a, 6, .inl (c_eq_a 0))), ((r_eq_a 1), .inl (j_eq_a, 6, .inl (c_eq_a 1))), ((r_eq_a 2), .inl (j_eq_a, 6, .inl (c_eq_a 2))), ((r_eq_a 3), .inl (j_eq_a, 6, .inl (c_eq_a 3))), (f_eq_b, .inl (k_eq_b, 4, .inl c_eq_b))] s.heap.size = A at hD ⊢
  have hA : ∀ q : Nat, s.heap.size ≤ q → A q := fun q h => by rw [← hAe]; exact Or.inr h
  have hS : va_S A s.heap s.heap [] := va_S.rf
  have hl := lv_entry ([.ref a_eq, .int a1]) (n := 3) (Nat.le_of_ble_eq_true rfl)
  rw [lg_entry_eq]
  generalize (lg_sl ([.ref a_eq, .int a1]) ++ List.replicate (3 - (lg_sl ([.ref a_eq, .int a1])).length) Slot.unset).toArray = ls at hl ⊢
  have hl : lv_has ls 3 [(0, .ref a_eq), (1, .int a1)] := hl
  obtain ⟨k8, hs⟩ := sm_of hs
  refine sm_key (fun R Q k9 => (∀ (H : Heap) (locs : List Loc) (ls : Array Slot) (x2i : Int32) (s0i : Int32), sm_it (fn_EQ_isLarge a1 v_eq_variables c_eq_a c_eq_b) k9 (2, x2i, s0i) = some out → va_P (dC, dI) cls [(a_eq, .inr (4, [.ref f_eq_a, .ref f_eq_b, .ref f_eq_letters, .ref f_eq_slackRows, .ref f_eq_slackNumbers, .int v_eq_rows, .int v_eq_variables, .int v_eq_slacks])), (f_eq_a, .inl (k_eq_a, 4, .inr (.inr (.inr (.inr (fun i9 => some (r_eq_a i9))))))), ((r_eq_a 0), .inl (j_eq_a, 6, .inl (c_eq_a 0))), ((r_eq_a 1), .inl (j_eq_a, 6, .inl (c_eq_a 1))), ((r_eq_a 2), .inl (j_eq_a, 6, .inl (c_eq_a 2))), ((r_eq_a 3), .inl (j_eq_a, 6, .inl (c_eq_a 3))), (f_eq_b, .inl (k_eq_b, 4, .inl c_eq_b))] H → va_D A [(a_eq, .inr (4, [.ref f_eq_a, .ref f_eq_b, .ref f_eq_letters, .ref f_eq_slackRows, .ref f_eq_slackNumbers, .int v_eq_rows, .int v_eq_variables, .int v_eq_slacks])), (f_eq_a, .inl (k_eq_a, 4, .inr (.inr (.inr (.inr (fun i9 => some (r_eq_a i9))))))), ((r_eq_a 0), .inl (j_eq_a, 6, .inl (c_eq_a 0))), ((r_eq_a 1), .inl (j_eq_a, 6, .inl (c_eq_a 1))), ((r_eq_a 2), .inl (j_eq_a, 6, .inl (c_eq_a 2))), ((r_eq_a 3), .inl (j_eq_a, 6, .inl (c_eq_a 3))), (f_eq_b, .inl (k_eq_b, 4, .inl c_eq_b))] → va_S A s.heap H locs → lv_has ls 3 [(0, .ref a_eq), (1, .int a1), (2, .int x2i)] → W p l e R s m ([.ref a_eq, .int a1] : List Value).toArray below meth c H locs 0 0 Q (F0 m 2 ls [])) ∧ (∀ (H : Heap) (locs : List Loc) (ls : Array Slot) (x2i : Int32) (s0i : Int32), sm_it (fn_EQ_isLarge a1 v_eq_variables c_eq_a c_eq_b) k9 (54, x2i, s0i) = some out → va_P (dC, dI) cls [(a_eq, .inr (4, [.ref f_eq_a, .ref f_eq_b, .ref f_eq_letters, .ref f_eq_slackRows, .ref f_eq_slackNumbers, .int v_eq_rows, .int v_eq_variables, .int v_eq_slacks])), (f_eq_a, .inl (k_eq_a, 4, .inr (.inr (.inr (.inr (fun i9 => some (r_eq_a i9))))))), ((r_eq_a 0), .inl (j_eq_a, 6, .inl (c_eq_a 0))), ((r_eq_a 1), .inl (j_eq_a, 6, .inl (c_eq_a 1))), ((r_eq_a 2), .inl (j_eq_a, 6, .inl (c_eq_a 2))), ((r_eq_a 3), .inl (j_eq_a, 6, .inl (c_eq_a 3))), (f_eq_b, .inl (k_eq_b, 4, .inl c_eq_b))] H → va_D A [(a_eq, .inr (4, [.ref f_eq_a, .ref f_eq_b, .ref f_eq_letters, .ref f_eq_slackRows, .ref f_eq_slackNumbers, .int v_eq_rows, .int v_eq_variables, .int v_eq_slacks])), (f_eq_a, .inl (k_eq_a, 4, .inr (.inr (.inr (.inr (fun i9 => some (r_eq_a i9))))))), ((r_eq_a 0), .inl (j_eq_a, 6, .inl (c_eq_a 0))), ((r_eq_a 1), .inl (j_eq_a, 6, .inl (c_eq_a 1))), ((r_eq_a 2), .inl (j_eq_a, 6, .inl (c_eq_a 2))), ((r_eq_a 3), .inl (j_eq_a, 6, .inl (c_eq_a 3))), (f_eq_b, .inl (k_eq_b, 4, .inl c_eq_b))] → va_S A s.heap H locs → lv_has ls 3 [] → W p l e R s m ([.ref a_eq, .int a1] : List Value).toArray below meth c H locs 0 0 Q (F0 m 54 ls [.int s0i]))) ?_ ?_ ?_
  · exact ⟨(fun _ _ _ _ _ hs => by cases hs), (fun _ _ _ _ _ hs => by cases hs)⟩
  · intro k9 ih
    refine ⟨?_, ?_⟩
    · intro H locs ls x2i s0i hs hP hD hS hl
      rw [sm_it_succ, fn_EQ_isLarge_q2] at hs
      unfold fn_EQ_isLarge_b2 at hs
      refine lv_iload_n hx hb d_EQ_isLarge_2 rfl (lv_at hl 2 rfl) ?_
      refine lv_aload_n hx hb d_EQ_isLarge_3 rfl (lv_at hl 0 rfl) ?_
      refine va_get (D := (dC, dI)) (ci := 4) (v := .int v_eq_variables) (C := R_EQ) (T := T_EQ) (N := 8) hx hb hts in_EQ hown hK hP 0 rfl rfl 6 (by decide) (hts _ k_113) (fun _ h9 => h9) rfl d_EQ_isLarge_4 ?_
      refine lv_icmp_ge (tgt := 34) hx hb d_EQ_isLarge_7 (by decide) (fun hc1 => ?_) (fun hc1 => ?_)
      · have hs := sm_pos hc1 hs
        refine lv_aload_n hx hb d_EQ_isLarge_34 rfl (lv_at hl 0 rfl) ?_
        refine va_get (D := (dC, dI)) (ci := 4) (v := .ref f_eq_b) (C := R_EQ) (T := T_EQ) (N := 8) hx hb hts in_EQ hown hK hP 0 rfl rfl 1 (by decide) (hts _ k_99) (fun _ h9 => h9) rfl d_EQ_isLarge_35 ?_
        refine lv_iload_n hx hb d_EQ_isLarge_38 rfl (lv_at hl 1 rfl) ?_
        obtain ⟨hg1, hs⟩ := sm_gd hs
        refine va_iald hx hb hK hP 6 2 rfl rfl hg1 d_EQ_isLarge_39 ?_
        refine va_mabs hx hb (hml.trans hl.1.symm) hown (hts _ k_458) (hts _ k_459) (hts _ k_12) (hts _ k_460) (Nat.le_of_ble_eq_true rfl) (Nat.le_of_ble_eq_true rfl) (Nat.le_of_ble_eq_true rfl) (Nat.le_of_ble_eq_true rfl) d_EQ_isLarge_40 ?_
        refine lv_sipush (v := 200) hx hb d_EQ_isLarge_43 (by decide) ?_
        refine lv_icmp_le (tgt := 53) hx hb d_EQ_isLarge_46 (by decide) (fun hc2 => ?_) (fun hc2 => ?_)
        · have hs := sm_pos hc2 hs
          refine lv_iconst (v := 0) hx hb d_EQ_isLarge_53 (by decide) ?_
          exact ih.2 _ _ _ _ _ hs hP hD hS (lv_sub hl [] rfl)
        · have hs := sm_neg hc2 hs
          refine lv_iconst (v := 1) hx hb d_EQ_isLarge_49 (by decide) ?_
          refine lv_goto (tgt := 54) hx hb d_EQ_isLarge_50 (by decide) ?_
          exact ih.2 _ _ _ _ _ hs hP hD hS (lv_sub hl [] rfl)
      · have hs := sm_neg hc1 hs
        refine lv_aload_n hx hb d_EQ_isLarge_10 rfl (lv_at hl 0 rfl) ?_
        refine va_get (D := (dC, dI)) (ci := 4) (v := .ref f_eq_a) (C := R_EQ) (T := T_EQ) (N := 8) hx hb hts in_EQ hown hK hP 0 rfl rfl 0 (by decide) (hts _ k_94) (fun _ h9 => h9) rfl d_EQ_isLarge_11 ?_
        refine lv_iload_n hx hb d_EQ_isLarge_14 rfl (lv_at hl 1 rfl) ?_
        obtain ⟨hg2, hs⟩ := sm_gd hs
        refine ro_ald (Ra := r_eq_a) (k := (a1 : Int32).toNatClampNeg) hx hb hK hP 1 0 rfl rfl rfl rfl hg2 d_EQ_isLarge_15 ?_
        refine lv_iload_n hx hb d_EQ_isLarge_16 rfl (lv_at hl 2 rfl) ?_
        obtain ⟨hg3, hs⟩ := sm_gd hs
        refine va_iald hx hb hK hP (2 + (a1 : Int32).toNatClampNeg) 1 (ro4 (P := fun i9 => ([(a_eq, .inr (4, [.ref f_eq_a, .ref f_eq_b, .ref f_eq_letters, .ref f_eq_slackRows, .ref f_eq_slackNumbers, .int v_eq_rows, .int v_eq_variables, .int v_eq_slacks])), (f_eq_a, .inl (k_eq_a, 4, .inr (.inr (.inr (.inr (fun i9 => some (r_eq_a i9))))))), ((r_eq_a 0), .inl (j_eq_a, 6, .inl (c_eq_a 0))), ((r_eq_a 1), .inl (j_eq_a, 6, .inl (c_eq_a 1))), ((r_eq_a 2), .inl (j_eq_a, 6, .inl (c_eq_a 2))), ((r_eq_a 3), .inl (j_eq_a, 6, .inl (c_eq_a 3))), (f_eq_b, .inl (k_eq_b, 4, .inl c_eq_b))] : va_W)[2 + i9]? = some ((r_eq_a i9), .inl (j_eq_a, 6, .inl (c_eq_a i9)))) rfl rfl rfl rfl (ro_lt hg2)) rfl hg3 d_EQ_isLarge_17 ?_
        refine va_mabs hx hb (hml.trans hl.1.symm) hown (hts _ k_458) (hts _ k_459) (hts _ k_12) (hts _ k_460) (Nat.le_of_ble_eq_true rfl) (Nat.le_of_ble_eq_true rfl) (Nat.le_of_ble_eq_true rfl) (Nat.le_of_ble_eq_true rfl) d_EQ_isLarge_18 ?_
        refine lv_bipush (v := 20) hx hb d_EQ_isLarge_21 (by decide) ?_
        refine lv_icmp_le (tgt := 28) hx hb d_EQ_isLarge_23 (by decide) (fun hc3 => ?_) (fun hc3 => ?_)
        · have hs := sm_pos hc3 hs
          refine lv_iinc (k := 2) (v := (x2i + 1)) hx hb d_EQ_isLarge_28 hl rfl (congrArg (fun z : Int32 => x2i + z) (by decide : Int32.ofInt 1 = 1)) (by decide) rfl (fun ls hl => ?_)
          have hl : lv_has ls 3 [(2, .int (x2i + 1)), (0, .ref a_eq), (1, .int a1)] := hl
          refine lv_goto (tgt := 2) hx hb d_EQ_isLarge_31 (by decide) ?_
          exact ih.1 _ _ _ _ _ hs hP hD hS (lv_sub hl [1, 2, 0] rfl)
        · have hs := sm_neg hc3 hs
          refine lv_iconst (v := 1) hx hb d_EQ_isLarge_26 (by decide) ?_
          have he := sm_end hs
          subst he
          exact W.zret (v := 1) (ty := .boolean) hx hb hr (by decide +kernel) (fun t ht hW => ⟨⟨1, (), rfl, rfl, by rw [ht]; exact hP, va_K.moved hW.alike hK, hD⟩, hS.F ht⟩) hS.2.2 d_EQ_isLarge_27
    · intro H locs ls x2i s0i hs hP hD hS hl
      rw [sm_it_succ, fn_EQ_isLarge_q54] at hs
      unfold fn_EQ_isLarge_b54 at hs
      obtain ⟨hg1, hs⟩ := sm_gd hs
      have he := sm_end hs
      subst he
      exact W.zret (v := s0i) (ty := .boolean) hx hb hr (by rcases hg1 with h9 | h9 <;> rw [h9] <;> rfl) (fun t ht hW => ⟨⟨s0i, (), rfl, rfl, by rw [ht]; exact hP, va_K.moved hW.alike hK, hD⟩, hS.F ht⟩) hS.2.2 d_EQ_isLarge_54
  · intro key
    cases k8 with
    | zero => cases hs
    | succ k9 =>
      rw [sm_it_succ, fn_EQ_isLarge_q0] at hs
      unfold fn_EQ_isLarge_b0 at hs
      refine lv_iconst (v := 0) hx hb d_EQ_isLarge_0 (by decide) ?_
      refine lv_istore_n hx hb d_EQ_isLarge_1 rfl hl (by decide) rfl (fun ls hl => ?_)
      have hl : lv_has ls 3 [(2, .int 0), (0, .ref a_eq), (1, .int a1)] := hl
      exact (key k9).1 _ _ _ _ _ hs hP hD hS (lv_sub hl [1, 2, 0] rfl)

noncomputable def fn_EQ_solvedBy_b0 (a2 : Int32) (v_eq_rows : Int32) (v_eq_variables : Int32) (v_eq_slacks : Int32) (c_eq_a : Nat → Nat → Int32) (c_eq_b : Nat → Int32) (c_o1 : Nat → Int32) (_z0 : Int32) (_z1 : Int32) (_z2 : Int32) (_z3 : Int32) : Option ((Nat × Int32 × Int32 × Int32 × Int32) ⊕ (Int32)) := some (.inl (2, 0, 0, 0, 0))
noncomputable def fn_EQ_solvedBy_b2 (a2 : Int32) (v_eq_rows : Int32) (v_eq_variables : Int32) (v_eq_slacks : Int32) (c_eq_a : Nat → Nat → Int32) (c_eq_b : Nat → Int32) (c_o1 : Nat → Int32) (x3i : Int32) (x4i : Int32) (x5i : Int32) (s0i : Int32) : Option ((Nat × Int32 × Int32 × Int32 × Int32) ⊕ (Int32)) := if (v_eq_rows : Int32) ≤ x3i then (some (.inr 1)) else (if (a2 : Int32) = 0 then (if ¬ ((x3i : Int32) < 0 ∨ 4 ≤ (x3i : Int32).toNatClampNeg) then some (.inl (25, x3i, 0, 0, (-(c_eq_b (x3i : Int32).toNatClampNeg)))) else none) else (some (.inl (25, x3i, 0, 0, 0))))
noncomputable def fn_EQ_solvedBy_b25 (a2 : Int32) (v_eq_rows : Int32) (v_eq_variables : Int32) (v_eq_slacks : Int32) (c_eq_a : Nat → Nat → Int32) (c_eq_b : Nat → Int32) (c_o1 : Nat → Int32) (x3i : Int32) (x4i : Int32) (x5i : Int32) (s0i : Int32) : Option ((Nat × Int32 × Int32 × Int32 × Int32) ⊕ (Int32)) := some (.inl (30, x3i, s0i, 0, 0))
noncomputable def fn_EQ_solvedBy_b30 (a2 : Int32) (v_eq_rows : Int32) (v_eq_variables : Int32) (v_eq_slacks : Int32) (c_eq_a : Nat → Nat → Int32) (c_eq_b : Nat → Int32) (c_o1 : Nat → Int32) (x3i : Int32) (x4i : Int32) (x5i : Int32) (s0i : Int32) : Option ((Nat × Int32 × Int32 × Int32 × Int32) ⊕ (Int32)) := (sm_tot (fn_EQ_columns v_eq_variables v_eq_slacks) 0).bind (fun r1 => if (r1 : Int32) ≤ x5i then (if (x4i : Int32) = 0 then (some (.inl (2, (x3i + 1), 0, 0, 0))) else (some (.inr 0))) else (if ¬ ((x3i : Int32) < 0 ∨ 4 ≤ (x3i : Int32).toNatClampNeg) then if ¬ ((x5i : Int32) < 0 ∨ 6 ≤ (x5i : Int32).toNatClampNeg) then some (.inl (30, x3i, (x4i + ((c_eq_a ((x3i : Int32).toNatClampNeg) (x5i : Int32).toNatClampNeg) * (c_o1 (x5i : Int32).toNatClampNeg))), (x5i + 1), 0)) else none else none))
noncomputable def fn_EQ_solvedBy (a2 : Int32) (v_eq_rows : Int32) (v_eq_variables : Int32) (v_eq_slacks : Int32) (c_eq_a : Nat → Nat → Int32) (c_eq_b : Nat → Int32) (c_o1 : Nat → Int32) : Nat × Int32 × Int32 × Int32 × Int32 → Option ((Nat × Int32 × Int32 × Int32 × Int32) ⊕ (Int32)) := fun st => match st with
  | (pc, x3i, x4i, x5i, s0i) => if pc = 0 then fn_EQ_solvedBy_b0 a2 v_eq_rows v_eq_variables v_eq_slacks c_eq_a c_eq_b c_o1 x3i x4i x5i s0i else if pc = 2 then fn_EQ_solvedBy_b2 a2 v_eq_rows v_eq_variables v_eq_slacks c_eq_a c_eq_b c_o1 x3i x4i x5i s0i else if pc = 25 then fn_EQ_solvedBy_b25 a2 v_eq_rows v_eq_variables v_eq_slacks c_eq_a c_eq_b c_o1 x3i x4i x5i s0i else if pc = 30 then fn_EQ_solvedBy_b30 a2 v_eq_rows v_eq_variables v_eq_slacks c_eq_a c_eq_b c_o1 x3i x4i x5i s0i else none
theorem fn_EQ_solvedBy_q0 (a2 : Int32) (v_eq_rows : Int32) (v_eq_variables : Int32) (v_eq_slacks : Int32) (c_eq_a : Nat → Nat → Int32) (c_eq_b : Nat → Int32) (c_o1 : Nat → Int32) (x3i : Int32) (x4i : Int32) (x5i : Int32) (s0i : Int32) : fn_EQ_solvedBy a2 v_eq_rows v_eq_variables v_eq_slacks c_eq_a c_eq_b c_o1 (0, x3i, x4i, x5i, s0i) = fn_EQ_solvedBy_b0 a2 v_eq_rows v_eq_variables v_eq_slacks c_eq_a c_eq_b c_o1 x3i x4i x5i s0i := by simp [fn_EQ_solvedBy]
theorem fn_EQ_solvedBy_q2 (a2 : Int32) (v_eq_rows : Int32) (v_eq_variables : Int32) (v_eq_slacks : Int32) (c_eq_a : Nat → Nat → Int32) (c_eq_b : Nat → Int32) (c_o1 : Nat → Int32) (x3i : Int32) (x4i : Int32) (x5i : Int32) (s0i : Int32) : fn_EQ_solvedBy a2 v_eq_rows v_eq_variables v_eq_slacks c_eq_a c_eq_b c_o1 (2, x3i, x4i, x5i, s0i) = fn_EQ_solvedBy_b2 a2 v_eq_rows v_eq_variables v_eq_slacks c_eq_a c_eq_b c_o1 x3i x4i x5i s0i := by simp [fn_EQ_solvedBy]
theorem fn_EQ_solvedBy_q25 (a2 : Int32) (v_eq_rows : Int32) (v_eq_variables : Int32) (v_eq_slacks : Int32) (c_eq_a : Nat → Nat → Int32) (c_eq_b : Nat → Int32) (c_o1 : Nat → Int32) (x3i : Int32) (x4i : Int32) (x5i : Int32) (s0i : Int32) : fn_EQ_solvedBy a2 v_eq_rows v_eq_variables v_eq_slacks c_eq_a c_eq_b c_o1 (25, x3i, x4i, x5i, s0i) = fn_EQ_solvedBy_b25 a2 v_eq_rows v_eq_variables v_eq_slacks c_eq_a c_eq_b c_o1 x3i x4i x5i s0i := by simp [fn_EQ_solvedBy]
theorem fn_EQ_solvedBy_q30 (a2 : Int32) (v_eq_rows : Int32) (v_eq_variables : Int32) (v_eq_slacks : Int32) (c_eq_a : Nat → Nat → Int32) (c_eq_b : Nat → Int32) (c_o1 : Nat → Int32) (x3i : Int32) (x4i : Int32) (x5i : Int32) (s0i : Int32) : fn_EQ_solvedBy a2 v_eq_rows v_eq_variables v_eq_slacks c_eq_a c_eq_b c_o1 (30, x3i, x4i, x5i, s0i) = fn_EQ_solvedBy_b30 a2 v_eq_rows v_eq_variables v_eq_slacks c_eq_a c_eq_b c_o1 x3i x4i x5i s0i := by simp [fn_EQ_solvedBy]
set_option maxHeartbeats 4000000 in
set_option maxRecDepth 100000 in
theorem c_EQ_solvedBy (l : Launch) (dC : Nat → ClassId) (dI : Nat → Nat → Nat) (a_eq : Nat) (f_eq_a : Nat) (f_eq_b : Nat) (f_eq_letters : Nat) (f_eq_slackRows : Nat) (f_eq_slackNumbers : Nat) (v_eq_rows : Int32) (v_eq_variables : Int32) (v_eq_slacks : Int32) (k_eq_a : ClassId) (r_eq_a : Nat → Nat) (j_eq_a : ClassId) (c_eq_a : Nat → Nat → Int32) (k_eq_b : ClassId) (c_eq_b : Nat → Int32) (f_o1 : Nat) (k_o1 : ClassId) (c_o1 : Nat → Int32) (a2 : Int32) (sz : Nat) (out : Int32) (hs : sm_tot (fn_EQ_solvedBy a2 v_eq_rows v_eq_variables v_eq_slacks c_eq_a c_eq_b c_o1) (0, 0, 0, 0, 0) = some out) : Met l y_EQ_solvedBy (Cond.code y_EQ_solvedBy b_EQ_solvedBy 6 (Option.some Jvm.ClassFile.FieldType.boolean) :: wd) { frames := 1, cells := 0, slots := 0, locals := 20 } (va_Pc [.ref a_eq, .ref f_o1, .int a2] (fun U => U.heap.size = sz ∧ va_P (dC, dI) cls [(a_eq, .inr (4, [.ref f_eq_a, .ref f_eq_b, .ref f_eq_letters, .ref f_eq_slackRows, .ref f_eq_slackNumbers, .int v_eq_rows, .int v_eq_variables, .int v_eq_slacks])), (f_eq_a, .inl (k_eq_a, 4, .inr (.inr (.inr (.inr (fun i9 => some (r_eq_a i9))))))), ((r_eq_a 0), .inl (j_eq_a, 6, .inl (c_eq_a 0))), ((r_eq_a 1), .inl (j_eq_a, 6, .inl (c_eq_a 1))), ((r_eq_a 2), .inl (j_eq_a, 6, .inl (c_eq_a 2))), ((r_eq_a 3), .inl (j_eq_a, 6, .inl (c_eq_a 3))), (f_eq_b, .inl (k_eq_b, 4, .inl c_eq_b)), (f_o1, .inl (k_o1, 6, .inl c_o1))] U.heap ∧ va_K (dC, dI) cls [(k_eq_a, .array .int), (j_eq_a, .int), (k_eq_b, .int), (k_o1, .int)] U ∧ va_D (fun _ => True) [(a_eq, .inr (4, [.ref f_eq_a, .ref f_eq_b, .ref f_eq_letters, .ref f_eq_slackRows, .ref f_eq_slackNumbers, .int v_eq_rows, .int v_eq_variables, .int v_eq_slacks])), (f_eq_a, .inl (k_eq_a, 4, .inr (.inr (.inr (.inr (fun i9 => some (r_eq_a i9))))))), ((r_eq_a 0), .inl (j_eq_a, 6, .inl (c_eq_a 0))), ((r_eq_a 1), .inl (j_eq_a, 6, .inl (c_eq_a 1))), ((r_eq_a 2), .inl (j_eq_a, 6, .inl (c_eq_a 2))), ((r_eq_a 3), .inl (j_eq_a, 6, .inl (c_eq_a 3))), (f_eq_b, .inl (k_eq_b, 4, .inl c_eq_b)), (f_o1, .inl (k_o1, 6, .inl c_o1))] ∧ nw_ok U)) (va_Qi (fun r (_ : Unit) => r = out) (fun (_ : Unit) t => va_P (dC, dI) cls [(a_eq, .inr (4, [.ref f_eq_a, .ref f_eq_b, .ref f_eq_letters, .ref f_eq_slackRows, .ref f_eq_slackNumbers, .int v_eq_rows, .int v_eq_variables, .int v_eq_slacks])), (f_eq_a, .inl (k_eq_a, 4, .inr (.inr (.inr (.inr (fun i9 => some (r_eq_a i9))))))), ((r_eq_a 0), .inl (j_eq_a, 6, .inl (c_eq_a 0))), ((r_eq_a 1), .inl (j_eq_a, 6, .inl (c_eq_a 1))), ((r_eq_a 2), .inl (j_eq_a, 6, .inl (c_eq_a 2))), ((r_eq_a 3), .inl (j_eq_a, 6, .inl (c_eq_a 3))), (f_eq_b, .inl (k_eq_b, 4, .inl c_eq_b)), (f_o1, .inl (k_o1, 6, .inl c_o1))] t.heap ∧ va_K (dC, dI) cls [(k_eq_a, .array .int), (j_eq_a, .int), (k_eq_b, .int), (k_o1, .int)] t ∧ va_D (va_A [(a_eq, .inr (4, [.ref f_eq_a, .ref f_eq_b, .ref f_eq_letters, .ref f_eq_slackRows, .ref f_eq_slackNumbers, .int v_eq_rows, .int v_eq_variables, .int v_eq_slacks])), (f_eq_a, .inl (k_eq_a, 4, .inr (.inr (.inr (.inr (fun i9 => some (r_eq_a i9))))))), ((r_eq_a 0), .inl (j_eq_a, 6, .inl (c_eq_a 0))), ((r_eq_a 1), .inl (j_eq_a, 6, .inl (c_eq_a 1))), ((r_eq_a 2), .inl (j_eq_a, 6, .inl (c_eq_a 2))), ((r_eq_a 3), .inl (j_eq_a, 6, .inl (c_eq_a 3))), (f_eq_b, .inl (k_eq_b, 4, .inl c_eq_b)), (f_o1, .inl (k_o1, 6, .inl c_o1))] sz) [(a_eq, .inr (4, [.ref f_eq_a, .ref f_eq_b, .ref f_eq_letters, .ref f_eq_slackRows, .ref f_eq_slackNumbers, .int v_eq_rows, .int v_eq_variables, .int v_eq_slacks])), (f_eq_a, .inl (k_eq_a, 4, .inr (.inr (.inr (.inr (fun i9 => some (r_eq_a i9))))))), ((r_eq_a 0), .inl (j_eq_a, 6, .inl (c_eq_a 0))), ((r_eq_a 1), .inl (j_eq_a, 6, .inl (c_eq_a 1))), ((r_eq_a 2), .inl (j_eq_a, 6, .inl (c_eq_a 2))), ((r_eq_a 3), .inl (j_eq_a, 6, .inl (c_eq_a 3))), (f_eq_b, .inl (k_eq_b, 4, .inl c_eq_b)), (f_o1, .inl (k_o1, 6, .inl c_o1))]) (va_A [(a_eq, .inr (4, [.ref f_eq_a, .ref f_eq_b, .ref f_eq_letters, .ref f_eq_slackRows, .ref f_eq_slackNumbers, .int v_eq_rows, .int v_eq_variables, .int v_eq_slacks])), (f_eq_a, .inl (k_eq_a, 4, .inr (.inr (.inr (.inr (fun i9 => some (r_eq_a i9))))))), ((r_eq_a 0), .inl (j_eq_a, 6, .inl (c_eq_a 0))), ((r_eq_a 1), .inl (j_eq_a, 6, .inl (c_eq_a 1))), ((r_eq_a 2), .inl (j_eq_a, 6, .inl (c_eq_a 2))), ((r_eq_a 3), .inl (j_eq_a, 6, .inl (c_eq_a 3))), (f_eq_b, .inl (k_eq_b, 4, .inl c_eq_b)), (f_o1, .inl (k_o1, 6, .inl c_o1))] sz)) 0 0 (va_A [(a_eq, .inr (4, [.ref f_eq_a, .ref f_eq_b, .ref f_eq_letters, .ref f_eq_slackRows, .ref f_eq_slackNumbers, .int v_eq_rows, .int v_eq_variables, .int v_eq_slacks])), (f_eq_a, .inl (k_eq_a, 4, .inr (.inr (.inr (.inr (fun i9 => some (r_eq_a i9))))))), ((r_eq_a 0), .inl (j_eq_a, 6, .inl (c_eq_a 0))), ((r_eq_a 1), .inl (j_eq_a, 6, .inl (c_eq_a 1))), ((r_eq_a 2), .inl (j_eq_a, 6, .inl (c_eq_a 2))), ((r_eq_a 3), .inl (j_eq_a, 6, .inl (c_eq_a 3))), (f_eq_b, .inl (k_eq_b, 4, .inl c_eq_b)), (f_o1, .inl (k_o1, 6, .inl c_o1))] sz) := by
  refine Met.ofW (cc := b_EQ_solvedBy) (maxL := 6) (ret := (Option.some Jvm.ClassFile.FieldType.boolean)) (by decide) rfl ?_
  intro p e s m args below meth c s₁ B hml hv
  obtain ⟨rfl, hsz, hP, hK, hD0, hN⟩ := hv
  have hx := B.exec
  have hb := B.bytes
  have hr := B.returns
  have hlocks := B.notSynchronized
  have hts : ∀ w ∈ wd, w.before ([.ref a_eq, .ref f_o1, .int a2] : List Value).toArray s = true := fun w hw => atoms_spec (ws := (Cond.code y_EQ_solvedBy b_EQ_solvedBy 6 (Option.some Jvm.ClassFile.FieldType.boolean) :: wd)) B.pre w (List.mem_cons_of_mem _ hw)
  have hown : s.vm.findClass "LeastSolutions$Equations" = some m.cls := findClass_of_methodNamed B.named
  subst hsz
  have hD := hD0.self (sz := s.heap.size)
  generalize hAe : va_A [(a_eq, .inr (4, [.ref f_eq_a, .ref f_eq_b, .ref f_eq_letters, .ref f_eq_slackRows, .ref f_eq_slackNumbers, .int v_eq_rows, .int v_eq_variables, .int v_eq_slacks])), (f_eq_a, .inl (k_eq_a, 4, .inr (.inr (.inr (.inr (fun i9 => some (r_eq_a i9))))))), ((r_eq_a 0), .inl (j_eq_a, 6, .inl (c_eq_a 0))), ((r_eq_a 1), .inl (j_eq_a, 6, .inl (c_eq_a 1))), ((r_eq_a 2), .inl (j_eq_a, 6, .inl (c_eq_a 2))), ((r_eq_a 3), .inl (j_eq_a, 6, .inl (c_eq_a 3))), (f_eq_b, .inl (k_eq_b, 4, .inl c_eq_b)), (f_o1, .inl (k_o1, 6, .inl c_o1))] s.heap.size = A at hD ⊢
  have hA : ∀ q : Nat, s.heap.size ≤ q → A q := fun q h => by rw [← hAe]; exact Or.inr h
  have hS : va_S A s.heap s.heap [] := va_S.rf
  have hl := lv_entry ([.ref a_eq, .ref f_o1, .int a2]) (n := 6) (Nat.le_of_ble_eq_true rfl)
  rw [lg_entry_eq]
  generalize (lg_sl ([.ref a_eq, .ref f_o1, .int a2]) ++ List.replicate (6 - (lg_sl ([.ref a_eq, .ref f_o1, .int a2])).length) Slot.unset).toArray = ls at hl ⊢
  have hl : lv_has ls 6 [(0, .ref a_eq), (1, .ref f_o1), (2, .int a2)] := hl
  obtain ⟨k8, hs⟩ := sm_of hs
  refine sm_key (fun R Q k9 => (∀ (H : Heap) (locs : List Loc) (ls : Array Slot) (x3i : Int32) (x4i : Int32) (x5i : Int32) (s0i : Int32), sm_it (fn_EQ_solvedBy a2 v_eq_rows v_eq_variables v_eq_slacks c_eq_a c_eq_b c_o1) k9 (2, x3i, x4i, x5i, s0i) = some out → va_P (dC, dI) cls [(a_eq, .inr (4, [.ref f_eq_a, .ref f_eq_b, .ref f_eq_letters, .ref f_eq_slackRows, .ref f_eq_slackNumbers, .int v_eq_rows, .int v_eq_variables, .int v_eq_slacks])), (f_eq_a, .inl (k_eq_a, 4, .inr (.inr (.inr (.inr (fun i9 => some (r_eq_a i9))))))), ((r_eq_a 0), .inl (j_eq_a, 6, .inl (c_eq_a 0))), ((r_eq_a 1), .inl (j_eq_a, 6, .inl (c_eq_a 1))), ((r_eq_a 2), .inl (j_eq_a, 6, .inl (c_eq_a 2))), ((r_eq_a 3), .inl (j_eq_a, 6, .inl (c_eq_a 3))), (f_eq_b, .inl (k_eq_b, 4, .inl c_eq_b)), (f_o1, .inl (k_o1, 6, .inl c_o1))] H → va_D A [(a_eq, .inr (4, [.ref f_eq_a, .ref f_eq_b, .ref f_eq_letters, .ref f_eq_slackRows, .ref f_eq_slackNumbers, .int v_eq_rows, .int v_eq_variables, .int v_eq_slacks])), (f_eq_a, .inl (k_eq_a, 4, .inr (.inr (.inr (.inr (fun i9 => some (r_eq_a i9))))))), ((r_eq_a 0), .inl (j_eq_a, 6, .inl (c_eq_a 0))), ((r_eq_a 1), .inl (j_eq_a, 6, .inl (c_eq_a 1))), ((r_eq_a 2), .inl (j_eq_a, 6, .inl (c_eq_a 2))), ((r_eq_a 3), .inl (j_eq_a, 6, .inl (c_eq_a 3))), (f_eq_b, .inl (k_eq_b, 4, .inl c_eq_b)), (f_o1, .inl (k_o1, 6, .inl c_o1))] → va_S A s.heap H locs → lv_has ls 6 [(0, .ref a_eq), (1, .ref f_o1), (2, .int a2), (3, .int x3i)] → W p l e R s m ([.ref a_eq, .ref f_o1, .int a2] : List Value).toArray below meth c H locs 0 0 Q (F0 m 2 ls [])) ∧ (∀ (H : Heap) (locs : List Loc) (ls : Array Slot) (x3i : Int32) (x4i : Int32) (x5i : Int32) (s0i : Int32), sm_it (fn_EQ_solvedBy a2 v_eq_rows v_eq_variables v_eq_slacks c_eq_a c_eq_b c_o1) k9 (25, x3i, x4i, x5i, s0i) = some out → va_P (dC, dI) cls [(a_eq, .inr (4, [.ref f_eq_a, .ref f_eq_b, .ref f_eq_letters, .ref f_eq_slackRows, .ref f_eq_slackNumbers, .int v_eq_rows, .int v_eq_variables, .int v_eq_slacks])), (f_eq_a, .inl (k_eq_a, 4, .inr (.inr (.inr (.inr (fun i9 => some (r_eq_a i9))))))), ((r_eq_a 0), .inl (j_eq_a, 6, .inl (c_eq_a 0))), ((r_eq_a 1), .inl (j_eq_a, 6, .inl (c_eq_a 1))), ((r_eq_a 2), .inl (j_eq_a, 6, .inl (c_eq_a 2))), ((r_eq_a 3), .inl (j_eq_a, 6, .inl (c_eq_a 3))), (f_eq_b, .inl (k_eq_b, 4, .inl c_eq_b)), (f_o1, .inl (k_o1, 6, .inl c_o1))] H → va_D A [(a_eq, .inr (4, [.ref f_eq_a, .ref f_eq_b, .ref f_eq_letters, .ref f_eq_slackRows, .ref f_eq_slackNumbers, .int v_eq_rows, .int v_eq_variables, .int v_eq_slacks])), (f_eq_a, .inl (k_eq_a, 4, .inr (.inr (.inr (.inr (fun i9 => some (r_eq_a i9))))))), ((r_eq_a 0), .inl (j_eq_a, 6, .inl (c_eq_a 0))), ((r_eq_a 1), .inl (j_eq_a, 6, .inl (c_eq_a 1))), ((r_eq_a 2), .inl (j_eq_a, 6, .inl (c_eq_a 2))), ((r_eq_a 3), .inl (j_eq_a, 6, .inl (c_eq_a 3))), (f_eq_b, .inl (k_eq_b, 4, .inl c_eq_b)), (f_o1, .inl (k_o1, 6, .inl c_o1))] → va_S A s.heap H locs → lv_has ls 6 [(0, .ref a_eq), (1, .ref f_o1), (2, .int a2), (3, .int x3i)] → W p l e R s m ([.ref a_eq, .ref f_o1, .int a2] : List Value).toArray below meth c H locs 0 0 Q (F0 m 25 ls [.int s0i])) ∧ (∀ (H : Heap) (locs : List Loc) (ls : Array Slot) (x3i : Int32) (x4i : Int32) (x5i : Int32) (s0i : Int32), sm_it (fn_EQ_solvedBy a2 v_eq_rows v_eq_variables v_eq_slacks c_eq_a c_eq_b c_o1) k9 (30, x3i, x4i, x5i, s0i) = some out → va_P (dC, dI) cls [(a_eq, .inr (4, [.ref f_eq_a, .ref f_eq_b, .ref f_eq_letters, .ref f_eq_slackRows, .ref f_eq_slackNumbers, .int v_eq_rows, .int v_eq_variables, .int v_eq_slacks])), (f_eq_a, .inl (k_eq_a, 4, .inr (.inr (.inr (.inr (fun i9 => some (r_eq_a i9))))))), ((r_eq_a 0), .inl (j_eq_a, 6, .inl (c_eq_a 0))), ((r_eq_a 1), .inl (j_eq_a, 6, .inl (c_eq_a 1))), ((r_eq_a 2), .inl (j_eq_a, 6, .inl (c_eq_a 2))), ((r_eq_a 3), .inl (j_eq_a, 6, .inl (c_eq_a 3))), (f_eq_b, .inl (k_eq_b, 4, .inl c_eq_b)), (f_o1, .inl (k_o1, 6, .inl c_o1))] H → va_D A [(a_eq, .inr (4, [.ref f_eq_a, .ref f_eq_b, .ref f_eq_letters, .ref f_eq_slackRows, .ref f_eq_slackNumbers, .int v_eq_rows, .int v_eq_variables, .int v_eq_slacks])), (f_eq_a, .inl (k_eq_a, 4, .inr (.inr (.inr (.inr (fun i9 => some (r_eq_a i9))))))), ((r_eq_a 0), .inl (j_eq_a, 6, .inl (c_eq_a 0))), ((r_eq_a 1), .inl (j_eq_a, 6, .inl (c_eq_a 1))), ((r_eq_a 2), .inl (j_eq_a, 6, .inl (c_eq_a 2))), ((r_eq_a 3), .inl (j_eq_a, 6, .inl (c_eq_a 3))), (f_eq_b, .inl (k_eq_b, 4, .inl c_eq_b)), (f_o1, .inl (k_o1, 6, .inl c_o1))] → va_S A s.heap H locs → lv_has ls 6 [(0, .ref a_eq), (1, .ref f_o1), (2, .int a2), (3, .int x3i), (4, .int x4i), (5, .int x5i)] → W p l e R s m ([.ref a_eq, .ref f_o1, .int a2] : List Value).toArray below meth c H locs 0 0 Q (F0 m 30 ls []))) ?_ ?_ ?_
  · exact ⟨(fun _ _ _ _ _ _ _ hs => by cases hs), (fun _ _ _ _ _ _ _ hs => by cases hs), (fun _ _ _ _ _ _ _ hs => by cases hs)⟩
  · intro k9 ih
    refine ⟨?_, ?_, ?_⟩
    · intro H locs ls x3i x4i x5i s0i hs hP hD hS hl
      rw [sm_it_succ, fn_EQ_solvedBy_q2] at hs
      unfold fn_EQ_solvedBy_b2 at hs
      refine lv_iload_n hx hb d_EQ_solvedBy_2 rfl (lv_at hl 3 rfl) ?_
      refine lv_aload_n hx hb d_EQ_solvedBy_3 rfl (lv_at hl 0 rfl) ?_
      refine va_get (D := (dC, dI)) (ci := 4) (v := .int v_eq_rows) (C := R_EQ) (T := T_EQ) (N := 8) hx hb hts in_EQ hown hK hP 0 rfl rfl 5 (by decide) (hts _ k_108) (fun _ h9 => h9) rfl d_EQ_solvedBy_4 ?_
      refine lv_icmp_ge (tgt := 77) hx hb d_EQ_solvedBy_7 (by decide) (fun hc1 => ?_) (fun hc1 => ?_)
      · have hs := sm_pos hc1 hs
        refine lv_iconst (v := 1) hx hb d_EQ_solvedBy_77 (by decide) ?_
        have he := sm_end hs
        subst he
        exact W.zret (v := 1) (ty := .boolean) hx hb hr (by decide +kernel) (fun t ht hW => ⟨⟨1, (), rfl, rfl, by rw [ht]; exact hP, va_K.moved hW.alike hK, hD⟩, hS.F ht⟩) hS.2.2 d_EQ_solvedBy_78
      · have hs := sm_neg hc1 hs
        refine lv_iload_n hx hb d_EQ_solvedBy_10 rfl (lv_at hl 2 rfl) ?_
        refine lv_if_eq (tgt := 18) hx hb d_EQ_solvedBy_11 (by decide) (fun hc2 => ?_) (fun hc2 => ?_)
        · have hs := sm_pos hc2 hs
          refine lv_aload_n hx hb d_EQ_solvedBy_18 rfl (lv_at hl 0 rfl) ?_
          refine va_get (D := (dC, dI)) (ci := 4) (v := .ref f_eq_b) (C := R_EQ) (T := T_EQ) (N := 8) hx hb hts in_EQ hown hK hP 0 rfl rfl 1 (by decide) (hts _ k_99) (fun _ h9 => h9) rfl d_EQ_solvedBy_19 ?_
          refine lv_iload_n hx hb d_EQ_solvedBy_22 rfl (lv_at hl 3 rfl) ?_
          obtain ⟨hg1, hs⟩ := sm_gd hs
          refine va_iald hx hb hK hP 6 2 rfl rfl hg1 d_EQ_solvedBy_23 ?_
          refine lv_ineg hx hb d_EQ_solvedBy_24 ?_
          exact ih.2.1 _ _ _ _ _ _ _ hs hP hD hS (lv_sub hl [0, 1, 2, 3] rfl)
        · have hs := sm_neg hc2 hs
          refine lv_iconst (v := 0) hx hb d_EQ_solvedBy_14 (by decide) ?_
          refine lv_goto (tgt := 25) hx hb d_EQ_solvedBy_15 (by decide) ?_
          exact ih.2.1 _ _ _ _ _ _ _ hs hP hD hS (lv_sub hl [0, 1, 2, 3] rfl)
    · intro H locs ls x3i x4i x5i s0i hs hP hD hS hl
      rw [sm_it_succ, fn_EQ_solvedBy_q25] at hs
      unfold fn_EQ_solvedBy_b25 at hs
      refine lv_istore hx hb d_EQ_solvedBy_25 hl (by decide) rfl (fun ls hl => ?_)
      have hl : lv_has ls 6 [(4, .int s0i), (0, .ref a_eq), (1, .ref f_o1), (2, .int a2), (3, .int x3i)] := hl
      refine lv_iconst (v := 0) hx hb d_EQ_solvedBy_27 (by decide) ?_
      refine lv_istore hx hb d_EQ_solvedBy_28 hl (by decide) rfl (fun ls hl => ?_)
      have hl : lv_has ls 6 [(5, .int 0), (4, .int s0i), (0, .ref a_eq), (1, .ref f_o1), (2, .int a2), (3, .int x3i)] := hl
      exact ih.2.2 _ _ _ _ _ _ _ hs hP hD hS (lv_sub hl [2, 3, 4, 5, 1, 0] rfl)
    · intro H locs ls x3i x4i x5i s0i hs hP hD hS hl
      rw [sm_it_succ, fn_EQ_solvedBy_q30] at hs
      unfold fn_EQ_solvedBy_b30 at hs
      refine lv_iload hx hb d_EQ_solvedBy_30 (lv_at hl 5 rfl) ?_
      refine lv_aload_n hx hb d_EQ_solvedBy_32 rfl (lv_at hl 0 rfl) ?_
      obtain ⟨r1, hq1, hs⟩ := sm_bd hs
      have hPc := hP.sub (ws' := [(a_eq, .inr (4, [.ref f_eq_a, .ref f_eq_b, .ref f_eq_letters, .ref f_eq_slackRows, .ref f_eq_slackNumbers, .int v_eq_rows, .int v_eq_variables, .int v_eq_slacks]))]) [0] rfl
      have hDc := hD.sub (ws' := [(a_eq, .inr (4, [.ref f_eq_a, .ref f_eq_b, .ref f_eq_letters, .ref f_eq_slackRows, .ref f_eq_slackNumbers, .int v_eq_rows, .int v_eq_variables, .int v_eq_slacks]))]) [0] (by decide) rfl
      have hKc := hK.sub (tys' := []) [] rfl
      have hFc := va_free (wc := [(a_eq, .inr (4, [.ref f_eq_a, .ref f_eq_b, .ref f_eq_letters, .ref f_eq_slackRows, .ref f_eq_slackNumbers, .int v_eq_rows, .int v_eq_variables, .int v_eq_slacks]))]) hD hS hA [0] rfl
      refine va_calli (va_runV (As := []) (rest := [.int x5i]) ⟨hx, hb, hml, hown, hts⟩ (c_EQ_columns l dC dI (a_eq) (f_eq_a) (f_eq_b) (f_eq_letters) (f_eq_slackRows) (f_eq_slackNumbers) (v_eq_rows) (v_eq_variables) (v_eq_slacks) H.size r1 hq1) (wd_V (C := "LeastSolutions$Equations") 0 hts k_440 k_5 k_437 k_438 k_439 rfl rfl (by decide +kernel) ⟨Nat.le_of_ble_eq_true rfl, Nat.le_of_ble_eq_true rfl⟩) ⟨fun a U g mk q => by obtain ⟨q0, q1, qP, qK, qD, qN⟩ := q; exact ⟨q0, q1, qP, va_K.moved (u := U) (U := U.calling g mk a) (Vm.Alike.refl U.vm) qK, qD, nw_ok.same (s := U) (U := U.calling g mk a) rfl qN⟩, va_recv (ci := 4) (q0 := 0) hK hP rfl rfl, fun U hU hW => ⟨rfl, by rw [hU], by rw [hU]; exact hPc, va_K.moved hW.alike hKc, hDc.weaken (fun _ _ _ _ => trivial), nw_ok.warm hW hN⟩⟩ rfl rfl hl.1 rfl (lv_room (Nat.le_of_ble_eq_true rfl)) d_EQ_solvedBy_33 ⟨Nat.le_of_ble_eq_true rfl, Nat.le_of_ble_eq_true rfl⟩) hS (fun q _ h => hFc q h) hFc (fun q1 u t H1 locs ht hvm hr1 hB hz1 hk1 hS => ?_)
      have hr1 := (show q1 = r1 from hr1).symm
      subst hr1
      obtain ⟨hP1, hK1, hD1⟩ := hB
      rw [ht] at hP1
      have hK1 := va_K.moved hvm.symm hK1
      obtain ⟨hP, hD⟩ := va_join (wr := [(f_eq_a, .inl (k_eq_a, 4, .inr (.inr (.inr (.inr (fun i9 => some (r_eq_a i9))))))), ((r_eq_a 0), .inl (j_eq_a, 6, .inl (c_eq_a 0))), ((r_eq_a 1), .inl (j_eq_a, 6, .inl (c_eq_a 1))), ((r_eq_a 2), .inl (j_eq_a, 6, .inl (c_eq_a 2))), ((r_eq_a 3), .inl (j_eq_a, 6, .inl (c_eq_a 3))), (f_eq_b, .inl (k_eq_b, 4, .inl c_eq_b)), (f_o1, .inl (k_o1, 6, .inl c_o1))]) (w1 := [(a_eq, .inr (4, [.ref f_eq_a, .ref f_eq_b, .ref f_eq_letters, .ref f_eq_slackRows, .ref f_eq_slackNumbers, .int v_eq_rows, .int v_eq_variables, .int v_eq_slacks]))]) hP hD [0] [1, 2, 3, 4, 5, 6, 7] rfl rfl (by decide) (by decide) hk1 hFc hP1 hD1
      have hK := (hK.sub (tys' := [(k_eq_a, .array .int), (j_eq_a, .int), (k_eq_b, .int), (k_o1, .int)]) [0, 1, 2, 3] rfl).app hK1
      have hK : va_K (dC, dI) cls [(k_eq_a, .array .int), (j_eq_a, .int), (k_eq_b, .int), (k_o1, .int)] s := hK
      have hP : va_P (dC, dI) cls [(f_eq_a, .inl (k_eq_a, 4, .inr (.inr (.inr (.inr (fun i9 => some (r_eq_a i9))))))), ((r_eq_a 0), .inl (j_eq_a, 6, .inl (c_eq_a 0))), ((r_eq_a 1), .inl (j_eq_a, 6, .inl (c_eq_a 1))), ((r_eq_a 2), .inl (j_eq_a, 6, .inl (c_eq_a 2))), ((r_eq_a 3), .inl (j_eq_a, 6, .inl (c_eq_a 3))), (f_eq_b, .inl (k_eq_b, 4, .inl c_eq_b)), (f_o1, .inl (k_o1, 6, .inl c_o1)), (a_eq, .inr (4, [.ref f_eq_a, .ref f_eq_b, .ref f_eq_letters, .ref f_eq_slackRows, .ref f_eq_slackNumbers, .int v_eq_rows, .int v_eq_variables, .int v_eq_slacks]))] H1 := hP
      have hD : va_D A [(f_eq_a, .inl (k_eq_a, 4, .inr (.inr (.inr (.inr (fun i9 => some (r_eq_a i9))))))), ((r_eq_a 0), .inl (j_eq_a, 6, .inl (c_eq_a 0))), ((r_eq_a 1), .inl (j_eq_a, 6, .inl (c_eq_a 1))), ((r_eq_a 2), .inl (j_eq_a, 6, .inl (c_eq_a 2))), ((r_eq_a 3), .inl (j_eq_a, 6, .inl (c_eq_a 3))), (f_eq_b, .inl (k_eq_b, 4, .inl c_eq_b)), (f_o1, .inl (k_o1, 6, .inl c_o1)), (a_eq, .inr (4, [.ref f_eq_a, .ref f_eq_b, .ref f_eq_letters, .ref f_eq_slackRows, .ref f_eq_slackNumbers, .int v_eq_rows, .int v_eq_variables, .int v_eq_slacks]))] := hD
      refine lv_icmp_ge (tgt := 64) hx hb d_EQ_solvedBy_36 (by decide) (fun hc3 => ?_) (fun hc3 => ?_)
      · have hs := sm_pos hc3 hs
        refine lv_iload hx hb d_EQ_solvedBy_64 (lv_at hl 4 rfl) ?_
        refine lv_if_eq (tgt := 71) hx hb d_EQ_solvedBy_66 (by decide) (fun hc4 => ?_) (fun hc4 => ?_)
        · have hs := sm_pos hc4 hs
          refine lv_iinc (k := 3) (v := (x3i + 1)) hx hb d_EQ_solvedBy_71 hl rfl (congrArg (fun z : Int32 => x3i + z) (by decide : Int32.ofInt 1 = 1)) (by decide) rfl (fun ls hl => ?_)
          have hl : lv_has ls 6 [(3, .int (x3i + 1)), (0, .ref a_eq), (1, .ref f_o1), (2, .int a2), (4, .int x4i), (5, .int x5i)] := hl
          refine lv_goto (tgt := 2) hx hb d_EQ_solvedBy_74 (by decide) ?_
          have hP := hP.sub (ws' := [(a_eq, .inr (4, [.ref f_eq_a, .ref f_eq_b, .ref f_eq_letters, .ref f_eq_slackRows, .ref f_eq_slackNumbers, .int v_eq_rows, .int v_eq_variables, .int v_eq_slacks])), (f_eq_a, .inl (k_eq_a, 4, .inr (.inr (.inr (.inr (fun i9 => some (r_eq_a i9))))))), ((r_eq_a 0), .inl (j_eq_a, 6, .inl (c_eq_a 0))), ((r_eq_a 1), .inl (j_eq_a, 6, .inl (c_eq_a 1))), ((r_eq_a 2), .inl (j_eq_a, 6, .inl (c_eq_a 2))), ((r_eq_a 3), .inl (j_eq_a, 6, .inl (c_eq_a 3))), (f_eq_b, .inl (k_eq_b, 4, .inl c_eq_b)), (f_o1, .inl (k_o1, 6, .inl c_o1))]) [7, 0, 1, 2, 3, 4, 5, 6] rfl
          have hD := hD.sub (ws' := [(a_eq, .inr (4, [.ref f_eq_a, .ref f_eq_b, .ref f_eq_letters, .ref f_eq_slackRows, .ref f_eq_slackNumbers, .int v_eq_rows, .int v_eq_variables, .int v_eq_slacks])), (f_eq_a, .inl (k_eq_a, 4, .inr (.inr (.inr (.inr (fun i9 => some (r_eq_a i9))))))), ((r_eq_a 0), .inl (j_eq_a, 6, .inl (c_eq_a 0))), ((r_eq_a 1), .inl (j_eq_a, 6, .inl (c_eq_a 1))), ((r_eq_a 2), .inl (j_eq_a, 6, .inl (c_eq_a 2))), ((r_eq_a 3), .inl (j_eq_a, 6, .inl (c_eq_a 3))), (f_eq_b, .inl (k_eq_b, 4, .inl c_eq_b)), (f_o1, .inl (k_o1, 6, .inl c_o1))]) [7, 0, 1, 2, 3, 4, 5, 6] (by decide) rfl
          exact ih.1 _ _ _ _ _ _ _ hs hP hD hS (lv_sub hl [1, 2, 3, 0] rfl)
        · have hs := sm_neg hc4 hs
          refine lv_iconst (v := 0) hx hb d_EQ_solvedBy_69 (by decide) ?_
          have hP := hP.sub (ws' := [(a_eq, .inr (4, [.ref f_eq_a, .ref f_eq_b, .ref f_eq_letters, .ref f_eq_slackRows, .ref f_eq_slackNumbers, .int v_eq_rows, .int v_eq_variables, .int v_eq_slacks])), (f_eq_a, .inl (k_eq_a, 4, .inr (.inr (.inr (.inr (fun i9 => some (r_eq_a i9))))))), ((r_eq_a 0), .inl (j_eq_a, 6, .inl (c_eq_a 0))), ((r_eq_a 1), .inl (j_eq_a, 6, .inl (c_eq_a 1))), ((r_eq_a 2), .inl (j_eq_a, 6, .inl (c_eq_a 2))), ((r_eq_a 3), .inl (j_eq_a, 6, .inl (c_eq_a 3))), (f_eq_b, .inl (k_eq_b, 4, .inl c_eq_b)), (f_o1, .inl (k_o1, 6, .inl c_o1))]) [7, 0, 1, 2, 3, 4, 5, 6] rfl
          have hD := hD.sub (ws' := [(a_eq, .inr (4, [.ref f_eq_a, .ref f_eq_b, .ref f_eq_letters, .ref f_eq_slackRows, .ref f_eq_slackNumbers, .int v_eq_rows, .int v_eq_variables, .int v_eq_slacks])), (f_eq_a, .inl (k_eq_a, 4, .inr (.inr (.inr (.inr (fun i9 => some (r_eq_a i9))))))), ((r_eq_a 0), .inl (j_eq_a, 6, .inl (c_eq_a 0))), ((r_eq_a 1), .inl (j_eq_a, 6, .inl (c_eq_a 1))), ((r_eq_a 2), .inl (j_eq_a, 6, .inl (c_eq_a 2))), ((r_eq_a 3), .inl (j_eq_a, 6, .inl (c_eq_a 3))), (f_eq_b, .inl (k_eq_b, 4, .inl c_eq_b)), (f_o1, .inl (k_o1, 6, .inl c_o1))]) [7, 0, 1, 2, 3, 4, 5, 6] (by decide) rfl
          have he := sm_end hs
          subst he
          exact W.zret (v := 0) (ty := .boolean) hx hb hr (by decide +kernel) (fun t ht hW => ⟨⟨0, (), rfl, rfl, by rw [ht]; exact hP, va_K.moved hW.alike hK, hD⟩, hS.F ht⟩) hS.2.2 d_EQ_solvedBy_70
      · have hs := sm_neg hc3 hs
        refine lv_iload hx hb d_EQ_solvedBy_39 (lv_at hl 4 rfl) ?_
        refine lv_aload_n hx hb d_EQ_solvedBy_41 rfl (lv_at hl 0 rfl) ?_
        refine va_get (D := (dC, dI)) (ci := 4) (v := .ref f_eq_a) (C := R_EQ) (T := T_EQ) (N := 8) hx hb hts in_EQ hown hK hP 7 rfl rfl 0 (by decide) (hts _ k_94) (fun _ h9 => h9) rfl d_EQ_solvedBy_42 ?_
        refine lv_iload_n hx hb d_EQ_solvedBy_45 rfl (lv_at hl 3 rfl) ?_
        obtain ⟨hg1, hs⟩ := sm_gd hs
        refine ro_ald (Ra := r_eq_a) (k := (x3i : Int32).toNatClampNeg) hx hb hK hP 0 0 rfl rfl rfl rfl hg1 d_EQ_solvedBy_46 ?_
        refine lv_iload hx hb d_EQ_solvedBy_47 (lv_at hl 5 rfl) ?_
        obtain ⟨hg2, hs⟩ := sm_gd hs
        refine va_iald hx hb hK hP (1 + (x3i : Int32).toNatClampNeg) 1 (ro4 (P := fun i9 => ([(f_eq_a, .inl (k_eq_a, 4, .inr (.inr (.inr (.inr (fun i9 => some (r_eq_a i9))))))), ((r_eq_a 0), .inl (j_eq_a, 6, .inl (c_eq_a 0))), ((r_eq_a 1), .inl (j_eq_a, 6, .inl (c_eq_a 1))), ((r_eq_a 2), .inl (j_eq_a, 6, .inl (c_eq_a 2))), ((r_eq_a 3), .inl (j_eq_a, 6, .inl (c_eq_a 3))), (f_eq_b, .inl (k_eq_b, 4, .inl c_eq_b)), (f_o1, .inl (k_o1, 6, .inl c_o1)), (a_eq, .inr (4, [.ref f_eq_a, .ref f_eq_b, .ref f_eq_letters, .ref f_eq_slackRows, .ref f_eq_slackNumbers, .int v_eq_rows, .int v_eq_variables, .int v_eq_slacks]))] : va_W)[1 + i9]? = some ((r_eq_a i9), .inl (j_eq_a, 6, .inl (c_eq_a i9)))) rfl rfl rfl rfl (ro_lt hg1)) rfl hg2 d_EQ_solvedBy_49 ?_
        refine lv_aload_n hx hb d_EQ_solvedBy_50 rfl (lv_at hl 1 rfl) ?_
        refine lv_iload hx hb d_EQ_solvedBy_51 (lv_at hl 5 rfl) ?_
        refine va_iald hx hb hK hP 6 3 rfl rfl hg2 d_EQ_solvedBy_53 ?_
        refine lv_imul hx hb d_EQ_solvedBy_54 ?_
        refine lv_iadd hx hb d_EQ_solvedBy_55 ?_
        refine lv_istore hx hb d_EQ_solvedBy_56 hl (by decide) rfl (fun ls hl => ?_)
        have hl : lv_has ls 6 [(4, .int (x4i + ((c_eq_a ((x3i : Int32).toNatClampNeg) (x5i : Int32).toNatClampNeg) * (c_o1 (x5i : Int32).toNatClampNeg)))), (0, .ref a_eq), (1, .ref f_o1), (2, .int a2), (3, .int x3i), (5, .int x5i)] := hl
        refine lv_iinc (k := 5) (v := (x5i + 1)) hx hb d_EQ_solvedBy_58 hl rfl (congrArg (fun z : Int32 => x5i + z) (by decide : Int32.ofInt 1 = 1)) (by decide) rfl (fun ls hl => ?_)
        have hl : lv_has ls 6 [(5, .int (x5i + 1)), (4, .int (x4i + ((c_eq_a ((x3i : Int32).toNatClampNeg) (x5i : Int32).toNatClampNeg) * (c_o1 (x5i : Int32).toNatClampNeg)))), (0, .ref a_eq), (1, .ref f_o1), (2, .int a2), (3, .int x3i)] := hl
        refine lv_goto (tgt := 30) hx hb d_EQ_solvedBy_61 (by decide) ?_
        have hP := hP.sub (ws' := [(a_eq, .inr (4, [.ref f_eq_a, .ref f_eq_b, .ref f_eq_letters, .ref f_eq_slackRows, .ref f_eq_slackNumbers, .int v_eq_rows, .int v_eq_variables, .int v_eq_slacks])), (f_eq_a, .inl (k_eq_a, 4, .inr (.inr (.inr (.inr (fun i9 => some (r_eq_a i9))))))), ((r_eq_a 0), .inl (j_eq_a, 6, .inl (c_eq_a 0))), ((r_eq_a 1), .inl (j_eq_a, 6, .inl (c_eq_a 1))), ((r_eq_a 2), .inl (j_eq_a, 6, .inl (c_eq_a 2))), ((r_eq_a 3), .inl (j_eq_a, 6, .inl (c_eq_a 3))), (f_eq_b, .inl (k_eq_b, 4, .inl c_eq_b)), (f_o1, .inl (k_o1, 6, .inl c_o1))]) [7, 0, 1, 2, 3, 4, 5, 6] rfl
        have hD := hD.sub (ws' := [(a_eq, .inr (4, [.ref f_eq_a, .ref f_eq_b, .ref f_eq_letters, .ref f_eq_slackRows, .ref f_eq_slackNumbers, .int v_eq_rows, .int v_eq_variables, .int v_eq_slacks])), (f_eq_a, .inl (k_eq_a, 4, .inr (.inr (.inr (.inr (fun i9 => some (r_eq_a i9))))))), ((r_eq_a 0), .inl (j_eq_a, 6, .inl (c_eq_a 0))), ((r_eq_a 1), .inl (j_eq_a, 6, .inl (c_eq_a 1))), ((r_eq_a 2), .inl (j_eq_a, 6, .inl (c_eq_a 2))), ((r_eq_a 3), .inl (j_eq_a, 6, .inl (c_eq_a 3))), (f_eq_b, .inl (k_eq_b, 4, .inl c_eq_b)), (f_o1, .inl (k_o1, 6, .inl c_o1))]) [7, 0, 1, 2, 3, 4, 5, 6] (by decide) rfl
        exact ih.2.2 _ _ _ _ _ _ _ hs hP hD hS (lv_sub hl [2, 3, 4, 5, 1, 0] rfl)
  · intro key
    cases k8 with
    | zero => cases hs
    | succ k9 =>
      rw [sm_it_succ, fn_EQ_solvedBy_q0] at hs
      unfold fn_EQ_solvedBy_b0 at hs
      refine lv_iconst (v := 0) hx hb d_EQ_solvedBy_0 (by decide) ?_
      refine lv_istore_n hx hb d_EQ_solvedBy_1 rfl hl (by decide) rfl (fun ls hl => ?_)
      have hl : lv_has ls 6 [(3, .int 0), (0, .ref a_eq), (1, .ref f_o1), (2, .int a2)] := hl
      exact (key k9).1 _ _ _ _ _ _ _ hs hP hD hS (lv_sub hl [1, 2, 3, 0] rfl)
