noncomputable def fn_LS_isBelowZero_b0 (c_o1 : Nat → Int32) (_z0 : Int32) (_z1 : Int32) : Option ((Nat × Int32 × Int32) ⊕ (Int32)) := some (.inl (7, 6, 0))
noncomputable def fn_LS_isBelowZero_b7 (c_o1 : Nat → Int32) (x2i : Int32) (x3i : Int32) : Option ((Nat × Int32 × Int32) ⊕ (Int32)) := if (x2i : Int32) ≤ x3i then (some (.inr 0)) else (if ¬ ((x3i : Int32) < 0 ∨ 6 ≤ (x3i : Int32).toNatClampNeg) then if (0 : Int32) ≤ (c_o1 (x3i : Int32).toNatClampNeg) then (some (.inl (7, x2i, (x3i + 1)))) else (some (.inr 1)) else none)
noncomputable def fn_LS_isBelowZero (c_o1 : Nat → Int32) : Nat × Int32 × Int32 → Option ((Nat × Int32 × Int32) ⊕ (Int32)) := fun st => match st with
  | (pc, x2i, x3i) => if pc = 0 then fn_LS_isBelowZero_b0 c_o1 x2i x3i else if pc = 7 then fn_LS_isBelowZero_b7 c_o1 x2i x3i else none
theorem fn_LS_isBelowZero_q0 (c_o1 : Nat → Int32) (x2i : Int32) (x3i : Int32) : fn_LS_isBelowZero c_o1 (0, x2i, x3i) = fn_LS_isBelowZero_b0 c_o1 x2i x3i := by simp [fn_LS_isBelowZero]
theorem fn_LS_isBelowZero_q7 (c_o1 : Nat → Int32) (x2i : Int32) (x3i : Int32) : fn_LS_isBelowZero c_o1 (7, x2i, x3i) = fn_LS_isBelowZero_b7 c_o1 x2i x3i := by simp [fn_LS_isBelowZero]
set_option maxHeartbeats 4000000 in
set_option maxRecDepth 100000 in
theorem c_LS_isBelowZero (l : Launch) (dC : Nat → ClassId) (dI : Nat → Nat → Nat) (f_o1 : Nat) (k_o1 : ClassId) (c_o1 : Nat → Int32) (sz : Nat) (out : Int32) (hs : sm_tot (fn_LS_isBelowZero c_o1) (0, 0, 0) = some out) : Met l y_LS_isBelowZero (Cond.code y_LS_isBelowZero b_LS_isBelowZero 5 (Option.some Jvm.ClassFile.FieldType.boolean) :: wd) { frames := 0, cells := 0, slots := 0, locals := 0 } (va_Pc [.ref f_o1] (fun U => U.heap.size = sz ∧ va_P (dC, dI) cls [(f_o1, .inl (k_o1, 6, .inl c_o1))] U.heap ∧ va_K (dC, dI) cls [(k_o1, .int)] U ∧ va_D (fun _ => True) [(f_o1, .inl (k_o1, 6, .inl c_o1))] ∧ nw_ok U)) (va_Qi (fun r (_ : Unit) => r = out) (fun (_ : Unit) t => va_P (dC, dI) cls [(f_o1, .inl (k_o1, 6, .inl c_o1))] t.heap ∧ va_K (dC, dI) cls [(k_o1, .int)] t ∧ va_D (va_A [(f_o1, .inl (k_o1, 6, .inl c_o1))] sz) [(f_o1, .inl (k_o1, 6, .inl c_o1))]) (va_A [(f_o1, .inl (k_o1, 6, .inl c_o1))] sz)) 0 0 (va_A [(f_o1, .inl (k_o1, 6, .inl c_o1))] sz) := by
  refine Met.ofW (cc := b_LS_isBelowZero) (maxL := 5) (ret := (Option.some Jvm.ClassFile.FieldType.boolean)) (by decide) rfl ?_
  intro p e s m args below meth c s₁ B hml hv
  obtain ⟨rfl, hsz, hP, hK, hD0, hN⟩ := hv
  have hx := B.exec
  have hb := B.bytes
  have hr := B.returns
  have hlocks := B.notSynchronized
  have hts : ∀ w ∈ wd, w.before ([.ref f_o1] : List Value).toArray s = true := fun w hw => atoms_spec (ws := (Cond.code y_LS_isBelowZero b_LS_isBelowZero 5 (Option.some Jvm.ClassFile.FieldType.boolean) :: wd)) B.pre w (List.mem_cons_of_mem _ hw)
  have hown : s.vm.findClass "LeastSolutions" = some m.cls := findClass_of_methodNamed B.named
  subst hsz
  have hD := hD0.self (sz := s.heap.size)
  generalize hAe : va_A [(f_o1, .inl (k_o1, 6, .inl c_o1))] s.heap.size = A at hD ⊢
  have hA : ∀ q : Nat, s.heap.size ≤ q → A q := fun q h => by rw [← hAe]; exact Or.inr h
  have hS : va_S A s.heap s.heap [] := va_S.rf
  have hl := lv_entry ([.ref f_o1]) (n := 5) (Nat.le_of_ble_eq_true rfl)
  rw [lg_entry_eq]
  generalize (lg_sl ([.ref f_o1]) ++ List.replicate (5 - (lg_sl ([.ref f_o1])).length) Slot.unset).toArray = ls at hl ⊢
  have hl : lv_has ls 5 [(0, .ref f_o1)] := hl
  obtain ⟨k8, hs⟩ := sm_of hs
  refine sm_key (fun R Q k9 => (∀ (H : Heap) (locs : List Loc) (ls : Array Slot) (x2i : Int32) (x3i : Int32), sm_it (fn_LS_isBelowZero c_o1) k9 (7, x2i, x3i) = some out → va_P (dC, dI) cls [(f_o1, .inl (k_o1, 6, .inl c_o1))] H → va_D A [(f_o1, .inl (k_o1, 6, .inl c_o1))] → va_S A s.heap H locs → lv_has ls 5 [(1, .ref f_o1), (2, .int x2i), (3, .int x3i)] → W p l e R s m ([.ref f_o1] : List Value).toArray below meth c H locs 0 0 Q (F0 m 7 ls []))) ?_ ?_ ?_
  · exact fun _ _ _ _ _ hs => by cases hs
  · intro k9 ih
    skip
    intro H locs ls x2i x3i hs hP hD hS hl
    rw [sm_it_succ, fn_LS_isBelowZero_q7] at hs
    unfold fn_LS_isBelowZero_b7 at hs
    refine lv_iload_n hx hb d_LS_isBelowZero_7 rfl (lv_at hl 2 rfl) ?_
    refine lv_iload_n hx hb d_LS_isBelowZero_8 rfl (lv_at hl 1 rfl) ?_
    refine lv_icmp_ge (tgt := 30) hx hb d_LS_isBelowZero_9 (by decide) (fun hc1 => ?_) (fun hc1 => ?_)
    · have hs := sm_pos hc1 hs
      refine lv_iconst (v := 0) hx hb d_LS_isBelowZero_30 (by decide) ?_
      have he := sm_end hs
      subst he
      exact W.zret (v := 0) (ty := .boolean) hx hb hr (by decide +kernel) (fun t ht hW => ⟨⟨0, (), rfl, rfl, by rw [ht]; exact hP, va_K.moved hW.alike hK, hD⟩, hS.F ht⟩) hS.2.2 d_LS_isBelowZero_31
    · have hs := sm_neg hc1 hs
      refine lv_aload_n hx hb d_LS_isBelowZero_12 rfl (lv_at hl 0 rfl) ?_
      refine lv_iload_n hx hb d_LS_isBelowZero_13 rfl (lv_at hl 2 rfl) ?_
      obtain ⟨hg1, hs⟩ := sm_gd hs
      refine va_iald hx hb hK hP 0 0 rfl rfl hg1 d_LS_isBelowZero_14 ?_
      refine lv_istore hx hb d_LS_isBelowZero_15 hl (by decide) rfl (fun ls hl => ?_)
      have hl : lv_has ls 5 [(4, .int (c_o1 (x3i : Int32).toNatClampNeg)), (1, .ref f_o1), (2, .int x2i), (3, .int x3i)] := hl
      refine lv_iload hx hb d_LS_isBelowZero_17 (lv_at hl 0 rfl) ?_
      refine lv_if_ge (tgt := 24) hx hb d_LS_isBelowZero_19 (by decide) (fun hc2 => ?_) (fun hc2 => ?_)
      · have hs := sm_pos hc2 hs
        refine lv_iinc (k := 3) (v := (x3i + 1)) hx hb d_LS_isBelowZero_24 hl rfl (congrArg (fun z : Int32 => x3i + z) (by decide : Int32.ofInt 1 = 1)) (by decide) rfl (fun ls hl => ?_)
        have hl : lv_has ls 5 [(3, .int (x3i + 1)), (4, .int (c_o1 (x3i : Int32).toNatClampNeg)), (1, .ref f_o1), (2, .int x2i)] := hl
        refine lv_goto (tgt := 7) hx hb d_LS_isBelowZero_27 (by decide) ?_
        exact ih _ _ _ _ _ hs hP hD hS (lv_sub hl [2, 3, 0] rfl)
      · have hs := sm_neg hc2 hs
        refine lv_iconst (v := 1) hx hb d_LS_isBelowZero_22 (by decide) ?_
        have he := sm_end hs
        subst he
        exact W.zret (v := 1) (ty := .boolean) hx hb hr (by decide +kernel) (fun t ht hW => ⟨⟨1, (), rfl, rfl, by rw [ht]; exact hP, va_K.moved hW.alike hK, hD⟩, hS.F ht⟩) hS.2.2 d_LS_isBelowZero_23
  · intro key
    cases k8 with
    | zero => cases hs
    | succ k9 =>
      rw [sm_it_succ, fn_LS_isBelowZero_q0] at hs
      unfold fn_LS_isBelowZero_b0 at hs
      refine lv_aload_n hx hb d_LS_isBelowZero_0 rfl (lv_at hl 0 rfl) ?_
      refine lv_astore_n hx hb d_LS_isBelowZero_1 rfl hl (by decide) rfl (fun ls hl => ?_)
      have hl : lv_has ls 5 [(1, .ref f_o1), (0, .ref f_o1)] := hl
      refine lv_aload_n hx hb d_LS_isBelowZero_2 rfl (lv_at hl 0 rfl) ?_
      refine va_alen (v := 6) hx hb hK hP 0 0 rfl rfl (show Int32.ofNat 6 = 6 from by decide) d_LS_isBelowZero_3 ?_
      refine lv_istore_n hx hb d_LS_isBelowZero_4 rfl hl (by decide) rfl (fun ls hl => ?_)
      have hl : lv_has ls 5 [(2, .int 6), (1, .ref f_o1), (0, .ref f_o1)] := hl
      refine lv_iconst (v := 0) hx hb d_LS_isBelowZero_5 (by decide) ?_
      refine lv_istore_n hx hb d_LS_isBelowZero_6 rfl hl (by decide) rfl (fun ls hl => ?_)
      have hl : lv_has ls 5 [(3, .int 0), (2, .int 6), (1, .ref f_o1), (0, .ref f_o1)] := hl
      exact (key k9) _ _ _ _ _ hs hP hD hS (lv_sub hl [2, 1, 0] rfl)

noncomputable def fn_LS_sizeOf_b0 (c_o1 : Nat → Int32) (_z0 : Int32) (_z1 : Int32) (_z2 : Int32) : Option ((Nat × Int32 × Int32 × Int32) ⊕ (Int32)) := some (.inl (10, 0, 6, 0))
noncomputable def fn_LS_sizeOf_b10 (c_o1 : Nat → Int32) (x1i : Int32) (x3i : Int32) (x4i : Int32) : Option ((Nat × Int32 × Int32 × Int32) ⊕ (Int32)) := if (x3i : Int32) ≤ x4i then (some (.inr x1i)) else (if ¬ ((x4i : Int32) < 0 ∨ 6 ≤ (x4i : Int32).toNatClampNeg) then some (.inl (10, (x1i + (if (0 : Int32) ≤ (c_o1 (x4i : Int32).toNatClampNeg) then (c_o1 (x4i : Int32).toNatClampNeg) else 0 - (c_o1 (x4i : Int32).toNatClampNeg))), x3i, (x4i + 1))) else none)
noncomputable def fn_LS_sizeOf (c_o1 : Nat → Int32) : Nat × Int32 × Int32 × Int32 → Option ((Nat × Int32 × Int32 × Int32) ⊕ (Int32)) := fun st => match st with
  | (pc, x1i, x3i, x4i) => if pc = 0 then fn_LS_sizeOf_b0 c_o1 x1i x3i x4i else if pc = 10 then fn_LS_sizeOf_b10 c_o1 x1i x3i x4i else none
theorem fn_LS_sizeOf_q0 (c_o1 : Nat → Int32) (x1i : Int32) (x3i : Int32) (x4i : Int32) : fn_LS_sizeOf c_o1 (0, x1i, x3i, x4i) = fn_LS_sizeOf_b0 c_o1 x1i x3i x4i := by simp [fn_LS_sizeOf]
theorem fn_LS_sizeOf_q10 (c_o1 : Nat → Int32) (x1i : Int32) (x3i : Int32) (x4i : Int32) : fn_LS_sizeOf c_o1 (10, x1i, x3i, x4i) = fn_LS_sizeOf_b10 c_o1 x1i x3i x4i := by simp [fn_LS_sizeOf]
set_option maxHeartbeats 4000000 in
set_option maxRecDepth 100000 in
theorem c_LS_sizeOf (l : Launch) (dC : Nat → ClassId) (dI : Nat → Nat → Nat) (f_o1 : Nat) (k_o1 : ClassId) (c_o1 : Nat → Int32) (sz : Nat) (out : Int32) (hs : sm_tot (fn_LS_sizeOf c_o1) (0, 0, 0, 0) = some out) : Met l y_LS_sizeOf (Cond.code y_LS_sizeOf b_LS_sizeOf 6 (Option.some Jvm.ClassFile.FieldType.int) :: wd) { frames := 1, cells := 0, slots := 0, locals := 29 } (va_Pc [.ref f_o1] (fun U => U.heap.size = sz ∧ va_P (dC, dI) cls [(f_o1, .inl (k_o1, 6, .inl c_o1))] U.heap ∧ va_K (dC, dI) cls [(k_o1, .int)] U ∧ va_D (fun _ => True) [(f_o1, .inl (k_o1, 6, .inl c_o1))] ∧ nw_ok U)) (va_Qi (fun r (_ : Unit) => r = out) (fun (_ : Unit) t => va_P (dC, dI) cls [(f_o1, .inl (k_o1, 6, .inl c_o1))] t.heap ∧ va_K (dC, dI) cls [(k_o1, .int)] t ∧ va_D (va_A [(f_o1, .inl (k_o1, 6, .inl c_o1))] sz) [(f_o1, .inl (k_o1, 6, .inl c_o1))]) (va_A [(f_o1, .inl (k_o1, 6, .inl c_o1))] sz)) 0 0 (va_A [(f_o1, .inl (k_o1, 6, .inl c_o1))] sz) := by
  refine Met.ofW (cc := b_LS_sizeOf) (maxL := 6) (ret := (Option.some Jvm.ClassFile.FieldType.int)) (by decide) rfl ?_
  intro p e s m args below meth c s₁ B hml hv
  obtain ⟨rfl, hsz, hP, hK, hD0, hN⟩ := hv
  have hx := B.exec
  have hb := B.bytes
  have hr := B.returns
  have hlocks := B.notSynchronized
  have hts : ∀ w ∈ wd, w.before ([.ref f_o1] : List Value).toArray s = true := fun w hw => atoms_spec (ws := (Cond.code y_LS_sizeOf b_LS_sizeOf 6 (Option.some Jvm.ClassFile.FieldType.int) :: wd)) B.pre w (List.mem_cons_of_mem _ hw)
  have hown : s.vm.findClass "LeastSolutions" = some m.cls := findClass_of_methodNamed B.named
  subst hsz
  have hD := hD0.self (sz := s.heap.size)
  generalize hAe : va_A [(f_o1, .inl (k_o1, 6, .inl c_o1))] s.heap.size = A at hD ⊢
  have hA : ∀ q : Nat, s.heap.size ≤ q → A q := fun q h => by rw [← hAe]; exact Or.inr h
  have hS : va_S A s.heap s.heap [] := va_S.rf
  have hl := lv_entry ([.ref f_o1]) (n := 6) (Nat.le_of_ble_eq_true rfl)
  rw [lg_entry_eq]
  generalize (lg_sl ([.ref f_o1]) ++ List.replicate (6 - (lg_sl ([.ref f_o1])).length) Slot.unset).toArray = ls at hl ⊢
  have hl : lv_has ls 6 [(0, .ref f_o1)] := hl
  obtain ⟨k8, hs⟩ := sm_of hs
  refine sm_key (fun R Q k9 => (∀ (H : Heap) (locs : List Loc) (ls : Array Slot) (x1i : Int32) (x3i : Int32) (x4i : Int32), sm_it (fn_LS_sizeOf c_o1) k9 (10, x1i, x3i, x4i) = some out → va_P (dC, dI) cls [(f_o1, .inl (k_o1, 6, .inl c_o1))] H → va_D A [(f_o1, .inl (k_o1, 6, .inl c_o1))] → va_S A s.heap H locs → lv_has ls 6 [(1, .int x1i), (2, .ref f_o1), (3, .int x3i), (4, .int x4i)] → W p l e R s m ([.ref f_o1] : List Value).toArray below meth c H locs 0 0 Q (F0 m 10 ls []))) ?_ ?_ ?_
  · exact fun _ _ _ _ _ _ hs => by cases hs
  · intro k9 ih
    skip
    intro H locs ls x1i x3i x4i hs hP hD hS hl
    rw [sm_it_succ, fn_LS_sizeOf_q10] at hs
    unfold fn_LS_sizeOf_b10 at hs
    refine lv_iload hx hb d_LS_sizeOf_10 (lv_at hl 3 rfl) ?_
    refine lv_iload_n hx hb d_LS_sizeOf_12 rfl (lv_at hl 2 rfl) ?_
    refine lv_icmp_ge (tgt := 36) hx hb d_LS_sizeOf_13 (by decide) (fun hc1 => ?_) (fun hc1 => ?_)
    · have hs := sm_pos hc1 hs
      refine lv_iload_n hx hb d_LS_sizeOf_36 rfl (lv_at hl 0 rfl) ?_
      have he := sm_end hs
      subst he
      exact W.iret (v := x1i) hx hb hr (fun t ht hW => ⟨⟨x1i, (), rfl, rfl, by rw [ht]; exact hP, va_K.moved hW.alike hK, hD⟩, hS.F ht⟩) hS.2.2 d_LS_sizeOf_37
    · have hs := sm_neg hc1 hs
      refine lv_aload_n hx hb d_LS_sizeOf_16 rfl (lv_at hl 1 rfl) ?_
      refine lv_iload hx hb d_LS_sizeOf_17 (lv_at hl 3 rfl) ?_
      obtain ⟨hg1, hs⟩ := sm_gd hs
      refine va_iald hx hb hK hP 0 0 rfl rfl hg1 d_LS_sizeOf_19 ?_
      refine lv_istore hx hb d_LS_sizeOf_20 hl (by decide) rfl (fun ls hl => ?_)
      have hl : lv_has ls 6 [(5, .int (c_o1 (x4i : Int32).toNatClampNeg)), (1, .int x1i), (2, .ref f_o1), (3, .int x3i), (4, .int x4i)] := hl
      refine lv_iload_n hx hb d_LS_sizeOf_22 rfl (lv_at hl 1 rfl) ?_
      refine lv_iload hx hb d_LS_sizeOf_23 (lv_at hl 0 rfl) ?_
      refine va_mabs hx hb (hml.trans hl.1.symm) hown (hts _ k_557) (hts _ k_459) (hts _ k_12) (hts _ k_460) (Nat.le_of_ble_eq_true rfl) (Nat.le_of_ble_eq_true rfl) (Nat.le_of_ble_eq_true rfl) (Nat.le_of_ble_eq_true rfl) d_LS_sizeOf_25 ?_
      refine lv_iadd hx hb d_LS_sizeOf_28 ?_
      refine lv_istore_n hx hb d_LS_sizeOf_29 rfl hl (by decide) rfl (fun ls hl => ?_)
      have hl : lv_has ls 6 [(1, .int (x1i + (if (0 : Int32) ≤ (c_o1 (x4i : Int32).toNatClampNeg) then (c_o1 (x4i : Int32).toNatClampNeg) else 0 - (c_o1 (x4i : Int32).toNatClampNeg)))), (5, .int (c_o1 (x4i : Int32).toNatClampNeg)), (2, .ref f_o1), (3, .int x3i), (4, .int x4i)] := hl
      refine lv_iinc (k := 4) (v := (x4i + 1)) hx hb d_LS_sizeOf_30 hl rfl (congrArg (fun z : Int32 => x4i + z) (by decide : Int32.ofInt 1 = 1)) (by decide) rfl (fun ls hl => ?_)
      have hl : lv_has ls 6 [(4, .int (x4i + 1)), (1, .int (x1i + (if (0 : Int32) ≤ (c_o1 (x4i : Int32).toNatClampNeg) then (c_o1 (x4i : Int32).toNatClampNeg) else 0 - (c_o1 (x4i : Int32).toNatClampNeg)))), (5, .int (c_o1 (x4i : Int32).toNatClampNeg)), (2, .ref f_o1), (3, .int x3i)] := hl
      refine lv_goto (tgt := 10) hx hb d_LS_sizeOf_33 (by decide) ?_
      exact ih _ _ _ _ _ _ hs hP hD hS (lv_sub hl [1, 3, 4, 0] rfl)
  · intro key
    cases k8 with
    | zero => cases hs
    | succ k9 =>
      rw [sm_it_succ, fn_LS_sizeOf_q0] at hs
      unfold fn_LS_sizeOf_b0 at hs
      refine lv_iconst (v := 0) hx hb d_LS_sizeOf_0 (by decide) ?_
      refine lv_istore_n hx hb d_LS_sizeOf_1 rfl hl (by decide) rfl (fun ls hl => ?_)
      have hl : lv_has ls 6 [(1, .int 0), (0, .ref f_o1)] := hl
      refine lv_aload_n hx hb d_LS_sizeOf_2 rfl (lv_at hl 1 rfl) ?_
      refine lv_astore_n hx hb d_LS_sizeOf_3 rfl hl (by decide) rfl (fun ls hl => ?_)
      have hl : lv_has ls 6 [(2, .ref f_o1), (1, .int 0), (0, .ref f_o1)] := hl
      refine lv_aload_n hx hb d_LS_sizeOf_4 rfl (lv_at hl 0 rfl) ?_
      refine va_alen (v := 6) hx hb hK hP 0 0 rfl rfl (show Int32.ofNat 6 = 6 from by decide) d_LS_sizeOf_5 ?_
      refine lv_istore_n hx hb d_LS_sizeOf_6 rfl hl (by decide) rfl (fun ls hl => ?_)
      have hl : lv_has ls 6 [(3, .int 6), (2, .ref f_o1), (1, .int 0), (0, .ref f_o1)] := hl
      refine lv_iconst (v := 0) hx hb d_LS_sizeOf_7 (by decide) ?_
      refine lv_istore hx hb d_LS_sizeOf_8 hl (by decide) rfl (fun ls hl => ?_)
      have hl : lv_has ls 6 [(4, .int 0), (3, .int 6), (2, .ref f_o1), (1, .int 0), (0, .ref f_o1)] := hl
      exact (key k9) _ _ _ _ _ _ hs hP hD hS (lv_sub hl [3, 2, 1, 0] rfl)

noncomputable def fn_LS_needBound_b0 (a1 : Int32) (a2 : Int32)  : Option ((Nat) ⊕ (Unit)) := if (a1 : Int32) < 0 then (some (.inl 9)) else (if (a1 : Int32) ≤ a2 then (some (.inr ())) else (some (.inl 9)))
noncomputable def fn_LS_needBound_b9 (a1 : Int32) (a2 : Int32)  : Option ((Nat) ⊕ (Unit)) := none
noncomputable def fn_LS_needBound (a1 : Int32) (a2 : Int32) : Nat → Option ((Nat) ⊕ (Unit)) := fun st => match st with
  | pc => if pc = 0 then fn_LS_needBound_b0 a1 a2 else if pc = 9 then fn_LS_needBound_b9 a1 a2 else none
theorem fn_LS_needBound_q0 (a1 : Int32) (a2 : Int32)  : fn_LS_needBound a1 a2 (0) = fn_LS_needBound_b0 a1 a2 := by simp [fn_LS_needBound]
theorem fn_LS_needBound_q9 (a1 : Int32) (a2 : Int32)  : fn_LS_needBound a1 a2 (9) = fn_LS_needBound_b9 a1 a2 := by simp [fn_LS_needBound]
set_option maxHeartbeats 4000000 in
set_option maxRecDepth 100000 in
theorem c_LS_needBound (l : Launch) (dC : Nat → ClassId) (dI : Nat → Nat → Nat) (a1 : Int32) (a2 : Int32) (sz : Nat) (out : Unit) (hs : sm_tot (fn_LS_needBound a1 a2) 0 = some out) : Met l y_LS_needBound (Cond.code y_LS_needBound b_LS_needBound 2 (Option.none : Option Jvm.ClassFile.FieldType) :: wd) { frames := 0, cells := 0, slots := 0, locals := 0 } (va_Pc [.int a1, .int a2] (fun U => U.heap.size = sz ∧ va_P (dC, dI) cls [] U.heap ∧ va_K (dC, dI) cls [] U ∧ va_D (fun _ => True) [] ∧ nw_ok U)) (va_Qv (fun _ : Unit => True) (fun (_ : Unit) t => va_P (dC, dI) cls [] t.heap ∧ va_K (dC, dI) cls [] t ∧ va_D (va_A [] sz) []) (va_A [] sz)) 0 0 (va_A [] sz) := by
  refine Met.ofW (cc := b_LS_needBound) (maxL := 2) (ret := (Option.none : Option Jvm.ClassFile.FieldType)) (by decide) rfl ?_
  intro p e s m args below meth c s₁ B hml hv
  obtain ⟨rfl, hsz, hP, hK, hD0, hN⟩ := hv
  have hx := B.exec
  have hb := B.bytes
  have hr := B.returns
  have hlocks := B.notSynchronized
  have hts : ∀ w ∈ wd, w.before ([.int a1, .int a2] : List Value).toArray s = true := fun w hw => atoms_spec (ws := (Cond.code y_LS_needBound b_LS_needBound 2 (Option.none : Option Jvm.ClassFile.FieldType) :: wd)) B.pre w (List.mem_cons_of_mem _ hw)
  have hown : s.vm.findClass "LeastSolutions" = some m.cls := findClass_of_methodNamed B.named
  subst hsz
  have hD := hD0.self (sz := s.heap.size)
  generalize hAe : va_A [] s.heap.size = A at hD ⊢
  have hA : ∀ q : Nat, s.heap.size ≤ q → A q := fun q h => by rw [← hAe]; exact Or.inr h
  have hS : va_S A s.heap s.heap [] := va_S.rf
  have hl := lv_entry ([.int a1, .int a2]) (n := 2) (Nat.le_of_ble_eq_true rfl)
  rw [lg_entry_eq]
  generalize (lg_sl ([.int a1, .int a2]) ++ List.replicate (2 - (lg_sl ([.int a1, .int a2])).length) Slot.unset).toArray = ls at hl ⊢
  have hl : lv_has ls 2 [(0, .int a1), (1, .int a2)] := hl
  obtain ⟨k8, hs⟩ := sm_of hs
  refine sm_key (fun R Q k9 => (∀ (H : Heap) (locs : List Loc) (ls : Array Slot) , sm_it (fn_LS_needBound a1 a2) k9 (9) = some out → va_P (dC, dI) cls [] H → va_D A [] → va_S A s.heap H locs → lv_has ls 2 [] → W p l e R s m ([.int a1, .int a2] : List Value).toArray below meth c H locs 0 0 Q (F0 m 9 ls []))) ?_ ?_ ?_
  · exact fun _ _ _  hs => by cases hs
  · intro k9 ih
    skip
    intro H locs ls  hs hP hD hS hl
    rw [sm_it_succ, fn_LS_needBound_q9] at hs
    unfold fn_LS_needBound_b9 at hs
    cases hs
  · intro key
    cases k8 with
    | zero => cases hs
    | succ k9 =>
      rw [sm_it_succ, fn_LS_needBound_q0] at hs
      unfold fn_LS_needBound_b0 at hs
      refine lv_iload_n hx hb d_LS_needBound_0 rfl (lv_at hl 0 rfl) ?_
      refine lv_if_lt (tgt := 9) hx hb d_LS_needBound_1 (by decide) (fun hc1 => ?_) (fun hc1 => ?_)
      · have hs := sm_pos hc1 hs
        exact (key k9) _ _ _  hs hP hD hS (lv_sub hl [] rfl)
      · have hs := sm_neg hc1 hs
        refine lv_iload_n hx hb d_LS_needBound_4 rfl (lv_at hl 0 rfl) ?_
        refine lv_iload_n hx hb d_LS_needBound_5 rfl (lv_at hl 1 rfl) ?_
        refine lv_icmp_le (tgt := 17) hx hb d_LS_needBound_6 (by decide) (fun hc2 => ?_) (fun hc2 => ?_)
        · have hs := sm_pos hc2 hs
          have he := sm_end hs
          subst he
          exact W.vret hx hb hr (fun t ht hW => ⟨⟨(), rfl, trivial, by rw [ht]; exact hP, va_K.moved hW.alike hK, hD⟩, hS.F ht⟩) hS.2.2 d_LS_needBound_17
        · have hs := sm_neg hc2 hs
          exact (key k9) _ _ _  hs hP hD hS (lv_sub hl [] rfl)

noncomputable def fn_LS_needTellable_b0 (a1 : Int32)  : Option ((Nat) ⊕ (Unit)) := if (a1 : Int32) < (-99) then (some (.inl 12)) else (if (a1 : Int32) ≤ 99 then (some (.inr ())) else (some (.inl 12)))
noncomputable def fn_LS_needTellable_b12 (a1 : Int32)  : Option ((Nat) ⊕ (Unit)) := none
noncomputable def fn_LS_needTellable (a1 : Int32) : Nat → Option ((Nat) ⊕ (Unit)) := fun st => match st with
  | pc => if pc = 0 then fn_LS_needTellable_b0 a1 else if pc = 12 then fn_LS_needTellable_b12 a1 else none
theorem fn_LS_needTellable_q0 (a1 : Int32)  : fn_LS_needTellable a1 (0) = fn_LS_needTellable_b0 a1 := by simp [fn_LS_needTellable]
theorem fn_LS_needTellable_q12 (a1 : Int32)  : fn_LS_needTellable a1 (12) = fn_LS_needTellable_b12 a1 := by simp [fn_LS_needTellable]
set_option maxHeartbeats 4000000 in
set_option maxRecDepth 100000 in
theorem c_LS_needTellable (l : Launch) (dC : Nat → ClassId) (dI : Nat → Nat → Nat) (a1 : Int32) (sz : Nat) (out : Unit) (hs : sm_tot (fn_LS_needTellable a1) 0 = some out) : Met l y_LS_needTellable (Cond.code y_LS_needTellable b_LS_needTellable 1 (Option.none : Option Jvm.ClassFile.FieldType) :: wd) { frames := 0, cells := 0, slots := 0, locals := 0 } (va_Pc [.int a1] (fun U => U.heap.size = sz ∧ va_P (dC, dI) cls [] U.heap ∧ va_K (dC, dI) cls [] U ∧ va_D (fun _ => True) [] ∧ nw_ok U)) (va_Qv (fun _ : Unit => True) (fun (_ : Unit) t => va_P (dC, dI) cls [] t.heap ∧ va_K (dC, dI) cls [] t ∧ va_D (va_A [] sz) []) (va_A [] sz)) 0 0 (va_A [] sz) := by
  refine Met.ofW (cc := b_LS_needTellable) (maxL := 1) (ret := (Option.none : Option Jvm.ClassFile.FieldType)) (by decide) rfl ?_
  intro p e s m args below meth c s₁ B hml hv
  obtain ⟨rfl, hsz, hP, hK, hD0, hN⟩ := hv
  have hx := B.exec
  have hb := B.bytes
  have hr := B.returns
  have hlocks := B.notSynchronized
  have hts : ∀ w ∈ wd, w.before ([.int a1] : List Value).toArray s = true := fun w hw => atoms_spec (ws := (Cond.code y_LS_needTellable b_LS_needTellable 1 (Option.none : Option Jvm.ClassFile.FieldType) :: wd)) B.pre w (List.mem_cons_of_mem _ hw)
  have hown : s.vm.findClass "LeastSolutions" = some m.cls := findClass_of_methodNamed B.named
  subst hsz
  have hD := hD0.self (sz := s.heap.size)
  generalize hAe : va_A [] s.heap.size = A at hD ⊢
  have hA : ∀ q : Nat, s.heap.size ≤ q → A q := fun q h => by rw [← hAe]; exact Or.inr h
  have hS : va_S A s.heap s.heap [] := va_S.rf
  have hl := lv_entry ([.int a1]) (n := 1) (Nat.le_of_ble_eq_true rfl)
  rw [lg_entry_eq]
  generalize (lg_sl ([.int a1]) ++ List.replicate (1 - (lg_sl ([.int a1])).length) Slot.unset).toArray = ls at hl ⊢
  have hl : lv_has ls 1 [(0, .int a1)] := hl
  obtain ⟨k8, hs⟩ := sm_of hs
  refine sm_key (fun R Q k9 => (∀ (H : Heap) (locs : List Loc) (ls : Array Slot) , sm_it (fn_LS_needTellable a1) k9 (12) = some out → va_P (dC, dI) cls [] H → va_D A [] → va_S A s.heap H locs → lv_has ls 1 [] → W p l e R s m ([.int a1] : List Value).toArray below meth c H locs 0 0 Q (F0 m 12 ls []))) ?_ ?_ ?_
  · exact fun _ _ _  hs => by cases hs
  · intro k9 ih
    skip
    intro H locs ls  hs hP hD hS hl
    rw [sm_it_succ, fn_LS_needTellable_q12] at hs
    unfold fn_LS_needTellable_b12 at hs
    cases hs
  · intro key
    cases k8 with
    | zero => cases hs
    | succ k9 =>
      rw [sm_it_succ, fn_LS_needTellable_q0] at hs
      unfold fn_LS_needTellable_b0 at hs
      refine lv_iload_n hx hb d_LS_needTellable_0 rfl (lv_at hl 0 rfl) ?_
      refine lv_bipush (v := (-99)) hx hb d_LS_needTellable_1 (by decide) ?_
      refine lv_icmp_lt (tgt := 12) hx hb d_LS_needTellable_3 (by decide) (fun hc1 => ?_) (fun hc1 => ?_)
      · have hs := sm_pos hc1 hs
        exact (key k9) _ _ _  hs hP hD hS (lv_sub hl [] rfl)
      · have hs := sm_neg hc1 hs
        refine lv_iload_n hx hb d_LS_needTellable_6 rfl (lv_at hl 0 rfl) ?_
        refine lv_bipush (v := 99) hx hb d_LS_needTellable_7 (by decide) ?_
        refine lv_icmp_le (tgt := 20) hx hb d_LS_needTellable_9 (by decide) (fun hc2 => ?_) (fun hc2 => ?_)
        · have hs := sm_pos hc2 hs
          have he := sm_end hs
          subst he
          exact W.vret hx hb hr (fun t ht hW => ⟨⟨(), rfl, trivial, by rw [ht]; exact hP, va_K.moved hW.alike hK, hD⟩, hS.F ht⟩) hS.2.2 d_LS_needTellable_20
        · have hs := sm_neg hc2 hs
          exact (key k9) _ _ _  hs hP hD hS (lv_sub hl [] rfl)

noncomputable def fn_LS_needSystem_b0 (v_ls_hasSystem : Int32)  : Option ((Nat) ⊕ (Unit)) := if (v_ls_hasSystem : Int32) = 0 then (none) else (some (.inr ()))
noncomputable def fn_LS_needSystem (v_ls_hasSystem : Int32) : Nat → Option ((Nat) ⊕ (Unit)) := fun st => match st with
  | pc => if pc = 0 then fn_LS_needSystem_b0 v_ls_hasSystem else none
theorem fn_LS_needSystem_q0 (v_ls_hasSystem : Int32)  : fn_LS_needSystem v_ls_hasSystem (0) = fn_LS_needSystem_b0 v_ls_hasSystem := by simp [fn_LS_needSystem]
set_option maxHeartbeats 4000000 in
set_option maxRecDepth 100000 in
theorem c_LS_needSystem (l : Launch) (dC : Nat → ClassId) (dI : Nat → Nat → Nat) (a_ls : Nat) (a_tx : Nat) (a_wo : Nat) (a_bu : Nat) (a_la : Nat) (a_se : Nat) (f_ls_lists : Nat) (a_ch : Nat) (f_ls_told : Nat) (f_ls_rest : Nat) (f_ls_taken : Nat) (f_ls_bestVector : Nat) (a_sy : Nat) (v_ls_hasSystem : Int32) (v_ls_hasSplit : Int32) (v_ls_hasBest : Int32) (v_ls_faultPlace : Int32) (sz : Nat) (out : Unit) (hs : sm_tot (fn_LS_needSystem v_ls_hasSystem) 0 = some out) : Met l y_LS_needSystem (Cond.code y_LS_needSystem b_LS_needSystem 1 (Option.none : Option Jvm.ClassFile.FieldType) :: wd) { frames := 0, cells := 0, slots := 0, locals := 0 } (va_Pc [.ref a_ls] (fun U => U.heap.size = sz ∧ va_P (dC, dI) cls [(a_ls, .inr (0, [.ref a_tx, .ref a_wo, .ref a_bu, .ref a_la, .ref a_se, .ref f_ls_lists, .ref a_ch, .ref f_ls_told, .ref f_ls_rest, .ref f_ls_taken, .ref f_ls_bestVector, .ref a_sy, .int v_ls_hasSystem, .int v_ls_hasSplit, .int v_ls_hasBest, .int v_ls_faultPlace]))] U.heap ∧ va_K (dC, dI) cls [] U ∧ va_D (fun _ => True) [(a_ls, .inr (0, [.ref a_tx, .ref a_wo, .ref a_bu, .ref a_la, .ref a_se, .ref f_ls_lists, .ref a_ch, .ref f_ls_told, .ref f_ls_rest, .ref f_ls_taken, .ref f_ls_bestVector, .ref a_sy, .int v_ls_hasSystem, .int v_ls_hasSplit, .int v_ls_hasBest, .int v_ls_faultPlace]))] ∧ nw_ok U)) (va_Qv (fun _ : Unit => True) (fun (_ : Unit) t => va_P (dC, dI) cls [(a_ls, .inr (0, [.ref a_tx, .ref a_wo, .ref a_bu, .ref a_la, .ref a_se, .ref f_ls_lists, .ref a_ch, .ref f_ls_told, .ref f_ls_rest, .ref f_ls_taken, .ref f_ls_bestVector, .ref a_sy, .int v_ls_hasSystem, .int v_ls_hasSplit, .int v_ls_hasBest, .int v_ls_faultPlace]))] t.heap ∧ va_K (dC, dI) cls [] t ∧ va_D (va_A [(a_ls, .inr (0, [.ref a_tx, .ref a_wo, .ref a_bu, .ref a_la, .ref a_se, .ref f_ls_lists, .ref a_ch, .ref f_ls_told, .ref f_ls_rest, .ref f_ls_taken, .ref f_ls_bestVector, .ref a_sy, .int v_ls_hasSystem, .int v_ls_hasSplit, .int v_ls_hasBest, .int v_ls_faultPlace]))] sz) [(a_ls, .inr (0, [.ref a_tx, .ref a_wo, .ref a_bu, .ref a_la, .ref a_se, .ref f_ls_lists, .ref a_ch, .ref f_ls_told, .ref f_ls_rest, .ref f_ls_taken, .ref f_ls_bestVector, .ref a_sy, .int v_ls_hasSystem, .int v_ls_hasSplit, .int v_ls_hasBest, .int v_ls_faultPlace]))]) (va_A [(a_ls, .inr (0, [.ref a_tx, .ref a_wo, .ref a_bu, .ref a_la, .ref a_se, .ref f_ls_lists, .ref a_ch, .ref f_ls_told, .ref f_ls_rest, .ref f_ls_taken, .ref f_ls_bestVector, .ref a_sy, .int v_ls_hasSystem, .int v_ls_hasSplit, .int v_ls_hasBest, .int v_ls_faultPlace]))] sz)) 0 0 (va_A [(a_ls, .inr (0, [.ref a_tx, .ref a_wo, .ref a_bu, .ref a_la, .ref a_se, .ref f_ls_lists, .ref a_ch, .ref f_ls_told, .ref f_ls_rest, .ref f_ls_taken, .ref f_ls_bestVector, .ref a_sy, .int v_ls_hasSystem, .int v_ls_hasSplit, .int v_ls_hasBest, .int v_ls_faultPlace]))] sz) := by
  refine Met.ofW (cc := b_LS_needSystem) (maxL := 1) (ret := (Option.none : Option Jvm.ClassFile.FieldType)) (by decide) rfl ?_
  intro p e s m args below meth c s₁ B hml hv
  obtain ⟨rfl, hsz, hP, hK, hD0, hN⟩ := hv
  have hx := B.exec
  have hb := B.bytes
  have hr := B.returns
  have hlocks := B.notSynchronized
  have hts : ∀ w ∈ wd, w.before ([.ref a_ls] : List Value).toArray s = true := fun w hw => atoms_spec (ws := (Cond.code y_LS_needSystem b_LS_needSystem 1 (Option.none : Option Jvm.ClassFile.FieldType) :: wd)) B.pre w (List.mem_cons_of_mem _ hw)
  have hown : s.vm.findClass "LeastSolutions" = some m.cls := findClass_of_methodNamed B.named
  subst hsz
  have hD := hD0.self (sz := s.heap.size)
  generalize hAe : va_A [(a_ls, .inr (0, [.ref a_tx, .ref a_wo, .ref a_bu, .ref a_la, .ref a_se, .ref f_ls_lists, .ref a_ch, .ref f_ls_told, .ref f_ls_rest, .ref f_ls_taken, .ref f_ls_bestVector, .ref a_sy, .int v_ls_hasSystem, .int v_ls_hasSplit, .int v_ls_hasBest, .int v_ls_faultPlace]))] s.heap.size = A at hD ⊢
  have hA : ∀ q : Nat, s.heap.size ≤ q → A q := fun q h => by rw [← hAe]; exact Or.inr h
  have hS : va_S A s.heap s.heap [] := va_S.rf
  have hl := lv_entry ([.ref a_ls]) (n := 1) (Nat.le_of_ble_eq_true rfl)
  rw [lg_entry_eq]
  generalize (lg_sl ([.ref a_ls]) ++ List.replicate (1 - (lg_sl ([.ref a_ls])).length) Slot.unset).toArray = ls at hl ⊢
  have hl : lv_has ls 1 [(0, .ref a_ls)] := hl
  obtain ⟨k8, hs⟩ := sm_of hs
  cases k8 with
  | zero => cases hs
  | succ k9 =>
    rw [sm_it_succ, fn_LS_needSystem_q0] at hs
    unfold fn_LS_needSystem_b0 at hs
    refine lv_aload_n hx hb d_LS_needSystem_0 rfl (lv_at hl 0 rfl) ?_
    refine va_get (D := (dC, dI)) (ci := 0) (v := .int v_ls_hasSystem) (C := R_LS) (T := T_LS) (N := 16) hx hb hts in_LS hown hK hP 0 rfl rfl 12 (by decide) (hts _ k_301) (fun _ h9 => h9) rfl d_LS_needSystem_1 ?_
    refine lv_if_ne (tgt := 15) hx hb d_LS_needSystem_4 (by decide) (fun hc1 => ?_) (fun hc1 => ?_)
    · have hs := sm_neg hc1 hs
      have he := sm_end hs
      subst he
      exact W.vret hx hb hr (fun t ht hW => ⟨⟨(), rfl, trivial, by rw [ht]; exact hP, va_K.moved hW.alike hK, hD⟩, hS.F ht⟩) hS.2.2 d_LS_needSystem_15
    · have hs := sm_pos hc1 hs
      cases hs

noncomputable def fn_LS_hasColumn_b0 (a1 : Int32) (v_sy_variables : Int32) (v_sy_slacks : Int32) (_z0 : Int32) : Option ((Nat × Int32) ⊕ (Int32)) := if (a1 : Int32) < 0 then (some (.inl (19, 0))) else ((sm_tot (fn_EQ_columns v_sy_variables v_sy_slacks) 0).bind (fun r1 => if (r1 : Int32) ≤ a1 then (some (.inl (19, 0))) else (some (.inl (20, 1)))))
noncomputable def fn_LS_hasColumn_b19 (a1 : Int32) (v_sy_variables : Int32) (v_sy_slacks : Int32) (s0i : Int32) : Option ((Nat × Int32) ⊕ (Int32)) := some (.inl (20, 0))
noncomputable def fn_LS_hasColumn_b20 (a1 : Int32) (v_sy_variables : Int32) (v_sy_slacks : Int32) (s0i : Int32) : Option ((Nat × Int32) ⊕ (Int32)) := if ((s0i : Int32) = 0 ∨ (s0i : Int32) = 1) then some (.inr s0i) else none
noncomputable def fn_LS_hasColumn (a1 : Int32) (v_sy_variables : Int32) (v_sy_slacks : Int32) : Nat × Int32 → Option ((Nat × Int32) ⊕ (Int32)) := fun st => match st with
  | (pc, s0i) => if pc = 0 then fn_LS_hasColumn_b0 a1 v_sy_variables v_sy_slacks s0i else if pc = 19 then fn_LS_hasColumn_b19 a1 v_sy_variables v_sy_slacks s0i else if pc = 20 then fn_LS_hasColumn_b20 a1 v_sy_variables v_sy_slacks s0i else none
theorem fn_LS_hasColumn_q0 (a1 : Int32) (v_sy_variables : Int32) (v_sy_slacks : Int32) (s0i : Int32) : fn_LS_hasColumn a1 v_sy_variables v_sy_slacks (0, s0i) = fn_LS_hasColumn_b0 a1 v_sy_variables v_sy_slacks s0i := by simp [fn_LS_hasColumn]
theorem fn_LS_hasColumn_q19 (a1 : Int32) (v_sy_variables : Int32) (v_sy_slacks : Int32) (s0i : Int32) : fn_LS_hasColumn a1 v_sy_variables v_sy_slacks (19, s0i) = fn_LS_hasColumn_b19 a1 v_sy_variables v_sy_slacks s0i := by simp [fn_LS_hasColumn]
theorem fn_LS_hasColumn_q20 (a1 : Int32) (v_sy_variables : Int32) (v_sy_slacks : Int32) (s0i : Int32) : fn_LS_hasColumn a1 v_sy_variables v_sy_slacks (20, s0i) = fn_LS_hasColumn_b20 a1 v_sy_variables v_sy_slacks s0i := by simp [fn_LS_hasColumn]
set_option maxHeartbeats 4000000 in
set_option maxRecDepth 100000 in
theorem c_LS_hasColumn (l : Launch) (dC : Nat → ClassId) (dI : Nat → Nat → Nat) (a_ls : Nat) (a_tx : Nat) (a_wo : Nat) (a_bu : Nat) (a_la : Nat) (a_se : Nat) (f_ls_lists : Nat) (a_ch : Nat) (f_ls_told : Nat) (f_ls_rest : Nat) (f_ls_taken : Nat) (f_ls_bestVector : Nat) (a_sy : Nat) (v_ls_hasSystem : Int32) (v_ls_hasSplit : Int32) (v_ls_hasBest : Int32) (v_ls_faultPlace : Int32) (f_sy_a : Nat) (f_sy_b : Nat) (f_sy_letters : Nat) (f_sy_slackRows : Nat) (f_sy_slackNumbers : Nat) (v_sy_rows : Int32) (v_sy_variables : Int32) (v_sy_slacks : Int32) (a1 : Int32) (sz : Nat) (out : Int32) (hs : sm_tot (fn_LS_hasColumn a1 v_sy_variables v_sy_slacks) (0, 0) = some out) : Met l y_LS_hasColumn (Cond.code y_LS_hasColumn b_LS_hasColumn 2 (Option.some Jvm.ClassFile.FieldType.boolean) :: wd) { frames := 1, cells := 0, slots := 0, locals := 20 } (va_Pc [.ref a_ls, .int a1] (fun U => U.heap.size = sz ∧ va_P (dC, dI) cls [(a_ls, .inr (0, [.ref a_tx, .ref a_wo, .ref a_bu, .ref a_la, .ref a_se, .ref f_ls_lists, .ref a_ch, .ref f_ls_told, .ref f_ls_rest, .ref f_ls_taken, .ref f_ls_bestVector, .ref a_sy, .int v_ls_hasSystem, .int v_ls_hasSplit, .int v_ls_hasBest, .int v_ls_faultPlace])), (a_sy, .inr (4, [.ref f_sy_a, .ref f_sy_b, .ref f_sy_letters, .ref f_sy_slackRows, .ref f_sy_slackNumbers, .int v_sy_rows, .int v_sy_variables, .int v_sy_slacks]))] U.heap ∧ va_K (dC, dI) cls [] U ∧ va_D (fun _ => True) [(a_ls, .inr (0, [.ref a_tx, .ref a_wo, .ref a_bu, .ref a_la, .ref a_se, .ref f_ls_lists, .ref a_ch, .ref f_ls_told, .ref f_ls_rest, .ref f_ls_taken, .ref f_ls_bestVector, .ref a_sy, .int v_ls_hasSystem, .int v_ls_hasSplit, .int v_ls_hasBest, .int v_ls_faultPlace])), (a_sy, .inr (4, [.ref f_sy_a, .ref f_sy_b, .ref f_sy_letters, .ref f_sy_slackRows, .ref f_sy_slackNumbers, .int v_sy_rows, .int v_sy_variables, .int v_sy_slacks]))] ∧ nw_ok U)) (va_Qi (fun r (_ : Unit) => r = out) (fun (_ : Unit) t => va_P (dC, dI) cls [(a_ls, .inr (0, [.ref a_tx, .ref a_wo, .ref a_bu, .ref a_la, .ref a_se, .ref f_ls_lists, .ref a_ch, .ref f_ls_told, .ref f_ls_rest, .ref f_ls_taken, .ref f_ls_bestVector, .ref a_sy, .int v_ls_hasSystem, .int v_ls_hasSplit, .int v_ls_hasBest, .int v_ls_faultPlace])), (a_sy, .inr (4, [.ref f_sy_a, .ref f_sy_b, .ref f_sy_letters, .ref f_sy_slackRows, .ref f_sy_slackNumbers, .int v_sy_rows, .int v_sy_variables, .int v_sy_slacks]))] t.heap ∧ va_K (dC, dI) cls [] t ∧ va_D (va_A [(a_ls, .inr (0, [.ref a_tx, .ref a_wo, .ref a_bu, .ref a_la, .ref a_se, .ref f_ls_lists, .ref a_ch, .ref f_ls_told, .ref f_ls_rest, .ref f_ls_taken, .ref f_ls_bestVector, .ref a_sy, .int v_ls_hasSystem, .int v_ls_hasSplit, .int v_ls_hasBest, .int v_ls_faultPlace])), (a_sy, .inr (4, [.ref f_sy_a, .ref f_sy_b, .ref f_sy_letters, .ref f_sy_slackRows, .ref f_sy_slackNumbers, .int v_sy_rows, .int v_sy_variables, .int v_sy_slacks]))] sz) [(a_ls, .inr (0, [.ref a_tx, .ref a_wo, .ref a_bu, .ref a_la, .ref a_se, .ref f_ls_lists, .ref a_ch, .ref f_ls_told, .ref f_ls_rest, .ref f_ls_taken, .ref f_ls_bestVector, .ref a_sy, .int v_ls_hasSystem, .int v_ls_hasSplit, .int v_ls_hasBest, .int v_ls_faultPlace])), (a_sy, .inr (4, [.ref f_sy_a, .ref f_sy_b, .ref f_sy_letters, .ref f_sy_slackRows, .ref f_sy_slackNumbers, .int v_sy_rows, .int v_sy_variables, .int v_sy_slacks]))]) (va_A [(a_ls, .inr (0, [.ref a_tx, .ref a_wo, .ref a_bu, .ref a_la, .ref a_se, .ref f_ls_lists, .ref a_ch, .ref f_ls_told, .ref f_ls_rest, .ref f_ls_taken, .ref f_ls_bestVector, .ref a_sy, .int v_ls_hasSystem, .int v_ls_hasSplit, .int v_ls_hasBest, .int v_ls_faultPlace])), (a_sy, .inr (4, [.ref f_sy_a, .ref f_sy_b, .ref f_sy_letters, .ref f_sy_slackRows, .ref f_sy_slackNumbers, .int v_sy_rows, .int v_sy_variables, .int v_sy_slacks]))] sz)) 0 0 (va_A [(a_ls, .inr (0, [.ref a_tx, .ref a_wo, .ref a_bu, .ref a_la, .ref a_se, .ref f_ls_lists, .ref a_ch, .ref f_ls_told, .ref f_ls_rest, .ref f_ls_taken, .ref f_ls_bestVector, .ref a_sy, .int v_ls_hasSystem, .int v_ls_hasSplit, .int v_ls_hasBest, .int v_ls_faultPlace])), (a_sy, .inr (4, [.ref f_sy_a, .ref f_sy_b, .ref f_sy_letters, .ref f_sy_slackRows, .ref f_sy_slackNumbers, .int v_sy_rows, .int v_sy_variables, .int v_sy_slacks]))] sz) := by
  refine Met.ofW (cc := b_LS_hasColumn) (maxL := 2) (ret := (Option.some Jvm.ClassFile.FieldType.boolean)) (by decide) rfl ?_
  intro p e s m args below meth c s₁ B hml hv
  obtain ⟨rfl, hsz, hP, hK, hD0, hN⟩ := hv
  have hx := B.exec
  have hb := B.bytes
  have hr := B.returns
  have hlocks := B.notSynchronized
  have hts : ∀ w ∈ wd, w.before ([.ref a_ls, .int a1] : List Value).toArray s = true := fun w hw => atoms_spec (ws := (Cond.code y_LS_hasColumn b_LS_hasColumn 2 (Option.some Jvm.ClassFile.FieldType.boolean) :: wd)) B.pre w (List.mem_cons_of_mem _ hw)
  have hown : s.vm.findClass "LeastSolutions" = some m.cls := findClass_of_methodNamed B.named
  subst hsz
  have hD := hD0.self (sz := s.heap.size)
  generalize hAe : va_A [(a_ls, .inr (0, [.ref a_tx, .ref a_wo, .ref a_bu, .ref a_la, .ref a_se, .ref f_ls_lists, .ref a_ch, .ref f_ls_told, .ref f_ls_rest, .ref f_ls_taken, .ref f_ls_bestVector, .ref a_sy, .int v_ls_hasSystem, .int v_ls_hasSplit, .int v_ls_hasBest, .int v_ls_faultPlace])), (a_sy, .inr (4, [.ref f_sy_a, .ref f_sy_b, .ref f_sy_letters, .ref f_sy_slackRows, .ref f_sy_slackNumbers, .int v_sy_rows, .int v_sy_variables, .int v_sy_slacks]))] s.heap.size = A at hD ⊢
  have hA : ∀ q : Nat, s.heap.size ≤ q → A q := fun q h => by rw [← hAe]; exact Or.inr h
  have hS : va_S A s.heap s.heap [] := va_S.rf
  have hl := lv_entry ([.ref a_ls, .int a1]) (n := 2) (Nat.le_of_ble_eq_true rfl)
  rw [lg_entry_eq]
  generalize (lg_sl ([.ref a_ls, .int a1]) ++ List.replicate (2 - (lg_sl ([.ref a_ls, .int a1])).length) Slot.unset).toArray = ls at hl ⊢
  have hl : lv_has ls 2 [(0, .ref a_ls), (1, .int a1)] := hl
  obtain ⟨k8, hs⟩ := sm_of hs
  refine sm_key (fun R Q k9 => (∀ (H : Heap) (locs : List Loc) (ls : Array Slot) (s0i : Int32), sm_it (fn_LS_hasColumn a1 v_sy_variables v_sy_slacks) k9 (19, s0i) = some out → va_P (dC, dI) cls [(a_ls, .inr (0, [.ref a_tx, .ref a_wo, .ref a_bu, .ref a_la, .ref a_se, .ref f_ls_lists, .ref a_ch, .ref f_ls_told, .ref f_ls_rest, .ref f_ls_taken, .ref f_ls_bestVector, .ref a_sy, .int v_ls_hasSystem, .int v_ls_hasSplit, .int v_ls_hasBest, .int v_ls_faultPlace])), (a_sy, .inr (4, [.ref f_sy_a, .ref f_sy_b, .ref f_sy_letters, .ref f_sy_slackRows, .ref f_sy_slackNumbers, .int v_sy_rows, .int v_sy_variables, .int v_sy_slacks]))] H → va_D A [(a_ls, .inr (0, [.ref a_tx, .ref a_wo, .ref a_bu, .ref a_la, .ref a_se, .ref f_ls_lists, .ref a_ch, .ref f_ls_told, .ref f_ls_rest, .ref f_ls_taken, .ref f_ls_bestVector, .ref a_sy, .int v_ls_hasSystem, .int v_ls_hasSplit, .int v_ls_hasBest, .int v_ls_faultPlace])), (a_sy, .inr (4, [.ref f_sy_a, .ref f_sy_b, .ref f_sy_letters, .ref f_sy_slackRows, .ref f_sy_slackNumbers, .int v_sy_rows, .int v_sy_variables, .int v_sy_slacks]))] → va_S A s.heap H locs → lv_has ls 2 [] → W p l e R s m ([.ref a_ls, .int a1] : List Value).toArray below meth c H locs 0 0 Q (F0 m 19 ls [])) ∧ (∀ (H : Heap) (locs : List Loc) (ls : Array Slot) (s0i : Int32), sm_it (fn_LS_hasColumn a1 v_sy_variables v_sy_slacks) k9 (20, s0i) = some out → va_P (dC, dI) cls [(a_ls, .inr (0, [.ref a_tx, .ref a_wo, .ref a_bu, .ref a_la, .ref a_se, .ref f_ls_lists, .ref a_ch, .ref f_ls_told, .ref f_ls_rest, .ref f_ls_taken, .ref f_ls_bestVector, .ref a_sy, .int v_ls_hasSystem, .int v_ls_hasSplit, .int v_ls_hasBest, .int v_ls_faultPlace])), (a_sy, .inr (4, [.ref f_sy_a, .ref f_sy_b, .ref f_sy_letters, .ref f_sy_slackRows, .ref f_sy_slackNumbers, .int v_sy_rows, .int v_sy_variables, .int v_sy_slacks]))] H → va_D A [(a_ls, .inr (0, [.ref a_tx, .ref a_wo, .ref a_bu, .ref a_la, .ref a_se, .ref f_ls_lists, .ref a_ch, .ref f_ls_told, .ref f_ls_rest, .ref f_ls_taken, .ref f_ls_bestVector, .ref a_sy, .int v_ls_hasSystem, .int v_ls_hasSplit, .int v_ls_hasBest, .int v_ls_faultPlace])), (a_sy, .inr (4, [.ref f_sy_a, .ref f_sy_b, .ref f_sy_letters, .ref f_sy_slackRows, .ref f_sy_slackNumbers, .int v_sy_rows, .int v_sy_variables, .int v_sy_slacks]))] → va_S A s.heap H locs → lv_has ls 2 [] → W p l e R s m ([.ref a_ls, .int a1] : List Value).toArray below meth c H locs 0 0 Q (F0 m 20 ls [.int s0i]))) ?_ ?_ ?_
  · exact ⟨(fun _ _ _ _ hs => by cases hs), (fun _ _ _ _ hs => by cases hs)⟩
  · intro k9 ih
    refine ⟨?_, ?_⟩
    · intro H locs ls s0i hs hP hD hS hl
      rw [sm_it_succ, fn_LS_hasColumn_q19] at hs
      unfold fn_LS_hasColumn_b19 at hs
      refine lv_iconst (v := 0) hx hb d_LS_hasColumn_19 (by decide) ?_
      exact ih.2 _ _ _ _ hs hP hD hS (lv_sub hl [] rfl)
    · intro H locs ls s0i hs hP hD hS hl
      rw [sm_it_succ, fn_LS_hasColumn_q20] at hs
      unfold fn_LS_hasColumn_b20 at hs
      obtain ⟨hg1, hs⟩ := sm_gd hs
      have he := sm_end hs
      subst he
      exact W.zret (v := s0i) (ty := .boolean) hx hb hr (by rcases hg1 with h9 | h9 <;> rw [h9] <;> rfl) (fun t ht hW => ⟨⟨s0i, (), rfl, rfl, by rw [ht]; exact hP, va_K.moved hW.alike hK, hD⟩, hS.F ht⟩) hS.2.2 d_LS_hasColumn_20
  · intro key
    cases k8 with
    | zero => cases hs
    | succ k9 =>
      rw [sm_it_succ, fn_LS_hasColumn_q0] at hs
      unfold fn_LS_hasColumn_b0 at hs
      refine lv_iload_n hx hb d_LS_hasColumn_0 rfl (lv_at hl 1 rfl) ?_
      refine lv_if_lt (tgt := 19) hx hb d_LS_hasColumn_1 (by decide) (fun hc1 => ?_) (fun hc1 => ?_)
      · have hs := sm_pos hc1 hs
        exact (key k9).1 _ _ _ _ hs hP hD hS (lv_sub hl [] rfl)
      · have hs := sm_neg hc1 hs
        refine lv_iload_n hx hb d_LS_hasColumn_4 rfl (lv_at hl 1 rfl) ?_
        refine lv_aload_n hx hb d_LS_hasColumn_5 rfl (lv_at hl 0 rfl) ?_
        refine va_get (D := (dC, dI)) (ci := 0) (v := .ref a_sy) (C := R_LS) (T := T_LS) (N := 16) hx hb hts in_LS hown hK hP 0 rfl rfl 11 (by decide) (hts _ k_300) (fun _ h9 => h9) rfl d_LS_hasColumn_6 ?_
        obtain ⟨r1, hq1, hs⟩ := sm_bd hs
        have hPc := hP.sub (ws' := [(a_sy, .inr (4, [.ref f_sy_a, .ref f_sy_b, .ref f_sy_letters, .ref f_sy_slackRows, .ref f_sy_slackNumbers, .int v_sy_rows, .int v_sy_variables, .int v_sy_slacks]))]) [1] rfl
        have hDc := hD.sub (ws' := [(a_sy, .inr (4, [.ref f_sy_a, .ref f_sy_b, .ref f_sy_letters, .ref f_sy_slackRows, .ref f_sy_slackNumbers, .int v_sy_rows, .int v_sy_variables, .int v_sy_slacks]))]) [1] (by decide) rfl
        have hKc := hK.sub (tys' := []) [] rfl
        have hFc := va_free (wc := [(a_sy, .inr (4, [.ref f_sy_a, .ref f_sy_b, .ref f_sy_letters, .ref f_sy_slackRows, .ref f_sy_slackNumbers, .int v_sy_rows, .int v_sy_variables, .int v_sy_slacks]))]) hD hS hA [1] rfl
        refine va_calli (va_runV (As := []) (rest := [.int a1]) ⟨hx, hb, hml, hown, hts⟩ (c_EQ_columns l dC dI (a_sy) (f_sy_a) (f_sy_b) (f_sy_letters) (f_sy_slackRows) (f_sy_slackNumbers) (v_sy_rows) (v_sy_variables) (v_sy_slacks) s.heap.size r1 hq1) (wd_V (C := "LeastSolutions$Equations") 0 hts k_440 k_5 k_534 k_438 k_439 rfl rfl (by decide +kernel) ⟨Nat.le_of_ble_eq_true rfl, Nat.le_of_ble_eq_true rfl⟩) ⟨fun a U g mk q => by obtain ⟨q0, q1, qP, qK, qD, qN⟩ := q; exact ⟨q0, q1, qP, va_K.moved (u := U) (U := U.calling g mk a) (Vm.Alike.refl U.vm) qK, qD, nw_ok.same (s := U) (U := U.calling g mk a) rfl qN⟩, va_recv (ci := 4) (q0 := 1) hK hP rfl rfl, fun U hU hW => ⟨rfl, by rw [hU], by rw [hU]; exact hPc, va_K.moved hW.alike hKc, hDc.weaken (fun _ _ _ _ => trivial), nw_ok.warm hW hN⟩⟩ rfl rfl hl.1 rfl (lv_room (Nat.le_of_ble_eq_true rfl)) d_LS_hasColumn_9 ⟨Nat.le_of_ble_eq_true rfl, Nat.le_of_ble_eq_true rfl⟩) hS (fun q _ h => hFc q h) hFc (fun q1 u t H1 locs ht hvm hr1 hB hz1 hk1 hS => ?_)
        have hr1 := (show q1 = r1 from hr1).symm
        subst hr1
        obtain ⟨hP1, hK1, hD1⟩ := hB
        rw [ht] at hP1
        have hK1 := va_K.moved hvm.symm hK1
        obtain ⟨hP, hD⟩ := va_join (wr := [(a_ls, .inr (0, [.ref a_tx, .ref a_wo, .ref a_bu, .ref a_la, .ref a_se, .ref f_ls_lists, .ref a_ch, .ref f_ls_told, .ref f_ls_rest, .ref f_ls_taken, .ref f_ls_bestVector, .ref a_sy, .int v_ls_hasSystem, .int v_ls_hasSplit, .int v_ls_hasBest, .int v_ls_faultPlace]))]) (w1 := [(a_sy, .inr (4, [.ref f_sy_a, .ref f_sy_b, .ref f_sy_letters, .ref f_sy_slackRows, .ref f_sy_slackNumbers, .int v_sy_rows, .int v_sy_variables, .int v_sy_slacks]))]) hP hD [1] [0] rfl rfl (by decide) (by decide) hk1 hFc hP1 hD1
        have hK := (hK.sub (tys' := []) [] rfl).app hK1
        have hK : va_K (dC, dI) cls [] s := hK
        have hP : va_P (dC, dI) cls [(a_ls, .inr (0, [.ref a_tx, .ref a_wo, .ref a_bu, .ref a_la, .ref a_se, .ref f_ls_lists, .ref a_ch, .ref f_ls_told, .ref f_ls_rest, .ref f_ls_taken, .ref f_ls_bestVector, .ref a_sy, .int v_ls_hasSystem, .int v_ls_hasSplit, .int v_ls_hasBest, .int v_ls_faultPlace])), (a_sy, .inr (4, [.ref f_sy_a, .ref f_sy_b, .ref f_sy_letters, .ref f_sy_slackRows, .ref f_sy_slackNumbers, .int v_sy_rows, .int v_sy_variables, .int v_sy_slacks]))] H1 := hP
        have hD : va_D A [(a_ls, .inr (0, [.ref a_tx, .ref a_wo, .ref a_bu, .ref a_la, .ref a_se, .ref f_ls_lists, .ref a_ch, .ref f_ls_told, .ref f_ls_rest, .ref f_ls_taken, .ref f_ls_bestVector, .ref a_sy, .int v_ls_hasSystem, .int v_ls_hasSplit, .int v_ls_hasBest, .int v_ls_faultPlace])), (a_sy, .inr (4, [.ref f_sy_a, .ref f_sy_b, .ref f_sy_letters, .ref f_sy_slackRows, .ref f_sy_slackNumbers, .int v_sy_rows, .int v_sy_variables, .int v_sy_slacks]))] := hD
        refine lv_icmp_ge (tgt := 19) hx hb d_LS_hasColumn_12 (by decide) (fun hc2 => ?_) (fun hc2 => ?_)
        · have hs := sm_pos hc2 hs
          exact (key k9).1 _ _ _ _ hs hP hD hS (lv_sub hl [] rfl)
        · have hs := sm_neg hc2 hs
          refine lv_iconst (v := 1) hx hb d_LS_hasColumn_15 (by decide) ?_
          refine lv_goto (tgt := 20) hx hb d_LS_hasColumn_16 (by decide) ?_
          exact (key k9).2 _ _ _ _ hs hP hD hS (lv_sub hl [] rfl)

noncomputable def fn_LS_needColumn_b0 (a1 : Int32) (v_sy_variables : Int32) (v_sy_slacks : Int32)  : Option ((Nat) ⊕ (Unit)) := (sm_tot (fn_LS_hasColumn a1 v_sy_variables v_sy_slacks) (0, 0)).bind (fun r1 => if (r1 : Int32) = 0 then (none) else (some (.inr ())))
noncomputable def fn_LS_needColumn (a1 : Int32) (v_sy_variables : Int32) (v_sy_slacks : Int32) : Nat → Option ((Nat) ⊕ (Unit)) := fun st => match st with
  | pc => if pc = 0 then fn_LS_needColumn_b0 a1 v_sy_variables v_sy_slacks else none
theorem fn_LS_needColumn_q0 (a1 : Int32) (v_sy_variables : Int32) (v_sy_slacks : Int32)  : fn_LS_needColumn a1 v_sy_variables v_sy_slacks (0) = fn_LS_needColumn_b0 a1 v_sy_variables v_sy_slacks := by simp [fn_LS_needColumn]
set_option maxHeartbeats 4000000 in
set_option maxRecDepth 100000 in
theorem c_LS_needColumn (l : Launch) (dC : Nat → ClassId) (dI : Nat → Nat → Nat) (a_ls : Nat) (a_tx : Nat) (a_wo : Nat) (a_bu : Nat) (a_la : Nat) (a_se : Nat) (f_ls_lists : Nat) (a_ch : Nat) (f_ls_told : Nat) (f_ls_rest : Nat) (f_ls_taken : Nat) (f_ls_bestVector : Nat) (a_sy : Nat) (v_ls_hasSystem : Int32) (v_ls_hasSplit : Int32) (v_ls_hasBest : Int32) (v_ls_faultPlace : Int32) (f_sy_a : Nat) (f_sy_b : Nat) (f_sy_letters : Nat) (f_sy_slackRows : Nat) (f_sy_slackNumbers : Nat) (v_sy_rows : Int32) (v_sy_variables : Int32) (v_sy_slacks : Int32) (a1 : Int32) (sz : Nat) (out : Unit) (hs : sm_tot (fn_LS_needColumn a1 v_sy_variables v_sy_slacks) 0 = some out) : Met l y_LS_needColumn (Cond.code y_LS_needColumn b_LS_needColumn 2 (Option.none : Option Jvm.ClassFile.FieldType) :: wd) { frames := 2, cells := 0, slots := 0, locals := 41 } (va_Pc [.ref a_ls, .int a1] (fun U => U.heap.size = sz ∧ va_P (dC, dI) cls [(a_ls, .inr (0, [.ref a_tx, .ref a_wo, .ref a_bu, .ref a_la, .ref a_se, .ref f_ls_lists, .ref a_ch, .ref f_ls_told, .ref f_ls_rest, .ref f_ls_taken, .ref f_ls_bestVector, .ref a_sy, .int v_ls_hasSystem, .int v_ls_hasSplit, .int v_ls_hasBest, .int v_ls_faultPlace])), (a_sy, .inr (4, [.ref f_sy_a, .ref f_sy_b, .ref f_sy_letters, .ref f_sy_slackRows, .ref f_sy_slackNumbers, .int v_sy_rows, .int v_sy_variables, .int v_sy_slacks]))] U.heap ∧ va_K (dC, dI) cls [] U ∧ va_D (fun _ => True) [(a_ls, .inr (0, [.ref a_tx, .ref a_wo, .ref a_bu, .ref a_la, .ref a_se, .ref f_ls_lists, .ref a_ch, .ref f_ls_told, .ref f_ls_rest, .ref f_ls_taken, .ref f_ls_bestVector, .ref a_sy, .int v_ls_hasSystem, .int v_ls_hasSplit, .int v_ls_hasBest, .int v_ls_faultPlace])), (a_sy, .inr (4, [.ref f_sy_a, .ref f_sy_b, .ref f_sy_letters, .ref f_sy_slackRows, .ref f_sy_slackNumbers, .int v_sy_rows, .int v_sy_variables, .int v_sy_slacks]))] ∧ nw_ok U)) (va_Qv (fun _ : Unit => True) (fun (_ : Unit) t => va_P (dC, dI) cls [(a_ls, .inr (0, [.ref a_tx, .ref a_wo, .ref a_bu, .ref a_la, .ref a_se, .ref f_ls_lists, .ref a_ch, .ref f_ls_told, .ref f_ls_rest, .ref f_ls_taken, .ref f_ls_bestVector, .ref a_sy, .int v_ls_hasSystem, .int v_ls_hasSplit, .int v_ls_hasBest, .int v_ls_faultPlace])), (a_sy, .inr (4, [.ref f_sy_a, .ref f_sy_b, .ref f_sy_letters, .ref f_sy_slackRows, .ref f_sy_slackNumbers, .int v_sy_rows, .int v_sy_variables, .int v_sy_slacks]))] t.heap ∧ va_K (dC, dI) cls [] t ∧ va_D (va_A [(a_ls, .inr (0, [.ref a_tx, .ref a_wo, .ref a_bu, .ref a_la, .ref a_se, .ref f_ls_lists, .ref a_ch, .ref f_ls_told, .ref f_ls_rest, .ref f_ls_taken, .ref f_ls_bestVector, .ref a_sy, .int v_ls_hasSystem, .int v_ls_hasSplit, .int v_ls_hasBest, .int v_ls_faultPlace])), (a_sy, .inr (4, [.ref f_sy_a, .ref f_sy_b, .ref f_sy_letters, .ref f_sy_slackRows, .ref f_sy_slackNumbers, .int v_sy_rows, .int v_sy_variables, .int v_sy_slacks]))] sz) [(a_ls, .inr (0, [.ref a_tx, .ref a_wo, .ref a_bu, .ref a_la, .ref a_se, .ref f_ls_lists, .ref a_ch, .ref f_ls_told, .ref f_ls_rest, .ref f_ls_taken, .ref f_ls_bestVector, .ref a_sy, .int v_ls_hasSystem, .int v_ls_hasSplit, .int v_ls_hasBest, .int v_ls_faultPlace])), (a_sy, .inr (4, [.ref f_sy_a, .ref f_sy_b, .ref f_sy_letters, .ref f_sy_slackRows, .ref f_sy_slackNumbers, .int v_sy_rows, .int v_sy_variables, .int v_sy_slacks]))]) (va_A [(a_ls, .inr (0, [.ref a_tx, .ref a_wo, .ref a_bu, .ref a_la, .ref a_se, .ref f_ls_lists, .ref a_ch, .ref f_ls_told, .ref f_ls_rest, .ref f_ls_taken, .ref f_ls_bestVector, .ref a_sy, .int v_ls_hasSystem, .int v_ls_hasSplit, .int v_ls_hasBest, .int v_ls_faultPlace])), (a_sy, .inr (4, [.ref f_sy_a, .ref f_sy_b, .ref f_sy_letters, .ref f_sy_slackRows, .ref f_sy_slackNumbers, .int v_sy_rows, .int v_sy_variables, .int v_sy_slacks]))] sz)) 0 0 (va_A [(a_ls, .inr (0, [.ref a_tx, .ref a_wo, .ref a_bu, .ref a_la, .ref a_se, .ref f_ls_lists, .ref a_ch, .ref f_ls_told, .ref f_ls_rest, .ref f_ls_taken, .ref f_ls_bestVector, .ref a_sy, .int v_ls_hasSystem, .int v_ls_hasSplit, .int v_ls_hasBest, .int v_ls_faultPlace])), (a_sy, .inr (4, [.ref f_sy_a, .ref f_sy_b, .ref f_sy_letters, .ref f_sy_slackRows, .ref f_sy_slackNumbers, .int v_sy_rows, .int v_sy_variables, .int v_sy_slacks]))] sz) := by
  refine Met.ofW (cc := b_LS_needColumn) (maxL := 2) (ret := (Option.none : Option Jvm.ClassFile.FieldType)) (by decide) rfl ?_
  intro p e s m args below meth c s₁ B hml hv
  obtain ⟨rfl, hsz, hP, hK, hD0, hN⟩ := hv
  have hx := B.exec
  have hb := B.bytes
  have hr := B.returns
  have hlocks := B.notSynchronized
  have hts : ∀ w ∈ wd, w.before ([.ref a_ls, .int a1] : List Value).toArray s = true := fun w hw => atoms_spec (ws := (Cond.code y_LS_needColumn b_LS_needColumn 2 (Option.none : Option Jvm.ClassFile.FieldType) :: wd)) B.pre w (List.mem_cons_of_mem _ hw)
  have hown : s.vm.findClass "LeastSolutions" = some m.cls := findClass_of_methodNamed B.named
  subst hsz
  have hD := hD0.self (sz := s.heap.size)
  generalize hAe : va_A [(a_ls, .inr (0, [.ref a_tx, .ref a_wo, .ref a_bu, .ref a_la, .ref a_se, .ref f_ls_lists, .ref a_ch, .ref f_ls_told, .ref f_ls_rest, .ref f_ls_taken, .ref f_ls_bestVector, .ref a_sy, .int v_ls_hasSystem, .int v_ls_hasSplit, .int v_ls_hasBest, .int v_ls_faultPlace])), (a_sy, .inr (4, [.ref f_sy_a, .ref f_sy_b, .ref f_sy_letters, .ref f_sy_slackRows, .ref f_sy_slackNumbers, .int v_sy_rows, .int v_sy_variables, .int v_sy_slacks]))] s.heap.size = A at hD ⊢
  have hA : ∀ q : Nat, s.heap.size ≤ q → A q := fun q h => by rw [← hAe]; exact Or.inr h
  have hS : va_S A s.heap s.heap [] := va_S.rf
  have hl := lv_entry ([.ref a_ls, .int a1]) (n := 2) (Nat.le_of_ble_eq_true rfl)
  rw [lg_entry_eq]
  generalize (lg_sl ([.ref a_ls, .int a1]) ++ List.replicate (2 - (lg_sl ([.ref a_ls, .int a1])).length) Slot.unset).toArray = ls at hl ⊢
  have hl : lv_has ls 2 [(0, .ref a_ls), (1, .int a1)] := hl
  obtain ⟨k8, hs⟩ := sm_of hs
  cases k8 with
  | zero => cases hs
  | succ k9 =>
    rw [sm_it_succ, fn_LS_needColumn_q0] at hs
    unfold fn_LS_needColumn_b0 at hs
    refine lv_aload_n hx hb d_LS_needColumn_0 rfl (lv_at hl 0 rfl) ?_
    refine lv_iload_n hx hb d_LS_needColumn_1 rfl (lv_at hl 1 rfl) ?_
    obtain ⟨r1, hq1, hs⟩ := sm_bd hs
    have hPc := hP.sub (ws' := [(a_ls, .inr (0, [.ref a_tx, .ref a_wo, .ref a_bu, .ref a_la, .ref a_se, .ref f_ls_lists, .ref a_ch, .ref f_ls_told, .ref f_ls_rest, .ref f_ls_taken, .ref f_ls_bestVector, .ref a_sy, .int v_ls_hasSystem, .int v_ls_hasSplit, .int v_ls_hasBest, .int v_ls_faultPlace])), (a_sy, .inr (4, [.ref f_sy_a, .ref f_sy_b, .ref f_sy_letters, .ref f_sy_slackRows, .ref f_sy_slackNumbers, .int v_sy_rows, .int v_sy_variables, .int v_sy_slacks]))]) [0, 1] rfl
    have hDc := hD.sub (ws' := [(a_ls, .inr (0, [.ref a_tx, .ref a_wo, .ref a_bu, .ref a_la, .ref a_se, .ref f_ls_lists, .ref a_ch, .ref f_ls_told, .ref f_ls_rest, .ref f_ls_taken, .ref f_ls_bestVector, .ref a_sy, .int v_ls_hasSystem, .int v_ls_hasSplit, .int v_ls_hasBest, .int v_ls_faultPlace])), (a_sy, .inr (4, [.ref f_sy_a, .ref f_sy_b, .ref f_sy_letters, .ref f_sy_slackRows, .ref f_sy_slackNumbers, .int v_sy_rows, .int v_sy_variables, .int v_sy_slacks]))]) [0, 1] (by decide) rfl
    have hKc := hK.sub (tys' := []) [] rfl
    have hFc := va_free (wc := [(a_ls, .inr (0, [.ref a_tx, .ref a_wo, .ref a_bu, .ref a_la, .ref a_se, .ref f_ls_lists, .ref a_ch, .ref f_ls_told, .ref f_ls_rest, .ref f_ls_taken, .ref f_ls_bestVector, .ref a_sy, .int v_ls_hasSystem, .int v_ls_hasSplit, .int v_ls_hasBest, .int v_ls_faultPlace])), (a_sy, .inr (4, [.ref f_sy_a, .ref f_sy_b, .ref f_sy_letters, .ref f_sy_slackRows, .ref f_sy_slackNumbers, .int v_sy_rows, .int v_sy_variables, .int v_sy_slacks]))]) hD hS hA [0, 1] rfl
    refine va_calli (va_runV (As := [.int a1]) (rest := []) ⟨hx, hb, hml, hown, hts⟩ (c_LS_hasColumn l dC dI (a_ls) (a_tx) (a_wo) (a_bu) (a_la) (a_se) (f_ls_lists) (a_ch) (f_ls_told) (f_ls_rest) (f_ls_taken) (f_ls_bestVector) (a_sy) (v_ls_hasSystem) (v_ls_hasSplit) (v_ls_hasBest) (v_ls_faultPlace) (f_sy_a) (f_sy_b) (f_sy_letters) (f_sy_slackRows) (f_sy_slackNumbers) (v_sy_rows) (v_sy_variables) (v_sy_slacks) (a1) s.heap.size r1 hq1) (wd_V (C := "LeastSolutions") 1 hts k_597 k_1 k_594 k_596 ks_LS_hasColumn rfl rfl (by decide +kernel) ⟨Nat.le_of_ble_eq_true rfl, Nat.le_of_ble_eq_true rfl⟩) ⟨fun a U g mk q => by obtain ⟨q0, q1, qP, qK, qD, qN⟩ := q; exact ⟨q0, q1, qP, va_K.moved (u := U) (U := U.calling g mk a) (Vm.Alike.refl U.vm) qK, qD, nw_ok.same (s := U) (U := U.calling g mk a) rfl qN⟩, va_recv (ci := 0) (q0 := 0) hK hP rfl rfl, fun U hU hW => ⟨rfl, by rw [hU], by rw [hU]; exact hPc, va_K.moved hW.alike hKc, hDc.weaken (fun _ _ _ _ => trivial), nw_ok.warm hW hN⟩⟩ rfl rfl hl.1 rfl (lv_room (Nat.le_of_ble_eq_true rfl)) d_LS_needColumn_2 ⟨Nat.le_of_ble_eq_true rfl, Nat.le_of_ble_eq_true rfl⟩) hS (fun q _ h => hFc q h) hFc (fun q1 u t H1 locs ht hvm hr1 hB hz1 hk1 hS => ?_)
    have hr1 := (show q1 = r1 from hr1).symm
    subst hr1
    obtain ⟨hP1, hK1, hD1⟩ := hB
    rw [ht] at hP1
    have hK1 := va_K.moved hvm.symm hK1
    obtain ⟨hP, hD⟩ := va_join (wr := []) (w1 := [(a_ls, .inr (0, [.ref a_tx, .ref a_wo, .ref a_bu, .ref a_la, .ref a_se, .ref f_ls_lists, .ref a_ch, .ref f_ls_told, .ref f_ls_rest, .ref f_ls_taken, .ref f_ls_bestVector, .ref a_sy, .int v_ls_hasSystem, .int v_ls_hasSplit, .int v_ls_hasBest, .int v_ls_faultPlace])), (a_sy, .inr (4, [.ref f_sy_a, .ref f_sy_b, .ref f_sy_letters, .ref f_sy_slackRows, .ref f_sy_slackNumbers, .int v_sy_rows, .int v_sy_variables, .int v_sy_slacks]))]) hP hD [0, 1] [] rfl rfl (by decide) (by decide) hk1 hFc hP1 hD1
    have hK := (hK.sub (tys' := []) [] rfl).app hK1
    have hK : va_K (dC, dI) cls [] s := hK
    have hP : va_P (dC, dI) cls [(a_ls, .inr (0, [.ref a_tx, .ref a_wo, .ref a_bu, .ref a_la, .ref a_se, .ref f_ls_lists, .ref a_ch, .ref f_ls_told, .ref f_ls_rest, .ref f_ls_taken, .ref f_ls_bestVector, .ref a_sy, .int v_ls_hasSystem, .int v_ls_hasSplit, .int v_ls_hasBest, .int v_ls_faultPlace])), (a_sy, .inr (4, [.ref f_sy_a, .ref f_sy_b, .ref f_sy_letters, .ref f_sy_slackRows, .ref f_sy_slackNumbers, .int v_sy_rows, .int v_sy_variables, .int v_sy_slacks]))] H1 := hP
    have hD : va_D A [(a_ls, .inr (0, [.ref a_tx, .ref a_wo, .ref a_bu, .ref a_la, .ref a_se, .ref f_ls_lists, .ref a_ch, .ref f_ls_told, .ref f_ls_rest, .ref f_ls_taken, .ref f_ls_bestVector, .ref a_sy, .int v_ls_hasSystem, .int v_ls_hasSplit, .int v_ls_hasBest, .int v_ls_faultPlace])), (a_sy, .inr (4, [.ref f_sy_a, .ref f_sy_b, .ref f_sy_letters, .ref f_sy_slackRows, .ref f_sy_slackNumbers, .int v_sy_rows, .int v_sy_variables, .int v_sy_slacks]))] := hD
    refine lv_if_ne (tgt := 16) hx hb d_LS_needColumn_5 (by decide) (fun hc1 => ?_) (fun hc1 => ?_)
    · have hs := sm_neg hc1 hs
      have he := sm_end hs
      subst he
      exact W.vret hx hb hr (fun t ht hW => ⟨⟨(), rfl, trivial, by rw [ht]; exact hP, va_K.moved hW.alike hK, hD⟩, hS.F ht⟩) hS.2.2 d_LS_needColumn_16
    · have hs := sm_pos hc1 hs
      cases hs

noncomputable def fn_LS_type_b0 (a1 : Int64) (a3 : Int32) (_z0 : Int32) (v_tx_length : Int32) (c_tx_characters : Nat → Int32) : Option ((Nat × Int32 × Int32 × (Nat → Int32)) ⊕ (Int32 × Int32 × (Nat → Int32))) := (sm_tot (fn_TX_put a1 a3) (0, 0, v_tx_length, c_tx_characters)).bind (fun r1 => if (r1.1 : Int32) = 0 then (some (.inl (23, (-1), r1.2.1, r1.2.2))) else (some (.inl (23, r1.2.1, r1.2.1, r1.2.2))))
noncomputable def fn_LS_type_b23 (a1 : Int64) (a3 : Int32) (s0i : Int32) (w_tx_length : Int32) (u_tx_characters : Nat → Int32) : Option ((Nat × Int32 × Int32 × (Nat → Int32)) ⊕ (Int32 × Int32 × (Nat → Int32))) := some (.inr (s0i, w_tx_length, u_tx_characters))
noncomputable def fn_LS_type (a1 : Int64) (a3 : Int32) : Nat × Int32 × Int32 × (Nat → Int32) → Option ((Nat × Int32 × Int32 × (Nat → Int32)) ⊕ (Int32 × Int32 × (Nat → Int32))) := fun st => match st with
  | (pc, s0i, w_tx_length, u_tx_characters) => if pc = 0 then fn_LS_type_b0 a1 a3 s0i w_tx_length u_tx_characters else if pc = 23 then fn_LS_type_b23 a1 a3 s0i w_tx_length u_tx_characters else none
theorem fn_LS_type_q0 (a1 : Int64) (a3 : Int32) (s0i : Int32) (w_tx_length : Int32) (u_tx_characters : Nat → Int32) : fn_LS_type a1 a3 (0, s0i, w_tx_length, u_tx_characters) = fn_LS_type_b0 a1 a3 s0i w_tx_length u_tx_characters := by simp [fn_LS_type]
theorem fn_LS_type_q23 (a1 : Int64) (a3 : Int32) (s0i : Int32) (w_tx_length : Int32) (u_tx_characters : Nat → Int32) : fn_LS_type a1 a3 (23, s0i, w_tx_length, u_tx_characters) = fn_LS_type_b23 a1 a3 s0i w_tx_length u_tx_characters := by simp [fn_LS_type]
set_option maxHeartbeats 4000000 in
set_option maxRecDepth 100000 in
theorem c_LS_type (l : Launch) (dC : Nat → ClassId) (dI : Nat → Nat → Nat) (a_ls : Nat) (a_tx : Nat) (a_wo : Nat) (a_bu : Nat) (a_la : Nat) (a_se : Nat) (f_ls_lists : Nat) (a_ch : Nat) (f_ls_told : Nat) (f_ls_rest : Nat) (f_ls_taken : Nat) (f_ls_bestVector : Nat) (a_sy : Nat) (v_ls_hasSystem : Int32) (v_ls_hasSplit : Int32) (v_ls_hasBest : Int32) (v_ls_faultPlace : Int32) (f_tx_characters : Nat) (v_tx_length : Int32) (k_tx_characters : ClassId) (c_tx_characters : Nat → Int32) (a1 : Int64) (a3 : Int32) (sz : Nat) (out : Int32 × Int32 × (Nat → Int32)) (hs : sm_tot (fn_LS_type a1 a3) (0, 0, v_tx_length, c_tx_characters) = some out) : Met l y_LS_type (Cond.code y_LS_type b_LS_type 4 (Option.some Jvm.ClassFile.FieldType.int) :: wd) { frames := 3, cells := 0, slots := 0, locals := 70 } (va_Pc [.ref a_ls, .long a1, .int a3] (fun U => U.heap.size = sz ∧ va_P (dC, dI) cls [(a_ls, .inr (0, [.ref a_tx, .ref a_wo, .ref a_bu, .ref a_la, .ref a_se, .ref f_ls_lists, .ref a_ch, .ref f_ls_told, .ref f_ls_rest, .ref f_ls_taken, .ref f_ls_bestVector, .ref a_sy, .int v_ls_hasSystem, .int v_ls_hasSplit, .int v_ls_hasBest, .int v_ls_faultPlace])), (a_tx, .inr (1, [.ref f_tx_characters, .int v_tx_length])), (f_tx_characters, .inl (k_tx_characters, 300, .inl c_tx_characters))] U.heap ∧ va_K (dC, dI) cls [(k_tx_characters, .byte)] U ∧ va_D (fun _ => True) [(a_ls, .inr (0, [.ref a_tx, .ref a_wo, .ref a_bu, .ref a_la, .ref a_se, .ref f_ls_lists, .ref a_ch, .ref f_ls_told, .ref f_ls_rest, .ref f_ls_taken, .ref f_ls_bestVector, .ref a_sy, .int v_ls_hasSystem, .int v_ls_hasSplit, .int v_ls_hasBest, .int v_ls_faultPlace])), (a_tx, .inr (1, [.ref f_tx_characters, .int v_tx_length])), (f_tx_characters, .inl (k_tx_characters, 300, .inl c_tx_characters))] ∧ nw_ok U)) (va_Qi (fun r (_ : Unit) => r = out.1) (fun (_ : Unit) t => va_P (dC, dI) cls [(a_ls, .inr (0, [.ref a_tx, .ref a_wo, .ref a_bu, .ref a_la, .ref a_se, .ref f_ls_lists, .ref a_ch, .ref f_ls_told, .ref f_ls_rest, .ref f_ls_taken, .ref f_ls_bestVector, .ref a_sy, .int v_ls_hasSystem, .int v_ls_hasSplit, .int v_ls_hasBest, .int v_ls_faultPlace])), (a_tx, .inr (1, [.ref f_tx_characters, .int out.2.1])), (f_tx_characters, .inl (k_tx_characters, 300, .inl out.2.2))] t.heap ∧ va_K (dC, dI) cls [(k_tx_characters, .byte)] t ∧ va_D (va_A [(a_ls, .inr (0, [.ref a_tx, .ref a_wo, .ref a_bu, .ref a_la, .ref a_se, .ref f_ls_lists, .ref a_ch, .ref f_ls_told, .ref f_ls_rest, .ref f_ls_taken, .ref f_ls_bestVector, .ref a_sy, .int v_ls_hasSystem, .int v_ls_hasSplit, .int v_ls_hasBest, .int v_ls_faultPlace])), (a_tx, .inr (1, [.ref f_tx_characters, .int v_tx_length])), (f_tx_characters, .inl (k_tx_characters, 300, .inl c_tx_characters))] sz) [(a_ls, .inr (0, [.ref a_tx, .ref a_wo, .ref a_bu, .ref a_la, .ref a_se, .ref f_ls_lists, .ref a_ch, .ref f_ls_told, .ref f_ls_rest, .ref f_ls_taken, .ref f_ls_bestVector, .ref a_sy, .int v_ls_hasSystem, .int v_ls_hasSplit, .int v_ls_hasBest, .int v_ls_faultPlace])), (a_tx, .inr (1, [.ref f_tx_characters, .int out.2.1])), (f_tx_characters, .inl (k_tx_characters, 300, .inl out.2.2))]) (va_A [(a_ls, .inr (0, [.ref a_tx, .ref a_wo, .ref a_bu, .ref a_la, .ref a_se, .ref f_ls_lists, .ref a_ch, .ref f_ls_told, .ref f_ls_rest, .ref f_ls_taken, .ref f_ls_bestVector, .ref a_sy, .int v_ls_hasSystem, .int v_ls_hasSplit, .int v_ls_hasBest, .int v_ls_faultPlace])), (a_tx, .inr (1, [.ref f_tx_characters, .int v_tx_length])), (f_tx_characters, .inl (k_tx_characters, 300, .inl c_tx_characters))] sz)) 0 0 (va_A [(a_ls, .inr (0, [.ref a_tx, .ref a_wo, .ref a_bu, .ref a_la, .ref a_se, .ref f_ls_lists, .ref a_ch, .ref f_ls_told, .ref f_ls_rest, .ref f_ls_taken, .ref f_ls_bestVector, .ref a_sy, .int v_ls_hasSystem, .int v_ls_hasSplit, .int v_ls_hasBest, .int v_ls_faultPlace])), (a_tx, .inr (1, [.ref f_tx_characters, .int v_tx_length])), (f_tx_characters, .inl (k_tx_characters, 300, .inl c_tx_characters))] sz) := by
  refine Met.ofW (cc := b_LS_type) (maxL := 4) (ret := (Option.some Jvm.ClassFile.FieldType.int)) (by decide) rfl ?_
  intro p e s m args below meth c s₁ B hml hv
  obtain ⟨rfl, hsz, hP, hK, hD0, hN⟩ := hv
  have hx := B.exec
  have hb := B.bytes
  have hr := B.returns
  have hlocks := B.notSynchronized
  have hts : ∀ w ∈ wd, w.before ([.ref a_ls, .long a1, .int a3] : List Value).toArray s = true := fun w hw => atoms_spec (ws := (Cond.code y_LS_type b_LS_type 4 (Option.some Jvm.ClassFile.FieldType.int) :: wd)) B.pre w (List.mem_cons_of_mem _ hw)
  have hown : s.vm.findClass "LeastSolutions" = some m.cls := findClass_of_methodNamed B.named
  subst hsz
  have hD := hD0.self (sz := s.heap.size)
  generalize hAe : va_A [(a_ls, .inr (0, [.ref a_tx, .ref a_wo, .ref a_bu, .ref a_la, .ref a_se, .ref f_ls_lists, .ref a_ch, .ref f_ls_told, .ref f_ls_rest, .ref f_ls_taken, .ref f_ls_bestVector, .ref a_sy, .int v_ls_hasSystem, .int v_ls_hasSplit, .int v_ls_hasBest, .int v_ls_faultPlace])), (a_tx, .inr (1, [.ref f_tx_characters, .int v_tx_length])), (f_tx_characters, .inl (k_tx_characters, 300, .inl c_tx_characters))] s.heap.size = A at hD ⊢
  have hA : ∀ q : Nat, s.heap.size ≤ q → A q := fun q h => by rw [← hAe]; exact Or.inr h
  have hS : va_S A s.heap s.heap [] := va_S.rf
  have hl := lv_entry ([.ref a_ls, .long a1, .int a3]) (n := 4) (Nat.le_of_ble_eq_true rfl)
  rw [lg_entry_eq]
  generalize (lg_sl ([.ref a_ls, .long a1, .int a3]) ++ List.replicate (4 - (lg_sl ([.ref a_ls, .long a1, .int a3])).length) Slot.unset).toArray = ls at hl ⊢
  have hl : lv_has ls 4 [(0, .ref a_ls), (1, .long a1), (3, .int a3)] := hl
  obtain ⟨k8, hs⟩ := sm_of hs
  refine sm_key (fun R Q k9 => (∀ (H : Heap) (locs : List Loc) (ls : Array Slot) (s0i : Int32) (w_tx_length : Int32) (u_tx_characters : Nat → Int32), sm_it (fn_LS_type a1 a3) k9 (23, s0i, w_tx_length, u_tx_characters) = some out → va_P (dC, dI) cls [(a_ls, .inr (0, [.ref a_tx, .ref a_wo, .ref a_bu, .ref a_la, .ref a_se, .ref f_ls_lists, .ref a_ch, .ref f_ls_told, .ref f_ls_rest, .ref f_ls_taken, .ref f_ls_bestVector, .ref a_sy, .int v_ls_hasSystem, .int v_ls_hasSplit, .int v_ls_hasBest, .int v_ls_faultPlace])), (a_tx, .inr (1, [.ref f_tx_characters, .int w_tx_length])), (f_tx_characters, .inl (k_tx_characters, 300, .inl u_tx_characters))] H → va_D A [(a_ls, .inr (0, [.ref a_tx, .ref a_wo, .ref a_bu, .ref a_la, .ref a_se, .ref f_ls_lists, .ref a_ch, .ref f_ls_told, .ref f_ls_rest, .ref f_ls_taken, .ref f_ls_bestVector, .ref a_sy, .int v_ls_hasSystem, .int v_ls_hasSplit, .int v_ls_hasBest, .int v_ls_faultPlace])), (a_tx, .inr (1, [.ref f_tx_characters, .int w_tx_length])), (f_tx_characters, .inl (k_tx_characters, 300, .inl u_tx_characters))] → va_S A s.heap H locs → lv_has ls 4 [] → W p l e R s m ([.ref a_ls, .long a1, .int a3] : List Value).toArray below meth c H locs 0 0 Q (F0 m 23 ls [.int s0i]))) ?_ ?_ ?_
  · exact fun _ _ _ _ _ _ hs => by cases hs
  · intro k9 ih
    skip
    intro H locs ls s0i w_tx_length u_tx_characters hs hP hD hS hl
    rw [sm_it_succ, fn_LS_type_q23] at hs
    unfold fn_LS_type_b23 at hs
    have he := sm_end hs
    subst he
    exact W.iret (v := s0i) hx hb hr (fun t ht hW => ⟨⟨s0i, (), rfl, rfl, by rw [ht]; exact hP, va_K.moved hW.alike hK, hD⟩, hS.F ht⟩) hS.2.2 d_LS_type_23
  · intro key
    cases k8 with
    | zero => cases hs
    | succ k9 =>
      rw [sm_it_succ, fn_LS_type_q0] at hs
      unfold fn_LS_type_b0 at hs
      refine lv_aload_n hx hb d_LS_type_0 rfl (lv_at hl 0 rfl) ?_
      refine va_get (D := (dC, dI)) (ci := 0) (v := .ref a_tx) (C := R_LS) (T := T_LS) (N := 16) hx hb hts in_LS hown hK hP 0 rfl rfl 0 (by decide) (hts _ k_289) (fun _ h9 => h9) rfl d_LS_type_1 ?_
      refine lv_lload_n hx hb d_LS_type_4 rfl (lv_at hl 1 rfl) ?_
      refine lv_iload_n hx hb d_LS_type_5 rfl (lv_at hl 2 rfl) ?_
      obtain ⟨r1, hq1, hs⟩ := sm_bd hs
      have hPc := hP.sub (ws' := [(a_tx, .inr (1, [.ref f_tx_characters, .int v_tx_length])), (f_tx_characters, .inl (k_tx_characters, 300, .inl c_tx_characters))]) [1, 2] rfl
      have hDc := hD.sub (ws' := [(a_tx, .inr (1, [.ref f_tx_characters, .int v_tx_length])), (f_tx_characters, .inl (k_tx_characters, 300, .inl c_tx_characters))]) [1, 2] (by decide) rfl
      have hKc := hK.sub (tys' := [(k_tx_characters, .byte)]) [0] rfl
      have hFc := va_free (wc := [(a_tx, .inr (1, [.ref f_tx_characters, .int v_tx_length])), (f_tx_characters, .inl (k_tx_characters, 300, .inl c_tx_characters))]) hD hS hA [1, 2] rfl
      refine va_calli (va_runV (As := [.long a1, .int a3]) (rest := []) ⟨hx, hb, hml, hown, hts⟩ (c_TX_put l dC dI (a_tx) (f_tx_characters) (v_tx_length) (k_tx_characters) (c_tx_characters) (a1) (a3) s.heap.size r1 hq1) (wd_V (C := "LeastSolutions$Text") 2 hts k_345 k_2 k_342 k_343 k_344 rfl rfl (by decide +kernel) ⟨Nat.le_of_ble_eq_true rfl, Nat.le_of_ble_eq_true rfl⟩) ⟨fun a U g mk q => by obtain ⟨q0, q1, qP, qK, qD, qN⟩ := q; exact ⟨q0, q1, qP, va_K.moved (u := U) (U := U.calling g mk a) (Vm.Alike.refl U.vm) qK, qD, nw_ok.same (s := U) (U := U.calling g mk a) rfl qN⟩, va_recv (ci := 1) (q0 := 1) hK hP rfl rfl, fun U hU hW => ⟨rfl, by rw [hU], by rw [hU]; exact hPc, va_K.moved hW.alike hKc, hDc.weaken (fun _ _ _ _ => trivial), nw_ok.warm hW hN⟩⟩ rfl rfl hl.1 rfl (lv_room (Nat.le_of_ble_eq_true rfl)) d_LS_type_6 ⟨Nat.le_of_ble_eq_true rfl, Nat.le_of_ble_eq_true rfl⟩) hS (fun q _ h => hFc q h) hFc (fun q1 u t H1 locs ht hvm hr1 hB hz1 hk1 hS => ?_)
      have hr1 := (show q1 = r1.1 from hr1).symm
      subst hr1
      obtain ⟨hP1, hK1, hD1⟩ := hB
      rw [ht] at hP1
      have hK1 := va_K.moved hvm.symm hK1
      obtain ⟨hP, hD⟩ := va_join (wr := [(a_ls, .inr (0, [.ref a_tx, .ref a_wo, .ref a_bu, .ref a_la, .ref a_se, .ref f_ls_lists, .ref a_ch, .ref f_ls_told, .ref f_ls_rest, .ref f_ls_taken, .ref f_ls_bestVector, .ref a_sy, .int v_ls_hasSystem, .int v_ls_hasSplit, .int v_ls_hasBest, .int v_ls_faultPlace]))]) (w1 := [(a_tx, .inr (1, [.ref f_tx_characters, .int r1.2.1])), (f_tx_characters, .inl (k_tx_characters, 300, .inl r1.2.2))]) hP hD [1, 2] [0] rfl rfl (by decide) (by decide) hk1 hFc hP1 hD1
      have hK := (hK.sub (tys' := []) [] rfl).app hK1
      have hK : va_K (dC, dI) cls [(k_tx_characters, .byte)] s := hK
      have hP : va_P (dC, dI) cls [(a_ls, .inr (0, [.ref a_tx, .ref a_wo, .ref a_bu, .ref a_la, .ref a_se, .ref f_ls_lists, .ref a_ch, .ref f_ls_told, .ref f_ls_rest, .ref f_ls_taken, .ref f_ls_bestVector, .ref a_sy, .int v_ls_hasSystem, .int v_ls_hasSplit, .int v_ls_hasBest, .int v_ls_faultPlace])), (a_tx, .inr (1, [.ref f_tx_characters, .int r1.2.1])), (f_tx_characters, .inl (k_tx_characters, 300, .inl r1.2.2))] H1 := hP
      have hD : va_D A [(a_ls, .inr (0, [.ref a_tx, .ref a_wo, .ref a_bu, .ref a_la, .ref a_se, .ref f_ls_lists, .ref a_ch, .ref f_ls_told, .ref f_ls_rest, .ref f_ls_taken, .ref f_ls_bestVector, .ref a_sy, .int v_ls_hasSystem, .int v_ls_hasSplit, .int v_ls_hasBest, .int v_ls_faultPlace])), (a_tx, .inr (1, [.ref f_tx_characters, .int r1.2.1])), (f_tx_characters, .inl (k_tx_characters, 300, .inl r1.2.2))] := hD
      refine lv_if_eq (tgt := 22) hx hb d_LS_type_9 (by decide) (fun hc1 => ?_) (fun hc1 => ?_)
      · have hs := sm_pos hc1 hs
        refine lv_iconst (v := (-1)) hx hb d_LS_type_22 (by decide) ?_
        exact (key k9) _ _ _ _ _ _ hs hP hD hS (lv_sub hl [] rfl)
      · have hs := sm_neg hc1 hs
        refine lv_aload_n hx hb d_LS_type_12 rfl (lv_at hl 0 rfl) ?_
        refine va_get (D := (dC, dI)) (ci := 0) (v := .ref a_tx) (C := R_LS) (T := T_LS) (N := 16) hx hb hts in_LS hown hK hP 0 rfl rfl 0 (by decide) (hts _ k_289) (fun _ h9 => h9) rfl d_LS_type_13 ?_
        refine va_getN (D := (dC, dI)) (ci := 1) (v := .int r1.2.1) (C := R_TX) (T := T_TX) (N := 2) hx hb hts in_TX hown hK hP 1 rfl rfl 1 (by decide) (va_Nw.use rfl (hN.1 (Jvm.Cond.fieldLinkNest "LeastSolutions" (96 : Nat) "LeastSolutions$Text" "length" "I" "LeastSolutions") nw_1)) (fun _ h9 => h9) rfl d_LS_type_16 ?_
        refine lv_goto (tgt := 23) hx hb d_LS_type_19 (by decide) ?_
        exact (key k9) _ _ _ _ _ _ hs hP hD hS (lv_sub hl [] rfl)

noncomputable def fn_LS_place_b0 (v_ls_faultPlace : Int32)  : Option ((Nat) ⊕ (Int32)) := some (.inr v_ls_faultPlace)
noncomputable def fn_LS_place (v_ls_faultPlace : Int32) : Nat → Option ((Nat) ⊕ (Int32)) := fun st => match st with
  | pc => if pc = 0 then fn_LS_place_b0 v_ls_faultPlace else none
theorem fn_LS_place_q0 (v_ls_faultPlace : Int32)  : fn_LS_place v_ls_faultPlace (0) = fn_LS_place_b0 v_ls_faultPlace := by simp [fn_LS_place]
set_option maxHeartbeats 4000000 in
set_option maxRecDepth 100000 in
theorem c_LS_place (l : Launch) (dC : Nat → ClassId) (dI : Nat → Nat → Nat) (a_ls : Nat) (a_tx : Nat) (a_wo : Nat) (a_bu : Nat) (a_la : Nat) (a_se : Nat) (f_ls_lists : Nat) (a_ch : Nat) (f_ls_told : Nat) (f_ls_rest : Nat) (f_ls_taken : Nat) (f_ls_bestVector : Nat) (a_sy : Nat) (v_ls_hasSystem : Int32) (v_ls_hasSplit : Int32) (v_ls_hasBest : Int32) (v_ls_faultPlace : Int32) (sz : Nat) (out : Int32) (hs : sm_tot (fn_LS_place v_ls_faultPlace) 0 = some out) : Met l y_LS_place (Cond.code y_LS_place b_LS_place 1 (Option.some Jvm.ClassFile.FieldType.int) :: wd) { frames := 0, cells := 0, slots := 0, locals := 0 } (va_Pc [.ref a_ls] (fun U => U.heap.size = sz ∧ va_P (dC, dI) cls [(a_ls, .inr (0, [.ref a_tx, .ref a_wo, .ref a_bu, .ref a_la, .ref a_se, .ref f_ls_lists, .ref a_ch, .ref f_ls_told, .ref f_ls_rest, .ref f_ls_taken, .ref f_ls_bestVector, .ref a_sy, .int v_ls_hasSystem, .int v_ls_hasSplit, .int v_ls_hasBest, .int v_ls_faultPlace]))] U.heap ∧ va_K (dC, dI) cls [] U ∧ va_D (fun _ => True) [(a_ls, .inr (0, [.ref a_tx, .ref a_wo, .ref a_bu, .ref a_la, .ref a_se, .ref f_ls_lists, .ref a_ch, .ref f_ls_told, .ref f_ls_rest, .ref f_ls_taken, .ref f_ls_bestVector, .ref a_sy, .int v_ls_hasSystem, .int v_ls_hasSplit, .int v_ls_hasBest, .int v_ls_faultPlace]))] ∧ nw_ok U)) (va_Qi (fun r (_ : Unit) => r = out) (fun (_ : Unit) t => va_P (dC, dI) cls [(a_ls, .inr (0, [.ref a_tx, .ref a_wo, .ref a_bu, .ref a_la, .ref a_se, .ref f_ls_lists, .ref a_ch, .ref f_ls_told, .ref f_ls_rest, .ref f_ls_taken, .ref f_ls_bestVector, .ref a_sy, .int v_ls_hasSystem, .int v_ls_hasSplit, .int v_ls_hasBest, .int v_ls_faultPlace]))] t.heap ∧ va_K (dC, dI) cls [] t ∧ va_D (va_A [(a_ls, .inr (0, [.ref a_tx, .ref a_wo, .ref a_bu, .ref a_la, .ref a_se, .ref f_ls_lists, .ref a_ch, .ref f_ls_told, .ref f_ls_rest, .ref f_ls_taken, .ref f_ls_bestVector, .ref a_sy, .int v_ls_hasSystem, .int v_ls_hasSplit, .int v_ls_hasBest, .int v_ls_faultPlace]))] sz) [(a_ls, .inr (0, [.ref a_tx, .ref a_wo, .ref a_bu, .ref a_la, .ref a_se, .ref f_ls_lists, .ref a_ch, .ref f_ls_told, .ref f_ls_rest, .ref f_ls_taken, .ref f_ls_bestVector, .ref a_sy, .int v_ls_hasSystem, .int v_ls_hasSplit, .int v_ls_hasBest, .int v_ls_faultPlace]))]) (va_A [(a_ls, .inr (0, [.ref a_tx, .ref a_wo, .ref a_bu, .ref a_la, .ref a_se, .ref f_ls_lists, .ref a_ch, .ref f_ls_told, .ref f_ls_rest, .ref f_ls_taken, .ref f_ls_bestVector, .ref a_sy, .int v_ls_hasSystem, .int v_ls_hasSplit, .int v_ls_hasBest, .int v_ls_faultPlace]))] sz)) 0 0 (va_A [(a_ls, .inr (0, [.ref a_tx, .ref a_wo, .ref a_bu, .ref a_la, .ref a_se, .ref f_ls_lists, .ref a_ch, .ref f_ls_told, .ref f_ls_rest, .ref f_ls_taken, .ref f_ls_bestVector, .ref a_sy, .int v_ls_hasSystem, .int v_ls_hasSplit, .int v_ls_hasBest, .int v_ls_faultPlace]))] sz) := by
  refine Met.ofW (cc := b_LS_place) (maxL := 1) (ret := (Option.some Jvm.ClassFile.FieldType.int)) (by decide) rfl ?_
  intro p e s m args below meth c s₁ B hml hv
  obtain ⟨rfl, hsz, hP, hK, hD0, hN⟩ := hv
  have hx := B.exec
  have hb := B.bytes
  have hr := B.returns
  have hlocks := B.notSynchronized
  have hts : ∀ w ∈ wd, w.before ([.ref a_ls] : List Value).toArray s = true := fun w hw => atoms_spec (ws := (Cond.code y_LS_place b_LS_place 1 (Option.some Jvm.ClassFile.FieldType.int) :: wd)) B.pre w (List.mem_cons_of_mem _ hw)
  have hown : s.vm.findClass "LeastSolutions" = some m.cls := findClass_of_methodNamed B.named
  subst hsz
  have hD := hD0.self (sz := s.heap.size)
  generalize hAe : va_A [(a_ls, .inr (0, [.ref a_tx, .ref a_wo, .ref a_bu, .ref a_la, .ref a_se, .ref f_ls_lists, .ref a_ch, .ref f_ls_told, .ref f_ls_rest, .ref f_ls_taken, .ref f_ls_bestVector, .ref a_sy, .int v_ls_hasSystem, .int v_ls_hasSplit, .int v_ls_hasBest, .int v_ls_faultPlace]))] s.heap.size = A at hD ⊢
  have hA : ∀ q : Nat, s.heap.size ≤ q → A q := fun q h => by rw [← hAe]; exact Or.inr h
  have hS : va_S A s.heap s.heap [] := va_S.rf
  have hl := lv_entry ([.ref a_ls]) (n := 1) (Nat.le_of_ble_eq_true rfl)
  rw [lg_entry_eq]
  generalize (lg_sl ([.ref a_ls]) ++ List.replicate (1 - (lg_sl ([.ref a_ls])).length) Slot.unset).toArray = ls at hl ⊢
  have hl : lv_has ls 1 [(0, .ref a_ls)] := hl
  obtain ⟨k8, hs⟩ := sm_of hs
  cases k8 with
  | zero => cases hs
  | succ k9 =>
    rw [sm_it_succ, fn_LS_place_q0] at hs
    unfold fn_LS_place_b0 at hs
    refine lv_aload_n hx hb d_LS_place_0 rfl (lv_at hl 0 rfl) ?_
    refine va_get (D := (dC, dI)) (ci := 0) (v := .int v_ls_faultPlace) (C := R_LS) (T := T_LS) (N := 16) hx hb hts in_LS hown hK hP 0 rfl rfl 15 (by decide) (hts _ k_304) (fun _ h9 => h9) rfl d_LS_place_1 ?_
    have he := sm_end hs
    subst he
    exact W.iret (v := v_ls_faultPlace) hx hb hr (fun t ht hW => ⟨⟨v_ls_faultPlace, (), rfl, rfl, by rw [ht]; exact hP, va_K.moved hW.alike hK, hD⟩, hS.F ht⟩) hS.2.2 d_LS_place_4

noncomputable def fn_LS_count_b0 (a1 : Int32) (v_ls_hasSystem : Int32) (v_sy_rows : Int32) (v_sy_variables : Int32) (v_sy_slacks : Int32)  : Option ((Nat) ⊕ (Int32)) := if (v_ls_hasSystem : Int32) = 0 then (some (.inr (-1))) else (if (a1 : Int32) = 0 then (some (.inr v_sy_rows)) else (if (a1 : Int32) = 1 then ((sm_tot (fn_EQ_columns v_sy_variables v_sy_slacks) 0).bind (fun r1 => some (.inr r1))) else (if (a1 : Int32) = 2 then (some (.inr v_sy_variables)) else (some (.inr (-1))))))
noncomputable def fn_LS_count (a1 : Int32) (v_ls_hasSystem : Int32) (v_sy_rows : Int32) (v_sy_variables : Int32) (v_sy_slacks : Int32) : Nat → Option ((Nat) ⊕ (Int32)) := fun st => match st with
  | pc => if pc = 0 then fn_LS_count_b0 a1 v_ls_hasSystem v_sy_rows v_sy_variables v_sy_slacks else none
theorem fn_LS_count_q0 (a1 : Int32) (v_ls_hasSystem : Int32) (v_sy_rows : Int32) (v_sy_variables : Int32) (v_sy_slacks : Int32)  : fn_LS_count a1 v_ls_hasSystem v_sy_rows v_sy_variables v_sy_slacks (0) = fn_LS_count_b0 a1 v_ls_hasSystem v_sy_rows v_sy_variables v_sy_slacks := by simp [fn_LS_count]
set_option maxHeartbeats 4000000 in
set_option maxRecDepth 100000 in
theorem c_LS_count (l : Launch) (dC : Nat → ClassId) (dI : Nat → Nat → Nat) (a_ls : Nat) (a_tx : Nat) (a_wo : Nat) (a_bu : Nat) (a_la : Nat) (a_se : Nat) (f_ls_lists : Nat) (a_ch : Nat) (f_ls_told : Nat) (f_ls_rest : Nat) (f_ls_taken : Nat) (f_ls_bestVector : Nat) (a_sy : Nat) (v_ls_hasSystem : Int32) (v_ls_hasSplit : Int32) (v_ls_hasBest : Int32) (v_ls_faultPlace : Int32) (f_sy_a : Nat) (f_sy_b : Nat) (f_sy_letters : Nat) (f_sy_slackRows : Nat) (f_sy_slackNumbers : Nat) (v_sy_rows : Int32) (v_sy_variables : Int32) (v_sy_slacks : Int32) (a1 : Int32) (sz : Nat) (out : Int32) (hs : sm_tot (fn_LS_count a1 v_ls_hasSystem v_sy_rows v_sy_variables v_sy_slacks) 0 = some out) : Met l y_LS_count (Cond.code y_LS_count b_LS_count 2 (Option.some Jvm.ClassFile.FieldType.int) :: wd) { frames := 1, cells := 0, slots := 0, locals := 20 } (va_Pc [.ref a_ls, .int a1] (fun U => U.heap.size = sz ∧ va_P (dC, dI) cls [(a_ls, .inr (0, [.ref a_tx, .ref a_wo, .ref a_bu, .ref a_la, .ref a_se, .ref f_ls_lists, .ref a_ch, .ref f_ls_told, .ref f_ls_rest, .ref f_ls_taken, .ref f_ls_bestVector, .ref a_sy, .int v_ls_hasSystem, .int v_ls_hasSplit, .int v_ls_hasBest, .int v_ls_faultPlace])), (a_sy, .inr (4, [.ref f_sy_a, .ref f_sy_b, .ref f_sy_letters, .ref f_sy_slackRows, .ref f_sy_slackNumbers, .int v_sy_rows, .int v_sy_variables, .int v_sy_slacks]))] U.heap ∧ va_K (dC, dI) cls [] U ∧ va_D (fun _ => True) [(a_ls, .inr (0, [.ref a_tx, .ref a_wo, .ref a_bu, .ref a_la, .ref a_se, .ref f_ls_lists, .ref a_ch, .ref f_ls_told, .ref f_ls_rest, .ref f_ls_taken, .ref f_ls_bestVector, .ref a_sy, .int v_ls_hasSystem, .int v_ls_hasSplit, .int v_ls_hasBest, .int v_ls_faultPlace])), (a_sy, .inr (4, [.ref f_sy_a, .ref f_sy_b, .ref f_sy_letters, .ref f_sy_slackRows, .ref f_sy_slackNumbers, .int v_sy_rows, .int v_sy_variables, .int v_sy_slacks]))] ∧ nw_ok U)) (va_Qi (fun r (_ : Unit) => r = out) (fun (_ : Unit) t => va_P (dC, dI) cls [(a_ls, .inr (0, [.ref a_tx, .ref a_wo, .ref a_bu, .ref a_la, .ref a_se, .ref f_ls_lists, .ref a_ch, .ref f_ls_told, .ref f_ls_rest, .ref f_ls_taken, .ref f_ls_bestVector, .ref a_sy, .int v_ls_hasSystem, .int v_ls_hasSplit, .int v_ls_hasBest, .int v_ls_faultPlace])), (a_sy, .inr (4, [.ref f_sy_a, .ref f_sy_b, .ref f_sy_letters, .ref f_sy_slackRows, .ref f_sy_slackNumbers, .int v_sy_rows, .int v_sy_variables, .int v_sy_slacks]))] t.heap ∧ va_K (dC, dI) cls [] t ∧ va_D (va_A [(a_ls, .inr (0, [.ref a_tx, .ref a_wo, .ref a_bu, .ref a_la, .ref a_se, .ref f_ls_lists, .ref a_ch, .ref f_ls_told, .ref f_ls_rest, .ref f_ls_taken, .ref f_ls_bestVector, .ref a_sy, .int v_ls_hasSystem, .int v_ls_hasSplit, .int v_ls_hasBest, .int v_ls_faultPlace])), (a_sy, .inr (4, [.ref f_sy_a, .ref f_sy_b, .ref f_sy_letters, .ref f_sy_slackRows, .ref f_sy_slackNumbers, .int v_sy_rows, .int v_sy_variables, .int v_sy_slacks]))] sz) [(a_ls, .inr (0, [.ref a_tx, .ref a_wo, .ref a_bu, .ref a_la, .ref a_se, .ref f_ls_lists, .ref a_ch, .ref f_ls_told, .ref f_ls_rest, .ref f_ls_taken, .ref f_ls_bestVector, .ref a_sy, .int v_ls_hasSystem, .int v_ls_hasSplit, .int v_ls_hasBest, .int v_ls_faultPlace])), (a_sy, .inr (4, [.ref f_sy_a, .ref f_sy_b, .ref f_sy_letters, .ref f_sy_slackRows, .ref f_sy_slackNumbers, .int v_sy_rows, .int v_sy_variables, .int v_sy_slacks]))]) (va_A [(a_ls, .inr (0, [.ref a_tx, .ref a_wo, .ref a_bu, .ref a_la, .ref a_se, .ref f_ls_lists, .ref a_ch, .ref f_ls_told, .ref f_ls_rest, .ref f_ls_taken, .ref f_ls_bestVector, .ref a_sy, .int v_ls_hasSystem, .int v_ls_hasSplit, .int v_ls_hasBest, .int v_ls_faultPlace])), (a_sy, .inr (4, [.ref f_sy_a, .ref f_sy_b, .ref f_sy_letters, .ref f_sy_slackRows, .ref f_sy_slackNumbers, .int v_sy_rows, .int v_sy_variables, .int v_sy_slacks]))] sz)) 0 0 (va_A [(a_ls, .inr (0, [.ref a_tx, .ref a_wo, .ref a_bu, .ref a_la, .ref a_se, .ref f_ls_lists, .ref a_ch, .ref f_ls_told, .ref f_ls_rest, .ref f_ls_taken, .ref f_ls_bestVector, .ref a_sy, .int v_ls_hasSystem, .int v_ls_hasSplit, .int v_ls_hasBest, .int v_ls_faultPlace])), (a_sy, .inr (4, [.ref f_sy_a, .ref f_sy_b, .ref f_sy_letters, .ref f_sy_slackRows, .ref f_sy_slackNumbers, .int v_sy_rows, .int v_sy_variables, .int v_sy_slacks]))] sz) := by
  refine Met.ofW (cc := b_LS_count) (maxL := 2) (ret := (Option.some Jvm.ClassFile.FieldType.int)) (by decide) rfl ?_
  intro p e s m args below meth c s₁ B hml hv
  obtain ⟨rfl, hsz, hP, hK, hD0, hN⟩ := hv
  have hx := B.exec
  have hb := B.bytes
  have hr := B.returns
  have hlocks := B.notSynchronized
  have hts : ∀ w ∈ wd, w.before ([.ref a_ls, .int a1] : List Value).toArray s = true := fun w hw => atoms_spec (ws := (Cond.code y_LS_count b_LS_count 2 (Option.some Jvm.ClassFile.FieldType.int) :: wd)) B.pre w (List.mem_cons_of_mem _ hw)
  have hown : s.vm.findClass "LeastSolutions" = some m.cls := findClass_of_methodNamed B.named
  subst hsz
  have hD := hD0.self (sz := s.heap.size)
  generalize hAe : va_A [(a_ls, .inr (0, [.ref a_tx, .ref a_wo, .ref a_bu, .ref a_la, .ref a_se, .ref f_ls_lists, .ref a_ch, .ref f_ls_told, .ref f_ls_rest, .ref f_ls_taken, .ref f_ls_bestVector, .ref a_sy, .int v_ls_hasSystem, .int v_ls_hasSplit, .int v_ls_hasBest, .int v_ls_faultPlace])), (a_sy, .inr (4, [.ref f_sy_a, .ref f_sy_b, .ref f_sy_letters, .ref f_sy_slackRows, .ref f_sy_slackNumbers, .int v_sy_rows, .int v_sy_variables, .int v_sy_slacks]))] s.heap.size = A at hD ⊢
  have hA : ∀ q : Nat, s.heap.size ≤ q → A q := fun q h => by rw [← hAe]; exact Or.inr h
  have hS : va_S A s.heap s.heap [] := va_S.rf
  have hl := lv_entry ([.ref a_ls, .int a1]) (n := 2) (Nat.le_of_ble_eq_true rfl)
  rw [lg_entry_eq]
  generalize (lg_sl ([.ref a_ls, .int a1]) ++ List.replicate (2 - (lg_sl ([.ref a_ls, .int a1])).length) Slot.unset).toArray = ls at hl ⊢
  have hl : lv_has ls 2 [(0, .ref a_ls), (1, .int a1)] := hl
  obtain ⟨k8, hs⟩ := sm_of hs
  cases k8 with
  | zero => cases hs
  | succ k9 =>
    rw [sm_it_succ, fn_LS_count_q0] at hs
    unfold fn_LS_count_b0 at hs
    refine lv_aload_n hx hb d_LS_count_0 rfl (lv_at hl 0 rfl) ?_
    refine va_get (D := (dC, dI)) (ci := 0) (v := .int v_ls_hasSystem) (C := R_LS) (T := T_LS) (N := 16) hx hb hts in_LS hown hK hP 0 rfl rfl 12 (by decide) (hts _ k_301) (fun _ h9 => h9) rfl d_LS_count_1 ?_
    refine lv_if_ne (tgt := 9) hx hb d_LS_count_4 (by decide) (fun hc1 => ?_) (fun hc1 => ?_)
    · have hs := sm_neg hc1 hs
      refine lv_iload_n hx hb d_LS_count_9 rfl (lv_at hl 1 rfl) ?_
      by_cases hc2 : (a1 : Int32) = 0
      · have hs := sm_pos hc2 hs
        refine lv_tableIn (tgt := 36) (off := 26) hx hb d_LS_count_10 (by rw [hc2]; decide) (by rw [hc2]; decide) (by rw [hc2]; decide) (by decide) ?_
        refine lv_aload_n hx hb d_LS_count_36 rfl (lv_at hl 0 rfl) ?_
        refine va_get (D := (dC, dI)) (ci := 0) (v := .ref a_sy) (C := R_LS) (T := T_LS) (N := 16) hx hb hts in_LS hown hK hP 0 rfl rfl 11 (by decide) (hts _ k_300) (fun _ h9 => h9) rfl d_LS_count_37 ?_
        refine va_getN (D := (dC, dI)) (ci := 4) (v := .int v_sy_rows) (C := R_EQ) (T := T_EQ) (N := 8) hx hb hts in_EQ hown hK hP 1 rfl rfl 5 (by decide) (va_Nw.use rfl (hN.1 (Jvm.Cond.fieldLinkNest "LeastSolutions" (106 : Nat) "LeastSolutions$Equations" "rows" "I" "LeastSolutions") nw_23)) (fun _ h9 => h9) rfl d_LS_count_40 ?_
        have he := sm_end hs
        subst he
        exact W.iret (v := v_sy_rows) hx hb hr (fun t ht hW => ⟨⟨v_sy_rows, (), rfl, rfl, by rw [ht]; exact hP, va_K.moved hW.alike hK, hD⟩, hS.F ht⟩) hS.2.2 d_LS_count_43
      have hs := sm_neg hc2 hs
      by_cases hc3 : (a1 : Int32) = 1
      · have hs := sm_pos hc3 hs
        refine lv_tableIn (tgt := 44) (off := 34) hx hb d_LS_count_10 (by rw [hc3]; decide) (by rw [hc3]; decide) (by rw [hc3]; decide) (by decide) ?_
        refine lv_aload_n hx hb d_LS_count_44 rfl (lv_at hl 0 rfl) ?_
        refine va_get (D := (dC, dI)) (ci := 0) (v := .ref a_sy) (C := R_LS) (T := T_LS) (N := 16) hx hb hts in_LS hown hK hP 0 rfl rfl 11 (by decide) (hts _ k_300) (fun _ h9 => h9) rfl d_LS_count_45 ?_
        obtain ⟨r1, hq1, hs⟩ := sm_bd hs
        have hPc := hP.sub (ws' := [(a_sy, .inr (4, [.ref f_sy_a, .ref f_sy_b, .ref f_sy_letters, .ref f_sy_slackRows, .ref f_sy_slackNumbers, .int v_sy_rows, .int v_sy_variables, .int v_sy_slacks]))]) [1] rfl
        have hDc := hD.sub (ws' := [(a_sy, .inr (4, [.ref f_sy_a, .ref f_sy_b, .ref f_sy_letters, .ref f_sy_slackRows, .ref f_sy_slackNumbers, .int v_sy_rows, .int v_sy_variables, .int v_sy_slacks]))]) [1] (by decide) rfl
        have hKc := hK.sub (tys' := []) [] rfl
        have hFc := va_free (wc := [(a_sy, .inr (4, [.ref f_sy_a, .ref f_sy_b, .ref f_sy_letters, .ref f_sy_slackRows, .ref f_sy_slackNumbers, .int v_sy_rows, .int v_sy_variables, .int v_sy_slacks]))]) hD hS hA [1] rfl
        refine va_calli (va_runV (As := []) (rest := []) ⟨hx, hb, hml, hown, hts⟩ (c_EQ_columns l dC dI (a_sy) (f_sy_a) (f_sy_b) (f_sy_letters) (f_sy_slackRows) (f_sy_slackNumbers) (v_sy_rows) (v_sy_variables) (v_sy_slacks) s.heap.size r1 hq1) (wd_V (C := "LeastSolutions$Equations") 0 hts k_440 k_5 k_534 k_438 k_439 rfl rfl (by decide +kernel) ⟨Nat.le_of_ble_eq_true rfl, Nat.le_of_ble_eq_true rfl⟩) ⟨fun a U g mk q => by obtain ⟨q0, q1, qP, qK, qD, qN⟩ := q; exact ⟨q0, q1, qP, va_K.moved (u := U) (U := U.calling g mk a) (Vm.Alike.refl U.vm) qK, qD, nw_ok.same (s := U) (U := U.calling g mk a) rfl qN⟩, va_recv (ci := 4) (q0 := 1) hK hP rfl rfl, fun U hU hW => ⟨rfl, by rw [hU], by rw [hU]; exact hPc, va_K.moved hW.alike hKc, hDc.weaken (fun _ _ _ _ => trivial), nw_ok.warm hW hN⟩⟩ rfl rfl hl.1 rfl (lv_room (Nat.le_of_ble_eq_true rfl)) d_LS_count_48 ⟨Nat.le_of_ble_eq_true rfl, Nat.le_of_ble_eq_true rfl⟩) hS (fun q _ h => hFc q h) hFc (fun q1 u t H1 locs ht hvm hr1 hB hz1 hk1 hS => ?_)
        have hr1 := (show q1 = r1 from hr1).symm
        subst hr1
        obtain ⟨hP1, hK1, hD1⟩ := hB
        rw [ht] at hP1
        have hK1 := va_K.moved hvm.symm hK1
        obtain ⟨hP, hD⟩ := va_join (wr := [(a_ls, .inr (0, [.ref a_tx, .ref a_wo, .ref a_bu, .ref a_la, .ref a_se, .ref f_ls_lists, .ref a_ch, .ref f_ls_told, .ref f_ls_rest, .ref f_ls_taken, .ref f_ls_bestVector, .ref a_sy, .int v_ls_hasSystem, .int v_ls_hasSplit, .int v_ls_hasBest, .int v_ls_faultPlace]))]) (w1 := [(a_sy, .inr (4, [.ref f_sy_a, .ref f_sy_b, .ref f_sy_letters, .ref f_sy_slackRows, .ref f_sy_slackNumbers, .int v_sy_rows, .int v_sy_variables, .int v_sy_slacks]))]) hP hD [1] [0] rfl rfl (by decide) (by decide) hk1 hFc hP1 hD1
        have hK := (hK.sub (tys' := []) [] rfl).app hK1
        have hK : va_K (dC, dI) cls [] s := hK
        have hP : va_P (dC, dI) cls [(a_ls, .inr (0, [.ref a_tx, .ref a_wo, .ref a_bu, .ref a_la, .ref a_se, .ref f_ls_lists, .ref a_ch, .ref f_ls_told, .ref f_ls_rest, .ref f_ls_taken, .ref f_ls_bestVector, .ref a_sy, .int v_ls_hasSystem, .int v_ls_hasSplit, .int v_ls_hasBest, .int v_ls_faultPlace])), (a_sy, .inr (4, [.ref f_sy_a, .ref f_sy_b, .ref f_sy_letters, .ref f_sy_slackRows, .ref f_sy_slackNumbers, .int v_sy_rows, .int v_sy_variables, .int v_sy_slacks]))] H1 := hP
        have hD : va_D A [(a_ls, .inr (0, [.ref a_tx, .ref a_wo, .ref a_bu, .ref a_la, .ref a_se, .ref f_ls_lists, .ref a_ch, .ref f_ls_told, .ref f_ls_rest, .ref f_ls_taken, .ref f_ls_bestVector, .ref a_sy, .int v_ls_hasSystem, .int v_ls_hasSplit, .int v_ls_hasBest, .int v_ls_faultPlace])), (a_sy, .inr (4, [.ref f_sy_a, .ref f_sy_b, .ref f_sy_letters, .ref f_sy_slackRows, .ref f_sy_slackNumbers, .int v_sy_rows, .int v_sy_variables, .int v_sy_slacks]))] := hD
        have he := sm_end hs
        subst he
        exact W.iret (v := r1) hx hb hr (fun t ht hW => ⟨⟨r1, (), rfl, rfl, by rw [ht]; exact hP, va_K.moved hW.alike hK, hD⟩, hS.F ht⟩) hS.2.2 d_LS_count_51
      have hs := sm_neg hc3 hs
      by_cases hc4 : (a1 : Int32) = 2
      · have hs := sm_pos hc4 hs
        refine lv_tableIn (tgt := 52) (off := 42) hx hb d_LS_count_10 (by rw [hc4]; decide) (by rw [hc4]; decide) (by rw [hc4]; decide) (by decide) ?_
        refine lv_aload_n hx hb d_LS_count_52 rfl (lv_at hl 0 rfl) ?_
        refine va_get (D := (dC, dI)) (ci := 0) (v := .ref a_sy) (C := R_LS) (T := T_LS) (N := 16) hx hb hts in_LS hown hK hP 0 rfl rfl 11 (by decide) (hts _ k_300) (fun _ h9 => h9) rfl d_LS_count_53 ?_
        refine va_getN (D := (dC, dI)) (ci := 4) (v := .int v_sy_variables) (C := R_EQ) (T := T_EQ) (N := 8) hx hb hts in_EQ hown hK hP 1 rfl rfl 6 (by decide) (va_Nw.use rfl (hN.1 (Jvm.Cond.fieldLinkNest "LeastSolutions" (112 : Nat) "LeastSolutions$Equations" "variables" "I" "LeastSolutions") nw_24)) (fun _ h9 => h9) rfl d_LS_count_56 ?_
        have he := sm_end hs
        subst he
        exact W.iret (v := v_sy_variables) hx hb hr (fun t ht hW => ⟨⟨v_sy_variables, (), rfl, rfl, by rw [ht]; exact hP, va_K.moved hW.alike hK, hD⟩, hS.F ht⟩) hS.2.2 d_LS_count_59
      have hs := sm_neg hc4 hs
      refine lv_tableOut (tgt := 60) hx hb d_LS_count_10 (sw_out [0, 1, 2] (by decide) (by decide) (List.forall_mem_cons.mpr ⟨hc2, List.forall_mem_cons.mpr ⟨hc3, List.forall_mem_cons.mpr ⟨hc4, fun _ h9 => absurd h9 List.not_mem_nil⟩⟩⟩)) (by decide) ?_
      refine lv_iconst (v := (-1)) hx hb d_LS_count_60 (by decide) ?_
      have he := sm_end hs
      subst he
      exact W.iret (v := (-1)) hx hb hr (fun t ht hW => ⟨⟨(-1), (), rfl, rfl, by rw [ht]; exact hP, va_K.moved hW.alike hK, hD⟩, hS.F ht⟩) hS.2.2 d_LS_count_61
    · have hs := sm_pos hc1 hs
      refine lv_iconst (v := (-1)) hx hb d_LS_count_7 (by decide) ?_
      have he := sm_end hs
      subst he
      exact W.iret (v := (-1)) hx hb hr (fun t ht hW => ⟨⟨(-1), (), rfl, rfl, by rw [ht]; exact hP, va_K.moved hW.alike hK, hD⟩, hS.F ht⟩) hS.2.2 d_LS_count_8

noncomputable def fn_LS_letter_b0 (a1 : Int32) (v_sy_variables : Int32) (c_sy_letters : Nat → Int32) (_z0 : Int32) : Option ((Nat × Int32) ⊕ (Int32)) := if (a1 : Int32) < 0 then (some (.inl (27, 0))) else (if (v_sy_variables : Int32) ≤ a1 then (some (.inl (27, 0))) else (if ¬ ((a1 : Int32) < 0 ∨ 6 ≤ (a1 : Int32).toNatClampNeg) then some (.inl (28, (c_sy_letters (a1 : Int32).toNatClampNeg))) else none))
noncomputable def fn_LS_letter_b27 (a1 : Int32) (v_sy_variables : Int32) (c_sy_letters : Nat → Int32) (s0i : Int32) : Option ((Nat × Int32) ⊕ (Int32)) := some (.inl (28, (-1)))
noncomputable def fn_LS_letter_b28 (a1 : Int32) (v_sy_variables : Int32) (c_sy_letters : Nat → Int32) (s0i : Int32) : Option ((Nat × Int32) ⊕ (Int32)) := some (.inr s0i)
noncomputable def fn_LS_letter (a1 : Int32) (v_sy_variables : Int32) (c_sy_letters : Nat → Int32) : Nat × Int32 → Option ((Nat × Int32) ⊕ (Int32)) := fun st => match st with
  | (pc, s0i) => if pc = 0 then fn_LS_letter_b0 a1 v_sy_variables c_sy_letters s0i else if pc = 27 then fn_LS_letter_b27 a1 v_sy_variables c_sy_letters s0i else if pc = 28 then fn_LS_letter_b28 a1 v_sy_variables c_sy_letters s0i else none
theorem fn_LS_letter_q0 (a1 : Int32) (v_sy_variables : Int32) (c_sy_letters : Nat → Int32) (s0i : Int32) : fn_LS_letter a1 v_sy_variables c_sy_letters (0, s0i) = fn_LS_letter_b0 a1 v_sy_variables c_sy_letters s0i := by simp [fn_LS_letter]
theorem fn_LS_letter_q27 (a1 : Int32) (v_sy_variables : Int32) (c_sy_letters : Nat → Int32) (s0i : Int32) : fn_LS_letter a1 v_sy_variables c_sy_letters (27, s0i) = fn_LS_letter_b27 a1 v_sy_variables c_sy_letters s0i := by simp [fn_LS_letter]
theorem fn_LS_letter_q28 (a1 : Int32) (v_sy_variables : Int32) (c_sy_letters : Nat → Int32) (s0i : Int32) : fn_LS_letter a1 v_sy_variables c_sy_letters (28, s0i) = fn_LS_letter_b28 a1 v_sy_variables c_sy_letters s0i := by simp [fn_LS_letter]
set_option maxHeartbeats 4000000 in
set_option maxRecDepth 100000 in
theorem c_LS_letter (l : Launch) (dC : Nat → ClassId) (dI : Nat → Nat → Nat) (a_ls : Nat) (a_tx : Nat) (a_wo : Nat) (a_bu : Nat) (a_la : Nat) (a_se : Nat) (f_ls_lists : Nat) (a_ch : Nat) (f_ls_told : Nat) (f_ls_rest : Nat) (f_ls_taken : Nat) (f_ls_bestVector : Nat) (a_sy : Nat) (v_ls_hasSystem : Int32) (v_ls_hasSplit : Int32) (v_ls_hasBest : Int32) (v_ls_faultPlace : Int32) (f_sy_a : Nat) (f_sy_b : Nat) (f_sy_letters : Nat) (f_sy_slackRows : Nat) (f_sy_slackNumbers : Nat) (v_sy_rows : Int32) (v_sy_variables : Int32) (v_sy_slacks : Int32) (k_sy_letters : ClassId) (c_sy_letters : Nat → Int32) (a1 : Int32) (sz : Nat) (out : Int32) (hs : sm_tot (fn_LS_letter a1 v_sy_variables c_sy_letters) (0, 0) = some out) : Met l y_LS_letter (Cond.code y_LS_letter b_LS_letter 2 (Option.some Jvm.ClassFile.FieldType.int) :: wd) { frames := 0, cells := 0, slots := 0, locals := 0 } (va_Pc [.ref a_ls, .int a1] (fun U => U.heap.size = sz ∧ va_P (dC, dI) cls [(a_ls, .inr (0, [.ref a_tx, .ref a_wo, .ref a_bu, .ref a_la, .ref a_se, .ref f_ls_lists, .ref a_ch, .ref f_ls_told, .ref f_ls_rest, .ref f_ls_taken, .ref f_ls_bestVector, .ref a_sy, .int v_ls_hasSystem, .int v_ls_hasSplit, .int v_ls_hasBest, .int v_ls_faultPlace])), (a_sy, .inr (4, [.ref f_sy_a, .ref f_sy_b, .ref f_sy_letters, .ref f_sy_slackRows, .ref f_sy_slackNumbers, .int v_sy_rows, .int v_sy_variables, .int v_sy_slacks])), (f_sy_letters, .inl (k_sy_letters, 6, .inl c_sy_letters))] U.heap ∧ va_K (dC, dI) cls [(k_sy_letters, .int)] U ∧ va_D (fun _ => True) [(a_ls, .inr (0, [.ref a_tx, .ref a_wo, .ref a_bu, .ref a_la, .ref a_se, .ref f_ls_lists, .ref a_ch, .ref f_ls_told, .ref f_ls_rest, .ref f_ls_taken, .ref f_ls_bestVector, .ref a_sy, .int v_ls_hasSystem, .int v_ls_hasSplit, .int v_ls_hasBest, .int v_ls_faultPlace])), (a_sy, .inr (4, [.ref f_sy_a, .ref f_sy_b, .ref f_sy_letters, .ref f_sy_slackRows, .ref f_sy_slackNumbers, .int v_sy_rows, .int v_sy_variables, .int v_sy_slacks])), (f_sy_letters, .inl (k_sy_letters, 6, .inl c_sy_letters))] ∧ nw_ok U)) (va_Qi (fun r (_ : Unit) => r = out) (fun (_ : Unit) t => va_P (dC, dI) cls [(a_ls, .inr (0, [.ref a_tx, .ref a_wo, .ref a_bu, .ref a_la, .ref a_se, .ref f_ls_lists, .ref a_ch, .ref f_ls_told, .ref f_ls_rest, .ref f_ls_taken, .ref f_ls_bestVector, .ref a_sy, .int v_ls_hasSystem, .int v_ls_hasSplit, .int v_ls_hasBest, .int v_ls_faultPlace])), (a_sy, .inr (4, [.ref f_sy_a, .ref f_sy_b, .ref f_sy_letters, .ref f_sy_slackRows, .ref f_sy_slackNumbers, .int v_sy_rows, .int v_sy_variables, .int v_sy_slacks])), (f_sy_letters, .inl (k_sy_letters, 6, .inl c_sy_letters))] t.heap ∧ va_K (dC, dI) cls [(k_sy_letters, .int)] t ∧ va_D (va_A [(a_ls, .inr (0, [.ref a_tx, .ref a_wo, .ref a_bu, .ref a_la, .ref a_se, .ref f_ls_lists, .ref a_ch, .ref f_ls_told, .ref f_ls_rest, .ref f_ls_taken, .ref f_ls_bestVector, .ref a_sy, .int v_ls_hasSystem, .int v_ls_hasSplit, .int v_ls_hasBest, .int v_ls_faultPlace])), (a_sy, .inr (4, [.ref f_sy_a, .ref f_sy_b, .ref f_sy_letters, .ref f_sy_slackRows, .ref f_sy_slackNumbers, .int v_sy_rows, .int v_sy_variables, .int v_sy_slacks])), (f_sy_letters, .inl (k_sy_letters, 6, .inl c_sy_letters))] sz) [(a_ls, .inr (0, [.ref a_tx, .ref a_wo, .ref a_bu, .ref a_la, .ref a_se, .ref f_ls_lists, .ref a_ch, .ref f_ls_told, .ref f_ls_rest, .ref f_ls_taken, .ref f_ls_bestVector, .ref a_sy, .int v_ls_hasSystem, .int v_ls_hasSplit, .int v_ls_hasBest, .int v_ls_faultPlace])), (a_sy, .inr (4, [.ref f_sy_a, .ref f_sy_b, .ref f_sy_letters, .ref f_sy_slackRows, .ref f_sy_slackNumbers, .int v_sy_rows, .int v_sy_variables, .int v_sy_slacks])), (f_sy_letters, .inl (k_sy_letters, 6, .inl c_sy_letters))]) (va_A [(a_ls, .inr (0, [.ref a_tx, .ref a_wo, .ref a_bu, .ref a_la, .ref a_se, .ref f_ls_lists, .ref a_ch, .ref f_ls_told, .ref f_ls_rest, .ref f_ls_taken, .ref f_ls_bestVector, .ref a_sy, .int v_ls_hasSystem, .int v_ls_hasSplit, .int v_ls_hasBest, .int v_ls_faultPlace])), (a_sy, .inr (4, [.ref f_sy_a, .ref f_sy_b, .ref f_sy_letters, .ref f_sy_slackRows, .ref f_sy_slackNumbers, .int v_sy_rows, .int v_sy_variables, .int v_sy_slacks])), (f_sy_letters, .inl (k_sy_letters, 6, .inl c_sy_letters))] sz)) 0 0 (va_A [(a_ls, .inr (0, [.ref a_tx, .ref a_wo, .ref a_bu, .ref a_la, .ref a_se, .ref f_ls_lists, .ref a_ch, .ref f_ls_told, .ref f_ls_rest, .ref f_ls_taken, .ref f_ls_bestVector, .ref a_sy, .int v_ls_hasSystem, .int v_ls_hasSplit, .int v_ls_hasBest, .int v_ls_faultPlace])), (a_sy, .inr (4, [.ref f_sy_a, .ref f_sy_b, .ref f_sy_letters, .ref f_sy_slackRows, .ref f_sy_slackNumbers, .int v_sy_rows, .int v_sy_variables, .int v_sy_slacks])), (f_sy_letters, .inl (k_sy_letters, 6, .inl c_sy_letters))] sz) := by
  refine Met.ofW (cc := b_LS_letter) (maxL := 2) (ret := (Option.some Jvm.ClassFile.FieldType.int)) (by decide) rfl ?_
  intro p e s m args below meth c s₁ B hml hv
  obtain ⟨rfl, hsz, hP, hK, hD0, hN⟩ := hv
  have hx := B.exec
  have hb := B.bytes
  have hr := B.returns
  have hlocks := B.notSynchronized
  have hts : ∀ w ∈ wd, w.before ([.ref a_ls, .int a1] : List Value).toArray s = true := fun w hw => atoms_spec (ws := (Cond.code y_LS_letter b_LS_letter 2 (Option.some Jvm.ClassFile.FieldType.int) :: wd)) B.pre w (List.mem_cons_of_mem _ hw)
  have hown : s.vm.findClass "LeastSolutions" = some m.cls := findClass_of_methodNamed B.named
  subst hsz
  have hD := hD0.self (sz := s.heap.size)
  generalize hAe : va_A [(a_ls, .inr (0, [.ref a_tx, .ref a_wo, .ref a_bu, .ref a_la, .ref a_se, .ref f_ls_lists, .ref a_ch, .ref f_ls_told, .ref f_ls_rest, .ref f_ls_taken, .ref f_ls_bestVector, .ref a_sy, .int v_ls_hasSystem, .int v_ls_hasSplit, .int v_ls_hasBest, .int v_ls_faultPlace])), (a_sy, .inr (4, [.ref f_sy_a, .ref f_sy_b, .ref f_sy_letters, .ref f_sy_slackRows, .ref f_sy_slackNumbers, .int v_sy_rows, .int v_sy_variables, .int v_sy_slacks])), (f_sy_letters, .inl (k_sy_letters, 6, .inl c_sy_letters))] s.heap.size = A at hD ⊢
  have hA : ∀ q : Nat, s.heap.size ≤ q → A q := fun q h => by rw [← hAe]; exact Or.inr h
  have hS : va_S A s.heap s.heap [] := va_S.rf
  have hl := lv_entry ([.ref a_ls, .int a1]) (n := 2) (Nat.le_of_ble_eq_true rfl)
  rw [lg_entry_eq]
  generalize (lg_sl ([.ref a_ls, .int a1]) ++ List.replicate (2 - (lg_sl ([.ref a_ls, .int a1])).length) Slot.unset).toArray = ls at hl ⊢
  have hl : lv_has ls 2 [(0, .ref a_ls), (1, .int a1)] := hl
  obtain ⟨k8, hs⟩ := sm_of hs
  refine sm_key (fun R Q k9 => (∀ (H : Heap) (locs : List Loc) (ls : Array Slot) (s0i : Int32), sm_it (fn_LS_letter a1 v_sy_variables c_sy_letters) k9 (27, s0i) = some out → va_P (dC, dI) cls [(a_ls, .inr (0, [.ref a_tx, .ref a_wo, .ref a_bu, .ref a_la, .ref a_se, .ref f_ls_lists, .ref a_ch, .ref f_ls_told, .ref f_ls_rest, .ref f_ls_taken, .ref f_ls_bestVector, .ref a_sy, .int v_ls_hasSystem, .int v_ls_hasSplit, .int v_ls_hasBest, .int v_ls_faultPlace])), (a_sy, .inr (4, [.ref f_sy_a, .ref f_sy_b, .ref f_sy_letters, .ref f_sy_slackRows, .ref f_sy_slackNumbers, .int v_sy_rows, .int v_sy_variables, .int v_sy_slacks])), (f_sy_letters, .inl (k_sy_letters, 6, .inl c_sy_letters))] H → va_D A [(a_ls, .inr (0, [.ref a_tx, .ref a_wo, .ref a_bu, .ref a_la, .ref a_se, .ref f_ls_lists, .ref a_ch, .ref f_ls_told, .ref f_ls_rest, .ref f_ls_taken, .ref f_ls_bestVector, .ref a_sy, .int v_ls_hasSystem, .int v_ls_hasSplit, .int v_ls_hasBest, .int v_ls_faultPlace])), (a_sy, .inr (4, [.ref f_sy_a, .ref f_sy_b, .ref f_sy_letters, .ref f_sy_slackRows, .ref f_sy_slackNumbers, .int v_sy_rows, .int v_sy_variables, .int v_sy_slacks])), (f_sy_letters, .inl (k_sy_letters, 6, .inl c_sy_letters))] → va_S A s.heap H locs → lv_has ls 2 [] → W p l e R s m ([.ref a_ls, .int a1] : List Value).toArray below meth c H locs 0 0 Q (F0 m 27 ls [])) ∧ (∀ (H : Heap) (locs : List Loc) (ls : Array Slot) (s0i : Int32), sm_it (fn_LS_letter a1 v_sy_variables c_sy_letters) k9 (28, s0i) = some out → va_P (dC, dI) cls [(a_ls, .inr (0, [.ref a_tx, .ref a_wo, .ref a_bu, .ref a_la, .ref a_se, .ref f_ls_lists, .ref a_ch, .ref f_ls_told, .ref f_ls_rest, .ref f_ls_taken, .ref f_ls_bestVector, .ref a_sy, .int v_ls_hasSystem, .int v_ls_hasSplit, .int v_ls_hasBest, .int v_ls_faultPlace])), (a_sy, .inr (4, [.ref f_sy_a, .ref f_sy_b, .ref f_sy_letters, .ref f_sy_slackRows, .ref f_sy_slackNumbers, .int v_sy_rows, .int v_sy_variables, .int v_sy_slacks])), (f_sy_letters, .inl (k_sy_letters, 6, .inl c_sy_letters))] H → va_D A [(a_ls, .inr (0, [.ref a_tx, .ref a_wo, .ref a_bu, .ref a_la, .ref a_se, .ref f_ls_lists, .ref a_ch, .ref f_ls_told, .ref f_ls_rest, .ref f_ls_taken, .ref f_ls_bestVector, .ref a_sy, .int v_ls_hasSystem, .int v_ls_hasSplit, .int v_ls_hasBest, .int v_ls_faultPlace])), (a_sy, .inr (4, [.ref f_sy_a, .ref f_sy_b, .ref f_sy_letters, .ref f_sy_slackRows, .ref f_sy_slackNumbers, .int v_sy_rows, .int v_sy_variables, .int v_sy_slacks])), (f_sy_letters, .inl (k_sy_letters, 6, .inl c_sy_letters))] → va_S A s.heap H locs → lv_has ls 2 [] → W p l e R s m ([.ref a_ls, .int a1] : List Value).toArray below meth c H locs 0 0 Q (F0 m 28 ls [.int s0i]))) ?_ ?_ ?_
  · exact ⟨(fun _ _ _ _ hs => by cases hs), (fun _ _ _ _ hs => by cases hs)⟩
  · intro k9 ih
    refine ⟨?_, ?_⟩
    · intro H locs ls s0i hs hP hD hS hl
      rw [sm_it_succ, fn_LS_letter_q27] at hs
      unfold fn_LS_letter_b27 at hs
      refine lv_iconst (v := (-1)) hx hb d_LS_letter_27 (by decide) ?_
      exact ih.2 _ _ _ _ hs hP hD hS (lv_sub hl [] rfl)
    · intro H locs ls s0i hs hP hD hS hl
      rw [sm_it_succ, fn_LS_letter_q28] at hs
      unfold fn_LS_letter_b28 at hs
      have he := sm_end hs
      subst he
      exact W.iret (v := s0i) hx hb hr (fun t ht hW => ⟨⟨s0i, (), rfl, rfl, by rw [ht]; exact hP, va_K.moved hW.alike hK, hD⟩, hS.F ht⟩) hS.2.2 d_LS_letter_28
  · intro key
    cases k8 with
    | zero => cases hs
    | succ k9 =>
      rw [sm_it_succ, fn_LS_letter_q0] at hs
      unfold fn_LS_letter_b0 at hs
      refine lv_iload_n hx hb d_LS_letter_0 rfl (lv_at hl 1 rfl) ?_
      refine lv_if_lt (tgt := 27) hx hb d_LS_letter_1 (by decide) (fun hc1 => ?_) (fun hc1 => ?_)
      · have hs := sm_pos hc1 hs
        exact (key k9).1 _ _ _ _ hs hP hD hS (lv_sub hl [] rfl)
      · have hs := sm_neg hc1 hs
        refine lv_iload_n hx hb d_LS_letter_4 rfl (lv_at hl 1 rfl) ?_
        refine lv_aload_n hx hb d_LS_letter_5 rfl (lv_at hl 0 rfl) ?_
        refine va_get (D := (dC, dI)) (ci := 0) (v := .ref a_sy) (C := R_LS) (T := T_LS) (N := 16) hx hb hts in_LS hown hK hP 0 rfl rfl 11 (by decide) (hts _ k_300) (fun _ h9 => h9) rfl d_LS_letter_6 ?_
        refine va_getN (D := (dC, dI)) (ci := 4) (v := .int v_sy_variables) (C := R_EQ) (T := T_EQ) (N := 8) hx hb hts in_EQ hown hK hP 1 rfl rfl 6 (by decide) (va_Nw.use rfl (hN.1 (Jvm.Cond.fieldLinkNest "LeastSolutions" (112 : Nat) "LeastSolutions$Equations" "variables" "I" "LeastSolutions") nw_24)) (fun _ h9 => h9) rfl d_LS_letter_9 ?_
        refine lv_icmp_ge (tgt := 27) hx hb d_LS_letter_12 (by decide) (fun hc2 => ?_) (fun hc2 => ?_)
        · have hs := sm_pos hc2 hs
          exact (key k9).1 _ _ _ _ hs hP hD hS (lv_sub hl [] rfl)
        · have hs := sm_neg hc2 hs
          refine lv_aload_n hx hb d_LS_letter_15 rfl (lv_at hl 0 rfl) ?_
          refine va_get (D := (dC, dI)) (ci := 0) (v := .ref a_sy) (C := R_LS) (T := T_LS) (N := 16) hx hb hts in_LS hown hK hP 0 rfl rfl 11 (by decide) (hts _ k_300) (fun _ h9 => h9) rfl d_LS_letter_16 ?_
          refine va_getN (D := (dC, dI)) (ci := 4) (v := .ref f_sy_letters) (C := R_EQ) (T := T_EQ) (N := 8) hx hb hts in_EQ hown hK hP 1 rfl rfl 2 (by decide) (va_Nw.use rfl (hN.1 (Jvm.Cond.fieldLinkNest "LeastSolutions" (115 : Nat) "LeastSolutions$Equations" "letters" "[I" "LeastSolutions") nw_19)) (fun _ h9 => h9) rfl d_LS_letter_19 ?_
          refine lv_iload_n hx hb d_LS_letter_22 rfl (lv_at hl 1 rfl) ?_
          obtain ⟨hg1, hs⟩ := sm_gd hs
          refine va_iald hx hb hK hP 2 0 rfl rfl hg1 d_LS_letter_23 ?_
          refine lv_goto (tgt := 28) hx hb d_LS_letter_24 (by decide) ?_
          exact (key k9).2 _ _ _ _ hs hP hD hS (lv_sub hl [] rfl)
