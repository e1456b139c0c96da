noncomputable def fn_JM_floorDiv_b0 (a1 : Int64) (a2 : Int64) (_z0 : Int64) : Option ((Nat × Int64) ⊕ (Int64)) := if ¬ (a2 : Int64) = 0 then if (0 : Int32) ≤ (lg_cmp (a1 ^^^ a2) 0) then (some (.inl (27, (a1 / a2)))) else (if ((lg_cmp ((a1 / a2) * a2) a1) : Int32) = 0 then (some (.inl (27, (a1 / a2)))) else (some (.inr ((a1 / a2) - 1)))) else none
noncomputable def fn_JM_floorDiv_b27 (a1 : Int64) (a2 : Int64) (x4j : Int64) : Option ((Nat × Int64) ⊕ (Int64)) := some (.inr x4j)
noncomputable def fn_JM_floorDiv (a1 : Int64) (a2 : Int64) : Nat × Int64 → Option ((Nat × Int64) ⊕ (Int64)) := fun st => match st with
  | (pc, x4j) => if pc = 0 then fn_JM_floorDiv_b0 a1 a2 x4j else if pc = 27 then fn_JM_floorDiv_b27 a1 a2 x4j else none
theorem fn_JM_floorDiv_q0 (a1 : Int64) (a2 : Int64) (x4j : Int64) : fn_JM_floorDiv a1 a2 (0, x4j) = fn_JM_floorDiv_b0 a1 a2 x4j := by simp [fn_JM_floorDiv]
theorem fn_JM_floorDiv_q27 (a1 : Int64) (a2 : Int64) (x4j : Int64) : fn_JM_floorDiv a1 a2 (27, x4j) = fn_JM_floorDiv_b27 a1 a2 x4j := by simp [fn_JM_floorDiv]
set_option maxHeartbeats 4000000 in
set_option maxRecDepth 100000 in
theorem c_JM_floorDiv (l : Launch) (dC : Nat → ClassId) (dI : Nat → Nat → Nat) (a1 : Int64) (a2 : Int64) (sz : Nat) (out : Int64) (hs : sm_tot (fn_JM_floorDiv a1 a2) (0, 0) = some out) : Met l y_JM_floorDiv (Cond.code y_JM_floorDiv b_JM_floorDiv 6 (Option.some Jvm.ClassFile.FieldType.long) :: wd) { frames := 0, cells := 0, slots := 0, locals := 0 } (va_Pc [.long a1, .long a2] (fun U => U.heap.size = sz ∧ va_P (dC, dI) cls [] U.heap ∧ va_K (dC, dI) cls [] U ∧ va_D (fun _ => True) [] ∧ nw_ok U)) (va_Ql (fun r (_ : Unit) => r = out) (fun (_ : Unit) t => va_P (dC, dI) cls [] t.heap ∧ va_K (dC, dI) cls [] t ∧ va_D (va_A [] sz) []) (va_A [] sz)) 0 0 (va_A [] sz) := by
  refine va_MetF (cc := b_JM_floorDiv) (maxL := 6) (ret := (Option.some Jvm.ClassFile.FieldType.long)) (by decide +kernel) rfl ?_
  intro p e s m args below meth c s₁ B hml hv
  obtain ⟨rfl, hsz, hP, hK, hD0, hN⟩ := hv
  have hx := B.exec
  have hb := B.bytes
  have hr := B.returns
  have hlocks := B.notSynchronized
  have hts : ∀ w ∈ wd, w.before ([.long a1, .long a2] : List Value).toArray s = true := fun w hw => atoms_spec (ws := (Cond.code y_JM_floorDiv b_JM_floorDiv 6 (Option.some Jvm.ClassFile.FieldType.long) :: wd)) B.pre w (List.mem_cons_of_mem _ hw)
  have hown : s.vm.findClass "java/lang/Math" = some m.cls := findClass_of_methodNamed B.named
  subst hsz
  have hD := hD0.self (sz := s.heap.size)
  generalize hAe : va_A [] s.heap.size = A at hD ⊢
  have hA : ∀ q : Nat, s.heap.size ≤ q → A q := fun q h => by rw [← hAe]; exact Or.inr h
  have hS : va_S A s.heap s.heap [] := va_S.rf
  have hl := lv_entry ([.long a1, .long a2]) (n := 6) (Nat.le_of_ble_eq_true rfl)
  rw [lg_entry_eq]
  generalize (lg_sl ([.long a1, .long a2]) ++ List.replicate (6 - (lg_sl ([.long a1, .long a2])).length) Slot.unset).toArray = ls at hl ⊢
  have hl : lv_has ls 6 [(0, .long a1), (2, .long a2)] := hl
  obtain ⟨k8, hs⟩ := sm_of hs
  refine sm_key (fun R Q k9 => (∀ (H : Heap) (locs : List Loc) (ls : Array Slot) (x4j : Int64), sm_it (fn_JM_floorDiv a1 a2) k9 (27, x4j) = some out → va_P (dC, dI) cls [] H → va_D A [] → va_S A s.heap H locs → lv_has ls 6 [(4, .long x4j)] → W p l e R s m ([.long a1, .long a2] : List Value).toArray below meth c H locs 0 0 Q (F0 m 27 ls []))) ?_ ?_ ?_
  · exact fun _ _ _ _ hs => by cases hs
  · intro k9 ih
    skip
    intro H locs ls x4j hs hP hD hS hl
    rw [sm_it_succ, fn_JM_floorDiv_q27] at hs
    unfold fn_JM_floorDiv_b27 at hs
    refine lv_lload hx hb d_JM_floorDiv_27 (lv_at hl 0 rfl) ?_
    have he := sm_end hs
    subst he
    exact W.lret (v := x4j) hx hb hr (fun t ht hW => ⟨⟨x4j, (), rfl, rfl, by rw [ht]; exact hP, va_K.moved hW.alike hK, hD⟩, hS.F ht⟩) hS.2.2 d_JM_floorDiv_29
  · intro key
    cases k8 with
    | zero => cases hs
    | succ k9 =>
      rw [sm_it_succ, fn_JM_floorDiv_q0] at hs
      unfold fn_JM_floorDiv_b0 at hs
      refine lv_lload_n hx hb d_JM_floorDiv_0 rfl (lv_at hl 0 rfl) ?_
      refine lv_lload_n hx hb d_JM_floorDiv_1 rfl (lv_at hl 1 rfl) ?_
      obtain ⟨hg1, hs⟩ := sm_gd hs
      refine lv_ldiv hx hb d_JM_floorDiv_2 hg1 ?_
      refine lv_lstore hx hb d_JM_floorDiv_3 hl (by decide) rfl (fun ls hl => ?_)
      have hl : lv_has ls 6 [(4, .long (a1 / a2)), (0, .long a1), (2, .long a2)] := hl
      refine lv_lload_n hx hb d_JM_floorDiv_5 rfl (lv_at hl 1 rfl) ?_
      refine lv_lload_n hx hb d_JM_floorDiv_6 rfl (lv_at hl 2 rfl) ?_
      refine lv_lxor hx hb d_JM_floorDiv_7 ?_
      refine lv_lconst (v := 0) hx hb d_JM_floorDiv_8 (by decide) ?_
      refine W.lcmp hx hb d_JM_floorDiv_9 ?_
      refine lv_if_ge (tgt := 27) hx hb d_JM_floorDiv_10 (by decide) (fun hc1 => ?_) (fun hc1 => ?_)
      · have hs := sm_pos hc1 hs
        exact (key k9) _ _ _ _ hs hP hD hS (lv_sub hl [0] rfl)
      · have hs := sm_neg hc1 hs
        refine lv_lload hx hb d_JM_floorDiv_13 (lv_at hl 0 rfl) ?_
        refine lv_lload_n hx hb d_JM_floorDiv_15 rfl (lv_at hl 2 rfl) ?_
        refine lv_lmul hx hb d_JM_floorDiv_16 ?_
        refine lv_lload_n hx hb d_JM_floorDiv_17 rfl (lv_at hl 1 rfl) ?_
        refine W.lcmp hx hb d_JM_floorDiv_18 ?_
        refine lv_if_eq (tgt := 27) hx hb d_JM_floorDiv_19 (by decide) (fun hc2 => ?_) (fun hc2 => ?_)
        · have hs := sm_pos hc2 hs
          exact (key k9) _ _ _ _ hs hP hD hS (lv_sub hl [0] rfl)
        · have hs := sm_neg hc2 hs
          refine lv_lload hx hb d_JM_floorDiv_22 (lv_at hl 0 rfl) ?_
          refine lv_lconst (v := 1) hx hb d_JM_floorDiv_24 (by decide) ?_
          refine lv_lsub hx hb d_JM_floorDiv_25 ?_
          have he := sm_end hs
          subst he
          exact W.lret (v := ((a1 / a2) - 1)) hx hb hr (fun t ht hW => ⟨⟨((a1 / a2) - 1), (), rfl, rfl, by rw [ht]; exact hP, va_K.moved hW.alike hK, hD⟩, hS.F ht⟩) hS.2.2 d_JM_floorDiv_26

noncomputable def fn_JA_fill_b0 (n_o1 : Nat) (a2 : Int32) (_z0 : Int32) (_z1 : Int32) (c_o1 : Nat → Int32) : Option ((Nat × Int32 × Int32 × (Nat → Int32)) ⊕ ((Nat → Int32))) := some (.inl (5, 0, (Int32.ofNat n_o1), c_o1))
noncomputable def fn_JA_fill_b5 (n_o1 : Nat) (a2 : Int32) (x2i : Int32) (x3i : Int32) (u_o1 : Nat → Int32) : Option ((Nat × Int32 × Int32 × (Nat → Int32)) ⊕ ((Nat → Int32))) := if (x3i : Int32) ≤ x2i then (some (.inr u_o1)) else (if ¬ ((x2i : Int32) < 0 ∨ n_o1 ≤ (x2i : Int32).toNatClampNeg) then some (.inl (5, (x2i + 1), x3i, (upd u_o1 (x2i : Int32).toNatClampNeg a2))) else none)
noncomputable def fn_JA_fill (n_o1 : Nat) (a2 : Int32) : Nat × Int32 × Int32 × (Nat → Int32) → Option ((Nat × Int32 × Int32 × (Nat → Int32)) ⊕ ((Nat → Int32))) := fun st => match st with
  | (pc, x2i, x3i, u_o1) => if pc = 0 then fn_JA_fill_b0 n_o1 a2 x2i x3i u_o1 else if pc = 5 then fn_JA_fill_b5 n_o1 a2 x2i x3i u_o1 else none
theorem fn_JA_fill_q0 (n_o1 : Nat) (a2 : Int32) (x2i : Int32) (x3i : Int32) (u_o1 : Nat → Int32) : fn_JA_fill n_o1 a2 (0, x2i, x3i, u_o1) = fn_JA_fill_b0 n_o1 a2 x2i x3i u_o1 := by simp [fn_JA_fill]
theorem fn_JA_fill_q5 (n_o1 : Nat) (a2 : Int32) (x2i : Int32) (x3i : Int32) (u_o1 : Nat → Int32) : fn_JA_fill n_o1 a2 (5, x2i, x3i, u_o1) = fn_JA_fill_b5 n_o1 a2 x2i x3i u_o1 := by simp [fn_JA_fill]
set_option maxHeartbeats 4000000 in
set_option maxRecDepth 100000 in
theorem c_JA_fill (l : Launch) (dC : Nat → ClassId) (dI : Nat → Nat → Nat) (f_o1 : Nat) (k_o1 : ClassId) (n_o1 : Nat) (c_o1 : Nat → Int32) (a2 : Int32) (sz : Nat) (out : (Nat → Int32)) (hs : sm_tot (fn_JA_fill n_o1 a2) (0, 0, 0, c_o1) = some out) : Met l y_JA_fill (Cond.code y_JA_fill b_JA_fill 4 (Option.none : Option Jvm.ClassFile.FieldType) :: wd) { frames := 0, cells := 0, slots := 0, locals := 0 } (va_Pc [.ref f_o1, .int a2] (fun U => U.heap.size = sz ∧ va_P (dC, dI) cls [(f_o1, .inl (k_o1, n_o1, .inl c_o1))] U.heap ∧ va_K (dC, dI) cls [(k_o1, .int)] U ∧ va_D (fun _ => True) [(f_o1, .inl (k_o1, n_o1, .inl c_o1))] ∧ nw_ok U)) (va_Qv (fun _ : Unit => True) (fun (_ : Unit) t => va_P (dC, dI) cls [(f_o1, .inl (k_o1, n_o1, .inl out))] t.heap ∧ va_K (dC, dI) cls [(k_o1, .int)] t ∧ va_D (va_A [(f_o1, .inl (k_o1, n_o1, .inl c_o1))] sz) [(f_o1, .inl (k_o1, n_o1, .inl out))]) (va_A [(f_o1, .inl (k_o1, n_o1, .inl c_o1))] sz)) 0 0 (va_A [(f_o1, .inl (k_o1, n_o1, .inl c_o1))] sz) := by
  refine va_MetF (cc := b_JA_fill) (maxL := 4) (ret := (Option.none : Option Jvm.ClassFile.FieldType)) (by decide +kernel) rfl ?_
  intro p e s m args below meth c s₁ B hml hv
  obtain ⟨rfl, hsz, hP, hK, hD0, hN⟩ := hv
  have hx := B.exec
  have hb := B.bytes
  have hr := B.returns
  have hlocks := B.notSynchronized
  have hts : ∀ w ∈ wd, w.before ([.ref f_o1, .int a2] : List Value).toArray s = true := fun w hw => atoms_spec (ws := (Cond.code y_JA_fill b_JA_fill 4 (Option.none : Option Jvm.ClassFile.FieldType) :: wd)) B.pre w (List.mem_cons_of_mem _ hw)
  have hown : s.vm.findClass "java/util/Arrays" = some m.cls := findClass_of_methodNamed B.named
  subst hsz
  have hD := hD0.self (sz := s.heap.size)
  generalize hAe : va_A [(f_o1, .inl (k_o1, n_o1, .inl c_o1))] s.heap.size = A at hD ⊢
  have hA : ∀ q : Nat, s.heap.size ≤ q → A q := fun q h => by rw [← hAe]; exact Or.inr h
  have hS : va_S A s.heap s.heap [] := va_S.rf
  have hl := lv_entry ([.ref f_o1, .int a2]) (n := 4) (Nat.le_of_ble_eq_true rfl)
  rw [lg_entry_eq]
  generalize (lg_sl ([.ref f_o1, .int a2]) ++ List.replicate (4 - (lg_sl ([.ref f_o1, .int a2])).length) Slot.unset).toArray = ls at hl ⊢
  have hl : lv_has ls 4 [(0, .ref f_o1), (1, .int a2)] := hl
  obtain ⟨k8, hs⟩ := sm_of hs
  refine sm_key (fun R Q k9 => (∀ (H : Heap) (locs : List Loc) (ls : Array Slot) (x2i : Int32) (x3i : Int32) (u_o1 : Nat → Int32), sm_it (fn_JA_fill n_o1 a2) k9 (5, x2i, x3i, u_o1) = some out → va_P (dC, dI) cls [(f_o1, .inl (k_o1, n_o1, .inl u_o1))] H → va_D A [(f_o1, .inl (k_o1, n_o1, .inl u_o1))] → va_S A s.heap H locs → lv_has ls 4 [(0, .ref f_o1), (1, .int a2), (2, .int x2i), (3, .int x3i)] → W p l e R s m ([.ref f_o1, .int a2] : List Value).toArray below meth c H locs 0 0 Q (F0 m 5 ls []))) ?_ ?_ ?_
  · exact fun _ _ _ _ _ _ hs => by cases hs
  · intro k9 ih
    skip
    intro H locs ls x2i x3i u_o1 hs hP hD hS hl
    rw [sm_it_succ, fn_JA_fill_q5] at hs
    unfold fn_JA_fill_b5 at hs
    refine lv_iload_n hx hb d_JA_fill_5 rfl (lv_at hl 2 rfl) ?_
    refine lv_iload_n hx hb d_JA_fill_6 rfl (lv_at hl 3 rfl) ?_
    refine lv_icmp_ge (tgt := 20) hx hb d_JA_fill_7 (by decide) (fun hc1 => ?_) (fun hc1 => ?_)
    · have hs := sm_pos hc1 hs
      have he := sm_end hs
      subst he
      exact W.vret hx hb hr (fun t ht hW => ⟨⟨(), rfl, trivial, by rw [ht]; exact hP, va_K.moved hW.alike hK, hD⟩, hS.F ht⟩) hS.2.2 d_JA_fill_20
    · have hs := sm_neg hc1 hs
      refine lv_aload_n hx hb d_JA_fill_10 rfl (lv_at hl 0 rfl) ?_
      refine lv_iload_n hx hb d_JA_fill_11 rfl (lv_at hl 2 rfl) ?_
      refine lv_iload_n hx hb d_JA_fill_12 rfl (lv_at hl 1 rfl) ?_
      obtain ⟨hg1, hs⟩ := sm_gd hs
      refine va_iast hx hb hK hP hD hS 0 0 rfl rfl hg1 d_JA_fill_13 (fun H1 locs hP hD hS => ?_)
      have hP : va_P (dC, dI) cls [(f_o1, .inl (k_o1, n_o1, .inl (upd u_o1 (x2i : Int32).toNatClampNeg a2)))] H1 := hP
      have hD : va_D A [(f_o1, .inl (k_o1, n_o1, .inl (upd u_o1 (x2i : Int32).toNatClampNeg a2)))] := hD
      refine lv_iinc (k := 2) (v := (x2i + 1)) hx hb d_JA_fill_14 hl rfl (congrArg (fun z : Int32 => x2i + z) (by decide : Int32.ofInt 1 = 1)) (by decide) rfl (fun ls hl => ?_)
      have hl : lv_has ls 4 [(2, .int (x2i + 1)), (0, .ref f_o1), (1, .int a2), (3, .int x3i)] := hl
      refine lv_goto (tgt := 5) hx hb d_JA_fill_17 (by decide) ?_
      exact ih _ _ _ _ _ _ hs hP hD hS (lv_sub hl [1, 2, 0, 3] rfl)
  · intro key
    cases k8 with
    | zero => cases hs
    | succ k9 =>
      rw [sm_it_succ, fn_JA_fill_q0] at hs
      unfold fn_JA_fill_b0 at hs
      refine lv_iconst (v := 0) hx hb d_JA_fill_0 (by decide) ?_
      refine lv_istore_n hx hb d_JA_fill_1 rfl hl (by decide) rfl (fun ls hl => ?_)
      have hl : lv_has ls 4 [(2, .int 0), (0, .ref f_o1), (1, .int a2)] := hl
      refine lv_aload_n hx hb d_JA_fill_2 rfl (lv_at hl 1 rfl) ?_
      refine va_alen (v := (Int32.ofNat n_o1)) hx hb hK hP 0 0 rfl rfl rfl d_JA_fill_3 ?_
      refine lv_istore_n hx hb d_JA_fill_4 rfl hl (by decide) rfl (fun ls hl => ?_)
      have hl : lv_has ls 4 [(3, .int (Int32.ofNat n_o1)), (2, .int 0), (0, .ref f_o1), (1, .int a2)] := hl
      exact (key k9) _ _ _ _ _ _ hs hP hD hS (lv_sub hl [2, 3, 1, 0] rfl)

noncomputable def fn_JA_fill_r_b0 (rho : Nat) (a2 : Int32) (_z0 : Int32) (_z1 : Int32) (c_o1 : Nat → Nat → Int32) : Option ((Nat × Int32 × Int32 × (Nat → Nat → Int32)) ⊕ ((Nat → Nat → Int32))) := some (.inl (5, 0, 6, c_o1))
noncomputable def fn_JA_fill_r_b5 (rho : Nat) (a2 : Int32) (x2i : Int32) (x3i : Int32) (u_o1 : Nat → Nat → Int32) : Option ((Nat × Int32 × Int32 × (Nat → Nat → Int32)) ⊕ ((Nat → Nat → Int32))) := if (x3i : Int32) ≤ x2i then (some (.inr u_o1)) else (if ¬ ((x2i : Int32) < 0 ∨ 6 ≤ (x2i : Int32).toNatClampNeg) then some (.inl (5, (x2i + 1), x3i, (up2 u_o1 rho (upd (u_o1 rho) (x2i : Int32).toNatClampNeg a2)))) else none)
noncomputable def fn_JA_fill_r (rho : Nat) (a2 : Int32) : Nat × Int32 × Int32 × (Nat → Nat → Int32) → Option ((Nat × Int32 × Int32 × (Nat → Nat → Int32)) ⊕ ((Nat → Nat → Int32))) := fun st => match st with
  | (pc, x2i, x3i, u_o1) => if pc = 0 then fn_JA_fill_r_b0 rho a2 x2i x3i u_o1 else if pc = 5 then fn_JA_fill_r_b5 rho a2 x2i x3i u_o1 else none
theorem fn_JA_fill_r_q0 (rho : Nat) (a2 : Int32) (x2i : Int32) (x3i : Int32) (u_o1 : Nat → Nat → Int32) : fn_JA_fill_r rho a2 (0, x2i, x3i, u_o1) = fn_JA_fill_r_b0 rho a2 x2i x3i u_o1 := by simp [fn_JA_fill_r]
theorem fn_JA_fill_r_q5 (rho : Nat) (a2 : Int32) (x2i : Int32) (x3i : Int32) (u_o1 : Nat → Nat → Int32) : fn_JA_fill_r rho a2 (5, x2i, x3i, u_o1) = fn_JA_fill_r_b5 rho a2 x2i x3i u_o1 := by simp [fn_JA_fill_r]
set_option maxHeartbeats 4000000 in
set_option maxRecDepth 100000 in
theorem c_JA_fill_r (l : Launch) (dC : Nat → ClassId) (dI : Nat → Nat → Nat) (r_o1 : Nat → Nat) (j_o1 : ClassId) (c_o1 : Nat → Nat → Int32) (rho : Nat) (a2 : Int32) (sz : Nat) (out : (Nat → Nat → Int32)) (hs : sm_tot (fn_JA_fill_r rho a2) (0, 0, 0, c_o1) = some out) (hrho : rho < 4) : Met l y_JA_fill (Cond.code y_JA_fill b_JA_fill 4 (Option.none : Option Jvm.ClassFile.FieldType) :: wd) { frames := 0, cells := 0, slots := 0, locals := 0 } (va_Pc [.ref (r_o1 rho), .int a2] (fun U => U.heap.size = sz ∧ va_P (dC, dI) cls [((r_o1 0), .inl (j_o1, 6, .inl (c_o1 0))), ((r_o1 1), .inl (j_o1, 6, .inl (c_o1 1))), ((r_o1 2), .inl (j_o1, 6, .inl (c_o1 2))), ((r_o1 3), .inl (j_o1, 6, .inl (c_o1 3)))] U.heap ∧ va_K (dC, dI) cls [(j_o1, .int)] U ∧ va_D (fun _ => True) [((r_o1 0), .inl (j_o1, 6, .inl (c_o1 0))), ((r_o1 1), .inl (j_o1, 6, .inl (c_o1 1))), ((r_o1 2), .inl (j_o1, 6, .inl (c_o1 2))), ((r_o1 3), .inl (j_o1, 6, .inl (c_o1 3)))] ∧ nw_ok U)) (va_Qv (fun _ : Unit => True) (fun (_ : Unit) t => va_P (dC, dI) cls [((r_o1 0), .inl (j_o1, 6, .inl (out 0))), ((r_o1 1), .inl (j_o1, 6, .inl (out 1))), ((r_o1 2), .inl (j_o1, 6, .inl (out 2))), ((r_o1 3), .inl (j_o1, 6, .inl (out 3)))] t.heap ∧ va_K (dC, dI) cls [(j_o1, .int)] t ∧ va_D (va_A [((r_o1 0), .inl (j_o1, 6, .inl (c_o1 0))), ((r_o1 1), .inl (j_o1, 6, .inl (c_o1 1))), ((r_o1 2), .inl (j_o1, 6, .inl (c_o1 2))), ((r_o1 3), .inl (j_o1, 6, .inl (c_o1 3)))] sz) [((r_o1 0), .inl (j_o1, 6, .inl (out 0))), ((r_o1 1), .inl (j_o1, 6, .inl (out 1))), ((r_o1 2), .inl (j_o1, 6, .inl (out 2))), ((r_o1 3), .inl (j_o1, 6, .inl (out 3)))]) (va_A [((r_o1 0), .inl (j_o1, 6, .inl (c_o1 0))), ((r_o1 1), .inl (j_o1, 6, .inl (c_o1 1))), ((r_o1 2), .inl (j_o1, 6, .inl (c_o1 2))), ((r_o1 3), .inl (j_o1, 6, .inl (c_o1 3)))] sz)) 0 0 (va_A [((r_o1 0), .inl (j_o1, 6, .inl (c_o1 0))), ((r_o1 1), .inl (j_o1, 6, .inl (c_o1 1))), ((r_o1 2), .inl (j_o1, 6, .inl (c_o1 2))), ((r_o1 3), .inl (j_o1, 6, .inl (c_o1 3)))] sz) := by
  refine va_MetF (cc := b_JA_fill) (maxL := 4) (ret := (Option.none : Option Jvm.ClassFile.FieldType)) (by decide +kernel) rfl ?_
  intro p e s m args below meth c s₁ B hml hv
  obtain ⟨rfl, hsz, hP, hK, hD0, hN⟩ := hv
  have hx := B.exec
  have hb := B.bytes
  have hr := B.returns
  have hlocks := B.notSynchronized
  have hts : ∀ w ∈ wd, w.before ([.ref (r_o1 rho), .int a2] : List Value).toArray s = true := fun w hw => atoms_spec (ws := (Cond.code y_JA_fill b_JA_fill 4 (Option.none : Option Jvm.ClassFile.FieldType) :: wd)) B.pre w (List.mem_cons_of_mem _ hw)
  have hown : s.vm.findClass "java/util/Arrays" = some m.cls := findClass_of_methodNamed B.named
  subst hsz
  have hD := hD0.self (sz := s.heap.size)
  generalize hAe : va_A [((r_o1 0), .inl (j_o1, 6, .inl (c_o1 0))), ((r_o1 1), .inl (j_o1, 6, .inl (c_o1 1))), ((r_o1 2), .inl (j_o1, 6, .inl (c_o1 2))), ((r_o1 3), .inl (j_o1, 6, .inl (c_o1 3)))] s.heap.size = A at hD ⊢
  have hA : ∀ q : Nat, s.heap.size ≤ q → A q := fun q h => by rw [← hAe]; exact Or.inr h
  have hS : va_S A s.heap s.heap [] := va_S.rf
  have hl := lv_entry ([.ref (r_o1 rho), .int a2]) (n := 4) (Nat.le_of_ble_eq_true rfl)
  rw [lg_entry_eq]
  generalize (lg_sl ([.ref (r_o1 rho), .int a2]) ++ List.replicate (4 - (lg_sl ([.ref (r_o1 rho), .int a2])).length) Slot.unset).toArray = ls at hl ⊢
  have hl : lv_has ls 4 [(0, .ref (r_o1 rho)), (1, .int a2)] := hl
  obtain ⟨k8, hs⟩ := sm_of hs
  refine sm_key (fun R Q k9 => (∀ (H : Heap) (locs : List Loc) (ls : Array Slot) (x2i : Int32) (x3i : Int32) (u_o1 : Nat → Nat → Int32), sm_it (fn_JA_fill_r rho a2) k9 (5, x2i, x3i, u_o1) = some out → va_P (dC, dI) cls [((r_o1 0), .inl (j_o1, 6, .inl (u_o1 0))), ((r_o1 1), .inl (j_o1, 6, .inl (u_o1 1))), ((r_o1 2), .inl (j_o1, 6, .inl (u_o1 2))), ((r_o1 3), .inl (j_o1, 6, .inl (u_o1 3)))] H → va_D A [((r_o1 0), .inl (j_o1, 6, .inl (u_o1 0))), ((r_o1 1), .inl (j_o1, 6, .inl (u_o1 1))), ((r_o1 2), .inl (j_o1, 6, .inl (u_o1 2))), ((r_o1 3), .inl (j_o1, 6, .inl (u_o1 3)))] → va_S A s.heap H locs → lv_has ls 4 [(0, .ref (r_o1 rho)), (1, .int a2), (2, .int x2i), (3, .int x3i)] → W p l e R s m ([.ref (r_o1 rho), .int a2] : List Value).toArray below meth c H locs 0 0 Q (F0 m 5 ls []))) ?_ ?_ ?_
  · exact fun _ _ _ _ _ _ hs => by cases hs
  · intro k9 ih
    skip
    intro H locs ls x2i x3i u_o1 hs hP hD hS hl
    rw [sm_it_succ, fn_JA_fill_r_q5] at hs
    unfold fn_JA_fill_r_b5 at hs
    refine lv_iload_n hx hb d_JA_fill_5 rfl (lv_at hl 2 rfl) ?_
    refine lv_iload_n hx hb d_JA_fill_6 rfl (lv_at hl 3 rfl) ?_
    refine lv_icmp_ge (tgt := 20) hx hb d_JA_fill_7 (by decide) (fun hc1 => ?_) (fun hc1 => ?_)
    · have hs := sm_pos hc1 hs
      have he := sm_end hs
      subst he
      exact W.vret hx hb hr (fun t ht hW => ⟨⟨(), rfl, trivial, by rw [ht]; exact hP, va_K.moved hW.alike hK, hD⟩, hS.F ht⟩) hS.2.2 d_JA_fill_20
    · have hs := sm_neg hc1 hs
      refine lv_aload_n hx hb d_JA_fill_10 rfl (lv_at hl 0 rfl) ?_
      refine lv_iload_n hx hb d_JA_fill_11 rfl (lv_at hl 2 rfl) ?_
      refine lv_iload_n hx hb d_JA_fill_12 rfl (lv_at hl 1 rfl) ?_
      obtain ⟨hg1, hs⟩ := sm_gd hs
      refine va_iast hx hb hK hP hD hS (0 + rho) 0 (ro4 (P := fun i9 => ([((r_o1 0), .inl (j_o1, 6, .inl (u_o1 0))), ((r_o1 1), .inl (j_o1, 6, .inl (u_o1 1))), ((r_o1 2), .inl (j_o1, 6, .inl (u_o1 2))), ((r_o1 3), .inl (j_o1, 6, .inl (u_o1 3)))] : va_W)[0 + i9]? = some ((r_o1 i9), .inl (j_o1, 6, .inl (u_o1 i9)))) rfl rfl rfl rfl hrho) rfl hg1 d_JA_fill_13 (fun H1 locs hP hD hS => ?_)
      have e9 := ro4 (P := fun i9 => List.set ([((r_o1 0), .inl (j_o1, 6, .inl (u_o1 0))), ((r_o1 1), .inl (j_o1, 6, .inl (u_o1 1))), ((r_o1 2), .inl (j_o1, 6, .inl (u_o1 2))), ((r_o1 3), .inl (j_o1, 6, .inl (u_o1 3)))] : va_W) (0 + i9) ((r_o1 i9), .inl (j_o1, 6, .inl (upd (u_o1 i9) (x2i : Int32).toNatClampNeg a2))) = ([((r_o1 0), .inl (j_o1, 6, .inl ((up2 u_o1 i9 (upd (u_o1 i9) (x2i : Int32).toNatClampNeg a2)) 0))), ((r_o1 1), .inl (j_o1, 6, .inl ((up2 u_o1 i9 (upd (u_o1 i9) (x2i : Int32).toNatClampNeg a2)) 1))), ((r_o1 2), .inl (j_o1, 6, .inl ((up2 u_o1 i9 (upd (u_o1 i9) (x2i : Int32).toNatClampNeg a2)) 2))), ((r_o1 3), .inl (j_o1, 6, .inl ((up2 u_o1 i9 (upd (u_o1 i9) (x2i : Int32).toNatClampNeg a2)) 3)))] : va_W)) rfl rfl rfl rfl hrho
      rw [e9] at hP hD
      have hP : va_P (dC, dI) cls [((r_o1 0), .inl (j_o1, 6, .inl ((up2 u_o1 rho (upd (u_o1 rho) (x2i : Int32).toNatClampNeg a2)) 0))), ((r_o1 1), .inl (j_o1, 6, .inl ((up2 u_o1 rho (upd (u_o1 rho) (x2i : Int32).toNatClampNeg a2)) 1))), ((r_o1 2), .inl (j_o1, 6, .inl ((up2 u_o1 rho (upd (u_o1 rho) (x2i : Int32).toNatClampNeg a2)) 2))), ((r_o1 3), .inl (j_o1, 6, .inl ((up2 u_o1 rho (upd (u_o1 rho) (x2i : Int32).toNatClampNeg a2)) 3)))] H1 := hP
      have hD : va_D A [((r_o1 0), .inl (j_o1, 6, .inl ((up2 u_o1 rho (upd (u_o1 rho) (x2i : Int32).toNatClampNeg a2)) 0))), ((r_o1 1), .inl (j_o1, 6, .inl ((up2 u_o1 rho (upd (u_o1 rho) (x2i : Int32).toNatClampNeg a2)) 1))), ((r_o1 2), .inl (j_o1, 6, .inl ((up2 u_o1 rho (upd (u_o1 rho) (x2i : Int32).toNatClampNeg a2)) 2))), ((r_o1 3), .inl (j_o1, 6, .inl ((up2 u_o1 rho (upd (u_o1 rho) (x2i : Int32).toNatClampNeg a2)) 3)))] := hD
      refine lv_iinc (k := 2) (v := (x2i + 1)) hx hb d_JA_fill_14 hl rfl (congrArg (fun z : Int32 => x2i + z) (by decide : Int32.ofInt 1 = 1)) (by decide) rfl (fun ls hl => ?_)
      have hl : lv_has ls 4 [(2, .int (x2i + 1)), (0, .ref (r_o1 rho)), (1, .int a2), (3, .int x3i)] := hl
      refine lv_goto (tgt := 5) hx hb d_JA_fill_17 (by decide) ?_
      exact ih _ _ _ _ _ _ hs hP hD hS (lv_sub hl [1, 2, 0, 3] rfl)
  · intro key
    cases k8 with
    | zero => cases hs
    | succ k9 =>
      rw [sm_it_succ, fn_JA_fill_r_q0] at hs
      unfold fn_JA_fill_r_b0 at hs
      refine lv_iconst (v := 0) hx hb d_JA_fill_0 (by decide) ?_
      refine lv_istore_n hx hb d_JA_fill_1 rfl hl (by decide) rfl (fun ls hl => ?_)
      have hl : lv_has ls 4 [(2, .int 0), (0, .ref (r_o1 rho)), (1, .int a2)] := hl
      refine lv_aload_n hx hb d_JA_fill_2 rfl (lv_at hl 1 rfl) ?_
      refine va_alen (v := 6) hx hb hK hP (0 + rho) 0 (ro4 (P := fun i9 => ([((r_o1 0), .inl (j_o1, 6, .inl (c_o1 0))), ((r_o1 1), .inl (j_o1, 6, .inl (c_o1 1))), ((r_o1 2), .inl (j_o1, 6, .inl (c_o1 2))), ((r_o1 3), .inl (j_o1, 6, .inl (c_o1 3)))] : va_W)[0 + i9]? = some ((r_o1 i9), .inl (j_o1, 6, .inl (c_o1 i9)))) rfl rfl rfl rfl hrho) rfl (show Int32.ofNat 6 = 6 from by decide) d_JA_fill_3 ?_
      refine lv_istore_n hx hb d_JA_fill_4 rfl hl (by decide) rfl (fun ls hl => ?_)
      have hl : lv_has ls 4 [(3, .int 6), (2, .int 0), (0, .ref (r_o1 rho)), (1, .int a2)] := hl
      exact (key k9) _ _ _ _ _ _ hs hP hD hS (lv_sub hl [2, 3, 1, 0] rfl)

noncomputable def fn_JA_fill_l_b0 (n_o1 : Nat) (a2 : Int64) (_z0 : Int32) (_z1 : Int32) (c_o1 : Nat → Int64) : Option ((Nat × Int32 × Int32 × (Nat → Int64)) ⊕ ((Nat → Int64))) := some (.inl (6, 0, (Int32.ofNat n_o1), c_o1))
noncomputable def fn_JA_fill_l_b6 (n_o1 : Nat) (a2 : Int64) (x3i : Int32) (x4i : Int32) (u_o1 : Nat → Int64) : Option ((Nat × Int32 × Int32 × (Nat → Int64)) ⊕ ((Nat → Int64))) := if (x4i : Int32) ≤ x3i then (some (.inr u_o1)) else (if ¬ ((x3i : Int32) < 0 ∨ n_o1 ≤ (x3i : Int32).toNatClampNeg) then some (.inl (6, (x3i + 1), x4i, (vp_updL u_o1 (x3i : Int32).toNatClampNeg a2))) else none)
noncomputable def fn_JA_fill_l (n_o1 : Nat) (a2 : Int64) : Nat × Int32 × Int32 × (Nat → Int64) → Option ((Nat × Int32 × Int32 × (Nat → Int64)) ⊕ ((Nat → Int64))) := fun st => match st with
  | (pc, x3i, x4i, u_o1) => if pc = 0 then fn_JA_fill_l_b0 n_o1 a2 x3i x4i u_o1 else if pc = 6 then fn_JA_fill_l_b6 n_o1 a2 x3i x4i u_o1 else none
theorem fn_JA_fill_l_q0 (n_o1 : Nat) (a2 : Int64) (x3i : Int32) (x4i : Int32) (u_o1 : Nat → Int64) : fn_JA_fill_l n_o1 a2 (0, x3i, x4i, u_o1) = fn_JA_fill_l_b0 n_o1 a2 x3i x4i u_o1 := by simp [fn_JA_fill_l]
theorem fn_JA_fill_l_q6 (n_o1 : Nat) (a2 : Int64) (x3i : Int32) (x4i : Int32) (u_o1 : Nat → Int64) : fn_JA_fill_l n_o1 a2 (6, x3i, x4i, u_o1) = fn_JA_fill_l_b6 n_o1 a2 x3i x4i u_o1 := by simp [fn_JA_fill_l]
set_option maxHeartbeats 4000000 in
set_option maxRecDepth 100000 in
theorem c_JA_fill_l (l : Launch) (dC : Nat → ClassId) (dI : Nat → Nat → Nat) (f_o1 : Nat) (k_o1 : ClassId) (n_o1 : Nat) (c_o1 : Nat → Int64) (a2 : Int64) (sz : Nat) (out : (Nat → Int64)) (hs : sm_tot (fn_JA_fill_l n_o1 a2) (0, 0, 0, c_o1) = some out) : Met l y_JA_fill2 (Cond.code y_JA_fill2 b_JA_fill2 5 (Option.none : Option Jvm.ClassFile.FieldType) :: wd) { frames := 0, cells := 0, slots := 0, locals := 0 } (va_Pc [.ref f_o1, .long a2] (fun U => U.heap.size = sz ∧ va_P (dC, dI) cls [(f_o1, .inl (k_o1, n_o1, .inr (.inl c_o1)))] U.heap ∧ va_K (dC, dI) cls [(k_o1, .long)] U ∧ va_D (fun _ => True) [(f_o1, .inl (k_o1, n_o1, .inr (.inl c_o1)))] ∧ nw_ok U)) (va_Qv (fun _ : Unit => True) (fun (_ : Unit) t => va_P (dC, dI) cls [(f_o1, .inl (k_o1, n_o1, .inr (.inl out)))] t.heap ∧ va_K (dC, dI) cls [(k_o1, .long)] t ∧ va_D (va_A [(f_o1, .inl (k_o1, n_o1, .inr (.inl c_o1)))] sz) [(f_o1, .inl (k_o1, n_o1, .inr (.inl out)))]) (va_A [(f_o1, .inl (k_o1, n_o1, .inr (.inl c_o1)))] sz)) 0 0 (va_A [(f_o1, .inl (k_o1, n_o1, .inr (.inl c_o1)))] sz) := by
  refine va_MetF (cc := b_JA_fill2) (maxL := 5) (ret := (Option.none : Option Jvm.ClassFile.FieldType)) (by decide +kernel) rfl ?_
  intro p e s m args below meth c s₁ B hml hv
  obtain ⟨rfl, hsz, hP, hK, hD0, hN⟩ := hv
  have hx := B.exec
  have hb := B.bytes
  have hr := B.returns
  have hlocks := B.notSynchronized
  have hts : ∀ w ∈ wd, w.before ([.ref f_o1, .long a2] : List Value).toArray s = true := fun w hw => atoms_spec (ws := (Cond.code y_JA_fill2 b_JA_fill2 5 (Option.none : Option Jvm.ClassFile.FieldType) :: wd)) B.pre w (List.mem_cons_of_mem _ hw)
  have hown : s.vm.findClass "java/util/Arrays" = some m.cls := findClass_of_methodNamed B.named
  subst hsz
  have hD := hD0.self (sz := s.heap.size)
  generalize hAe : va_A [(f_o1, .inl (k_o1, n_o1, .inr (.inl c_o1)))] s.heap.size = A at hD ⊢
  have hA : ∀ q : Nat, s.heap.size ≤ q → A q := fun q h => by rw [← hAe]; exact Or.inr h
  have hS : va_S A s.heap s.heap [] := va_S.rf
  have hl := lv_entry ([.ref f_o1, .long a2]) (n := 5) (Nat.le_of_ble_eq_true rfl)
  rw [lg_entry_eq]
  generalize (lg_sl ([.ref f_o1, .long a2]) ++ List.replicate (5 - (lg_sl ([.ref f_o1, .long a2])).length) Slot.unset).toArray = ls at hl ⊢
  have hl : lv_has ls 5 [(0, .ref f_o1), (1, .long a2)] := hl
  obtain ⟨k8, hs⟩ := sm_of hs
  refine sm_key (fun R Q k9 => (∀ (H : Heap) (locs : List Loc) (ls : Array Slot) (x3i : Int32) (x4i : Int32) (u_o1 : Nat → Int64), sm_it (fn_JA_fill_l n_o1 a2) k9 (6, x3i, x4i, u_o1) = some out → va_P (dC, dI) cls [(f_o1, .inl (k_o1, n_o1, .inr (.inl u_o1)))] H → va_D A [(f_o1, .inl (k_o1, n_o1, .inr (.inl u_o1)))] → va_S A s.heap H locs → lv_has ls 5 [(0, .ref f_o1), (1, .long a2), (3, .int x3i), (4, .int x4i)] → W p l e R s m ([.ref f_o1, .long a2] : List Value).toArray below meth c H locs 0 0 Q (F0 m 6 ls []))) ?_ ?_ ?_
  · exact fun _ _ _ _ _ _ hs => by cases hs
  · intro k9 ih
    skip
    intro H locs ls x3i x4i u_o1 hs hP hD hS hl
    rw [sm_it_succ, fn_JA_fill_l_q6] at hs
    unfold fn_JA_fill_l_b6 at hs
    refine lv_iload_n hx hb d_JA_fill2_6 rfl (lv_at hl 2 rfl) ?_
    refine lv_iload hx hb d_JA_fill2_7 (lv_at hl 3 rfl) ?_
    refine lv_icmp_ge (tgt := 22) hx hb d_JA_fill2_9 (by decide) (fun hc1 => ?_) (fun hc1 => ?_)
    · have hs := sm_pos hc1 hs
      have he := sm_end hs
      subst he
      exact W.vret hx hb hr (fun t ht hW => ⟨⟨(), rfl, trivial, by rw [ht]; exact hP, va_K.moved hW.alike hK, hD⟩, hS.F ht⟩) hS.2.2 d_JA_fill2_22
    · have hs := sm_neg hc1 hs
      refine lv_aload_n hx hb d_JA_fill2_12 rfl (lv_at hl 0 rfl) ?_
      refine lv_iload_n hx hb d_JA_fill2_13 rfl (lv_at hl 2 rfl) ?_
      refine lv_lload_n hx hb d_JA_fill2_14 rfl (lv_at hl 1 rfl) ?_
      obtain ⟨hg1, hs⟩ := sm_gd hs
      refine va_last hx hb hK hP hD hS 0 0 rfl rfl hg1 d_JA_fill2_15 (fun H1 locs hP hD hS => ?_)
      have hP : va_P (dC, dI) cls [(f_o1, .inl (k_o1, n_o1, .inr (.inl (vp_updL u_o1 (x3i : Int32).toNatClampNeg a2))))] H1 := hP
      have hD : va_D A [(f_o1, .inl (k_o1, n_o1, .inr (.inl (vp_updL u_o1 (x3i : Int32).toNatClampNeg a2))))] := hD
      refine lv_iinc (k := 2) (v := (x3i + 1)) hx hb d_JA_fill2_16 hl rfl (congrArg (fun z : Int32 => x3i + z) (by decide : Int32.ofInt 1 = 1)) (by decide) rfl (fun ls hl => ?_)
      have hl : lv_has ls 5 [(3, .int (x3i + 1)), (0, .ref f_o1), (1, .long a2), (4, .int x4i)] := hl
      refine lv_goto (tgt := 6) hx hb d_JA_fill2_19 (by decide) ?_
      exact ih _ _ _ _ _ _ hs hP hD hS (lv_sub hl [1, 2, 0, 3] rfl)
  · intro key
    cases k8 with
    | zero => cases hs
    | succ k9 =>
      rw [sm_it_succ, fn_JA_fill_l_q0] at hs
      unfold fn_JA_fill_l_b0 at hs
      refine lv_iconst (v := 0) hx hb d_JA_fill2_0 (by decide) ?_
      refine lv_istore_n hx hb d_JA_fill2_1 rfl hl (by decide) rfl (fun ls hl => ?_)
      have hl : lv_has ls 5 [(3, .int 0), (0, .ref f_o1), (1, .long a2)] := hl
      refine lv_aload_n hx hb d_JA_fill2_2 rfl (lv_at hl 1 rfl) ?_
      refine va_alen (v := (Int32.ofNat n_o1)) hx hb hK hP 0 0 rfl rfl rfl d_JA_fill2_3 ?_
      refine lv_istore hx hb d_JA_fill2_4 hl (by decide) rfl (fun ls hl => ?_)
      have hl : lv_has ls 5 [(4, .int (Int32.ofNat n_o1)), (3, .int 0), (0, .ref f_o1), (1, .long a2)] := hl
      exact (key k9) _ _ _ _ _ _ hs hP hD hS (lv_sub hl [2, 3, 1, 0] rfl)
