noncomputable def fn_WO_isDigit_b0 (a1 : Int32) (_z0 : Int32) : Option ((Nat × Int32) ⊕ (Int32)) := if (a1 : Int32) < 48 then (some (.inl (16, 0))) else (if (57 : Int32) < a1 then (some (.inl (16, 0))) else (some (.inl (17, 1))))
noncomputable def fn_WO_isDigit_b16 (a1 : Int32) (s0i : Int32) : Option ((Nat × Int32) ⊕ (Int32)) := some (.inl (17, 0))
noncomputable def fn_WO_isDigit_b17 (a1 : Int32) (s0i : Int32) : Option ((Nat × Int32) ⊕ (Int32)) := if ((s0i : Int32) = 0 ∨ (s0i : Int32) = 1) then some (.inr s0i) else none
noncomputable def fn_WO_isDigit (a1 : Int32) : Nat × Int32 → Option ((Nat × Int32) ⊕ (Int32)) := fun st => match st with
  | (pc, s0i) => if pc = 0 then fn_WO_isDigit_b0 a1 s0i else if pc = 16 then fn_WO_isDigit_b16 a1 s0i else if pc = 17 then fn_WO_isDigit_b17 a1 s0i else none
theorem fn_WO_isDigit_q0 (a1 : Int32) (s0i : Int32) : fn_WO_isDigit a1 (0, s0i) = fn_WO_isDigit_b0 a1 s0i := by simp [fn_WO_isDigit]
theorem fn_WO_isDigit_q16 (a1 : Int32) (s0i : Int32) : fn_WO_isDigit a1 (16, s0i) = fn_WO_isDigit_b16 a1 s0i := by simp [fn_WO_isDigit]
theorem fn_WO_isDigit_q17 (a1 : Int32) (s0i : Int32) : fn_WO_isDigit a1 (17, s0i) = fn_WO_isDigit_b17 a1 s0i := by simp [fn_WO_isDigit]
set_option maxHeartbeats 4000000 in
set_option maxRecDepth 100000 in
theorem c_WO_isDigit (l : Launch) (dC : Nat → ClassId) (dI : Nat → Nat → Nat) (a1 : Int32) (sz : Nat) (out : Int32) (hs : sm_tot (fn_WO_isDigit a1) (0, 0) = some out) : Met l y_WO_isDigit (Cond.code y_WO_isDigit b_WO_isDigit 1 (Option.some Jvm.ClassFile.FieldType.boolean) :: wd) { frames := 0, cells := 0, slots := 0, locals := 0 } (va_Pc [.int a1] (fun U => U.heap.size = sz ∧ va_P (dC, dI) cls [] U.heap ∧ va_K (dC, dI) cls [] U ∧ va_D (fun _ => True) [] ∧ nw_ok U)) (va_Qi (fun r (_ : Unit) => r = out) (fun (_ : Unit) t => va_P (dC, dI) cls [] t.heap ∧ va_K (dC, dI) cls [] t ∧ va_D (va_A [] sz) []) (va_A [] sz)) 0 0 (va_A [] sz) := by
  refine Met.ofW (cc := b_WO_isDigit) (maxL := 1) (ret := (Option.some Jvm.ClassFile.FieldType.boolean)) (by decide) rfl ?_
  intro p e s m args below meth c s₁ B hml hv
  obtain ⟨rfl, hsz, hP, hK, hD0, hN⟩ := hv
  have hx := B.exec
  have hb := B.bytes
  have hr := B.returns
  have hlocks := B.notSynchronized
  have hts : ∀ w ∈ wd, w.before ([.int a1] : List Value).toArray s = true := fun w hw => atoms_spec (ws := (Cond.code y_WO_isDigit b_WO_isDigit 1 (Option.some Jvm.ClassFile.FieldType.boolean) :: wd)) B.pre w (List.mem_cons_of_mem _ hw)
  have hown : s.vm.findClass "LeastSolutions$Words" = some m.cls := findClass_of_methodNamed B.named
  subst hsz
  have hD := hD0.self (sz := s.heap.size)
  generalize hAe : va_A [] s.heap.size = A at hD ⊢
  have hA : ∀ q : Nat, s.heap.size ≤ q → A q := fun q h => by rw [← hAe]; exact Or.inr h
  have hS : va_S A s.heap s.heap [] := va_S.rf
  have hl := lv_entry ([.int a1]) (n := 1) (Nat.le_of_ble_eq_true rfl)
  rw [lg_entry_eq]
  generalize (lg_sl ([.int a1]) ++ List.replicate (1 - (lg_sl ([.int a1])).length) Slot.unset).toArray = ls at hl ⊢
  have hl : lv_has ls 1 [(0, .int a1)] := hl
  obtain ⟨k8, hs⟩ := sm_of hs
  refine sm_key (fun R Q k9 => (∀ (H : Heap) (locs : List Loc) (ls : Array Slot) (s0i : Int32), sm_it (fn_WO_isDigit a1) k9 (16, s0i) = some out → va_P (dC, dI) cls [] H → va_D A [] → va_S A s.heap H locs → lv_has ls 1 [] → W p l e R s m ([.int a1] : List Value).toArray below meth c H locs 0 0 Q (F0 m 16 ls [])) ∧ (∀ (H : Heap) (locs : List Loc) (ls : Array Slot) (s0i : Int32), sm_it (fn_WO_isDigit a1) k9 (17, s0i) = some out → va_P (dC, dI) cls [] H → va_D A [] → va_S A s.heap H locs → lv_has ls 1 [] → W p l e R s m ([.int a1] : List Value).toArray below meth c H locs 0 0 Q (F0 m 17 ls [.int s0i]))) ?_ ?_ ?_
  · exact ⟨(fun _ _ _ _ hs => by cases hs), (fun _ _ _ _ hs => by cases hs)⟩
  · intro k9 ih
    refine ⟨?_, ?_⟩
    · intro H locs ls s0i hs hP hD hS hl
      rw [sm_it_succ, fn_WO_isDigit_q16] at hs
      unfold fn_WO_isDigit_b16 at hs
      refine lv_iconst (v := 0) hx hb d_WO_isDigit_16 (by decide) ?_
      exact ih.2 _ _ _ _ hs hP hD hS (lv_sub hl [] rfl)
    · intro H locs ls s0i hs hP hD hS hl
      rw [sm_it_succ, fn_WO_isDigit_q17] at hs
      unfold fn_WO_isDigit_b17 at hs
      obtain ⟨hg1, hs⟩ := sm_gd hs
      have he := sm_end hs
      subst he
      exact W.zret (v := s0i) (ty := .boolean) hx hb hr (by rcases hg1 with h9 | h9 <;> rw [h9] <;> rfl) (fun t ht hW => ⟨⟨s0i, (), rfl, rfl, by rw [ht]; exact hP, va_K.moved hW.alike hK, hD⟩, hS.F ht⟩) hS.2.2 d_WO_isDigit_17
  · intro key
    cases k8 with
    | zero => cases hs
    | succ k9 =>
      rw [sm_it_succ, fn_WO_isDigit_q0] at hs
      unfold fn_WO_isDigit_b0 at hs
      refine lv_iload_n hx hb d_WO_isDigit_0 rfl (lv_at hl 0 rfl) ?_
      refine lv_bipush (v := 48) hx hb d_WO_isDigit_1 (by decide) ?_
      refine lv_icmp_lt (tgt := 16) hx hb d_WO_isDigit_3 (by decide) (fun hc1 => ?_) (fun hc1 => ?_)
      · have hs := sm_pos hc1 hs
        exact (key k9).1 _ _ _ _ hs hP hD hS (lv_sub hl [] rfl)
      · have hs := sm_neg hc1 hs
        refine lv_iload_n hx hb d_WO_isDigit_6 rfl (lv_at hl 0 rfl) ?_
        refine lv_bipush (v := 57) hx hb d_WO_isDigit_7 (by decide) ?_
        refine lv_icmp_gt (tgt := 16) hx hb d_WO_isDigit_9 (by decide) (fun hc2 => ?_) (fun hc2 => ?_)
        · have hs := sm_pos hc2 hs
          exact (key k9).1 _ _ _ _ hs hP hD hS (lv_sub hl [] rfl)
        · have hs := sm_neg hc2 hs
          refine lv_iconst (v := 1) hx hb d_WO_isDigit_12 (by decide) ?_
          refine lv_goto (tgt := 17) hx hb d_WO_isDigit_13 (by decide) ?_
          exact (key k9).2 _ _ _ _ hs hP hD hS (lv_sub hl [] rfl)

noncomputable def fn_WO_valueOf_b0 (a2 : Int32) (a3 : Int32) (v_tx_length : Int32) (c_tx_characters : Nat → Int32) (_z0 : Int32) (_z1 : Int32) : Option ((Nat × Int32 × Int32) ⊕ (Int32)) := some (.inl (5, 0, a2))
noncomputable def fn_WO_valueOf_b5 (a2 : Int32) (a3 : Int32) (v_tx_length : Int32) (c_tx_characters : Nat → Int32) (x3i : Int32) (x4i : Int32) : Option ((Nat × Int32 × Int32) ⊕ (Int32)) := if ((a2 + a3) : Int32) ≤ x4i then (some (.inr x3i)) else ((sm_tot (fn_TX_characterAt x4i v_tx_length c_tx_characters) (0, 0)).bind (fun r1 => some (.inl (5, (((10 * x3i) + r1) - 48), (x4i + 1)))))
noncomputable def fn_WO_valueOf (a2 : Int32) (a3 : Int32) (v_tx_length : Int32) (c_tx_characters : Nat → Int32) : Nat × Int32 × Int32 → Option ((Nat × Int32 × Int32) ⊕ (Int32)) := fun st => match st with
  | (pc, x3i, x4i) => if pc = 0 then fn_WO_valueOf_b0 a2 a3 v_tx_length c_tx_characters x3i x4i else if pc = 5 then fn_WO_valueOf_b5 a2 a3 v_tx_length c_tx_characters x3i x4i else none
theorem fn_WO_valueOf_q0 (a2 : Int32) (a3 : Int32) (v_tx_length : Int32) (c_tx_characters : Nat → Int32) (x3i : Int32) (x4i : Int32) : fn_WO_valueOf a2 a3 v_tx_length c_tx_characters (0, x3i, x4i) = fn_WO_valueOf_b0 a2 a3 v_tx_length c_tx_characters x3i x4i := by simp [fn_WO_valueOf]
theorem fn_WO_valueOf_q5 (a2 : Int32) (a3 : Int32) (v_tx_length : Int32) (c_tx_characters : Nat → Int32) (x3i : Int32) (x4i : Int32) : fn_WO_valueOf a2 a3 v_tx_length c_tx_characters (5, x3i, x4i) = fn_WO_valueOf_b5 a2 a3 v_tx_length c_tx_characters x3i x4i := by simp [fn_WO_valueOf]
set_option maxHeartbeats 4000000 in
set_option maxRecDepth 100000 in
theorem c_WO_valueOf (l : Launch) (dC : Nat → ClassId) (dI : Nat → Nat → Nat) (a_tx : Nat) (f_tx_characters : Nat) (v_tx_length : Int32) (k_tx_characters : ClassId) (c_tx_characters : Nat → Int32) (a2 : Int32) (a3 : Int32) (sz : Nat) (out : Int32) (hs : sm_tot (fn_WO_valueOf a2 a3 v_tx_length c_tx_characters) (0, 0, 0) = some out) : Met l y_WO_valueOf (Cond.code y_WO_valueOf b_WO_valueOf 5 (Option.some Jvm.ClassFile.FieldType.int) :: wd) { frames := 1, cells := 0, slots := 0, locals := 21 } (va_Pc [.ref a_tx, .int a2, .int a3] (fun U => U.heap.size = sz ∧ va_P (dC, dI) cls [(a_tx, .inr (1, [.ref f_tx_characters, .int v_tx_length])), (f_tx_characters, .inl (k_tx_characters, 300, .inl c_tx_characters))] U.heap ∧ va_K (dC, dI) cls [(k_tx_characters, .byte)] U ∧ va_D (fun _ => True) [(a_tx, .inr (1, [.ref f_tx_characters, .int v_tx_length])), (f_tx_characters, .inl (k_tx_characters, 300, .inl c_tx_characters))] ∧ nw_ok U)) (va_Qi (fun r (_ : Unit) => r = out) (fun (_ : Unit) t => va_P (dC, dI) cls [(a_tx, .inr (1, [.ref f_tx_characters, .int v_tx_length])), (f_tx_characters, .inl (k_tx_characters, 300, .inl c_tx_characters))] t.heap ∧ va_K (dC, dI) cls [(k_tx_characters, .byte)] t ∧ va_D (va_A [(a_tx, .inr (1, [.ref f_tx_characters, .int v_tx_length])), (f_tx_characters, .inl (k_tx_characters, 300, .inl c_tx_characters))] sz) [(a_tx, .inr (1, [.ref f_tx_characters, .int v_tx_length])), (f_tx_characters, .inl (k_tx_characters, 300, .inl c_tx_characters))]) (va_A [(a_tx, .inr (1, [.ref f_tx_characters, .int v_tx_length])), (f_tx_characters, .inl (k_tx_characters, 300, .inl c_tx_characters))] sz)) 0 0 (va_A [(a_tx, .inr (1, [.ref f_tx_characters, .int v_tx_length])), (f_tx_characters, .inl (k_tx_characters, 300, .inl c_tx_characters))] sz) := by
  refine Met.ofW (cc := b_WO_valueOf) (maxL := 5) (ret := (Option.some Jvm.ClassFile.FieldType.int)) (by decide) rfl ?_
  intro p e s m args below meth c s₁ B hml hv
  obtain ⟨rfl, hsz, hP, hK, hD0, hN⟩ := hv
  have hx := B.exec
  have hb := B.bytes
  have hr := B.returns
  have hlocks := B.notSynchronized
  have hts : ∀ w ∈ wd, w.before ([.ref a_tx, .int a2, .int a3] : List Value).toArray s = true := fun w hw => atoms_spec (ws := (Cond.code y_WO_valueOf b_WO_valueOf 5 (Option.some Jvm.ClassFile.FieldType.int) :: wd)) B.pre w (List.mem_cons_of_mem _ hw)
  have hown : s.vm.findClass "LeastSolutions$Words" = some m.cls := findClass_of_methodNamed B.named
  subst hsz
  have hD := hD0.self (sz := s.heap.size)
  generalize hAe : va_A [(a_tx, .inr (1, [.ref f_tx_characters, .int v_tx_length])), (f_tx_characters, .inl (k_tx_characters, 300, .inl c_tx_characters))] s.heap.size = A at hD ⊢
  have hA : ∀ q : Nat, s.heap.size ≤ q → A q := fun q h => by rw [← hAe]; exact Or.inr h
  have hS : va_S A s.heap s.heap [] := va_S.rf
  have hl := lv_entry ([.ref a_tx, .int a2, .int a3]) (n := 5) (Nat.le_of_ble_eq_true rfl)
  rw [lg_entry_eq]
  generalize (lg_sl ([.ref a_tx, .int a2, .int a3]) ++ List.replicate (5 - (lg_sl ([.ref a_tx, .int a2, .int a3])).length) Slot.unset).toArray = ls at hl ⊢
  have hl : lv_has ls 5 [(0, .ref a_tx), (1, .int a2), (2, .int a3)] := hl
  obtain ⟨k8, hs⟩ := sm_of hs
  refine sm_key (fun R Q k9 => (∀ (H : Heap) (locs : List Loc) (ls : Array Slot) (x3i : Int32) (x4i : Int32), sm_it (fn_WO_valueOf a2 a3 v_tx_length c_tx_characters) k9 (5, x3i, x4i) = some out → va_P (dC, dI) cls [(a_tx, .inr (1, [.ref f_tx_characters, .int v_tx_length])), (f_tx_characters, .inl (k_tx_characters, 300, .inl c_tx_characters))] H → va_D A [(a_tx, .inr (1, [.ref f_tx_characters, .int v_tx_length])), (f_tx_characters, .inl (k_tx_characters, 300, .inl c_tx_characters))] → va_S A s.heap H locs → lv_has ls 5 [(0, .ref a_tx), (1, .int a2), (2, .int a3), (3, .int x3i), (4, .int x4i)] → W p l e R s m ([.ref a_tx, .int a2, .int a3] : List Value).toArray below meth c H locs 0 0 Q (F0 m 5 ls []))) ?_ ?_ ?_
  · exact fun _ _ _ _ _ hs => by cases hs
  · intro k9 ih
    skip
    intro H locs ls x3i x4i hs hP hD hS hl
    rw [sm_it_succ, fn_WO_valueOf_q5] at hs
    unfold fn_WO_valueOf_b5 at hs
    refine lv_iload hx hb d_WO_valueOf_5 (lv_at hl 4 rfl) ?_
    refine lv_iload_n hx hb d_WO_valueOf_7 rfl (lv_at hl 1 rfl) ?_
    refine lv_iload_n hx hb d_WO_valueOf_8 rfl (lv_at hl 2 rfl) ?_
    refine lv_iadd hx hb d_WO_valueOf_9 ?_
    refine lv_icmp_ge (tgt := 34) hx hb d_WO_valueOf_10 (by decide) (fun hc1 => ?_) (fun hc1 => ?_)
    · have hs := sm_pos hc1 hs
      refine lv_iload_n hx hb d_WO_valueOf_34 rfl (lv_at hl 3 rfl) ?_
      have he := sm_end hs
      subst he
      exact W.iret (v := x3i) hx hb hr (fun t ht hW => ⟨⟨x3i, (), rfl, rfl, by rw [ht]; exact hP, va_K.moved hW.alike hK, hD⟩, hS.F ht⟩) hS.2.2 d_WO_valueOf_35
    · have hs := sm_neg hc1 hs
      refine lv_bipush (v := 10) hx hb d_WO_valueOf_13 (by decide) ?_
      refine lv_iload_n hx hb d_WO_valueOf_15 rfl (lv_at hl 3 rfl) ?_
      refine lv_imul hx hb d_WO_valueOf_16 ?_
      refine lv_aload_n hx hb d_WO_valueOf_17 rfl (lv_at hl 0 rfl) ?_
      refine lv_iload hx hb d_WO_valueOf_18 (lv_at hl 4 rfl) ?_
      obtain ⟨r1, hq1, hs⟩ := sm_bd hs
      have hPc := hP.sub (ws' := [(a_tx, .inr (1, [.ref f_tx_characters, .int v_tx_length])), (f_tx_characters, .inl (k_tx_characters, 300, .inl c_tx_characters))]) [0, 1] rfl
      have hDc := hD.sub (ws' := [(a_tx, .inr (1, [.ref f_tx_characters, .int v_tx_length])), (f_tx_characters, .inl (k_tx_characters, 300, .inl c_tx_characters))]) [0, 1] (by decide) rfl
      have hKc := hK.sub (tys' := [(k_tx_characters, .byte)]) [0] rfl
      have hFc := va_free (wc := [(a_tx, .inr (1, [.ref f_tx_characters, .int v_tx_length])), (f_tx_characters, .inl (k_tx_characters, 300, .inl c_tx_characters))]) hD hS hA [0, 1] rfl
      refine va_calli (va_runV (As := [.int x4i]) (rest := [.int (10 * x3i)]) ⟨hx, hb, hml, hown, hts⟩ (c_TX_characterAt l dC dI (a_tx) (f_tx_characters) (v_tx_length) (k_tx_characters) (c_tx_characters) (x4i) H.size r1 hq1) (wd_V (C := "LeastSolutions$Text") 1 hts k_367 k_2 k_364 k_365 k_366 rfl rfl (by decide +kernel) ⟨Nat.le_of_ble_eq_true rfl, Nat.le_of_ble_eq_true rfl⟩) ⟨fun a U g mk q => by obtain ⟨q0, q1, qP, qK, qD, qN⟩ := q; exact ⟨q0, q1, qP, va_K.moved (u := U) (U := U.calling g mk a) (Vm.Alike.refl U.vm) qK, qD, nw_ok.same (s := U) (U := U.calling g mk a) rfl qN⟩, va_recv (ci := 1) (q0 := 0) hK hP rfl rfl, fun U hU hW => ⟨rfl, by rw [hU], by rw [hU]; exact hPc, va_K.moved hW.alike hKc, hDc.weaken (fun _ _ _ _ => trivial), nw_ok.warm hW hN⟩⟩ rfl rfl hl.1 rfl (lv_room (Nat.le_of_ble_eq_true rfl)) d_WO_valueOf_20 ⟨Nat.le_of_ble_eq_true rfl, Nat.le_of_ble_eq_true rfl⟩) hS (fun q _ h => hFc q h) hFc (fun q1 u t H1 locs ht hvm hr1 hB hz1 hk1 hS => ?_)
      have hr1 := (show q1 = r1 from hr1).symm
      subst hr1
      obtain ⟨hP1, hK1, hD1⟩ := hB
      rw [ht] at hP1
      have hK1 := va_K.moved hvm.symm hK1
      obtain ⟨hP, hD⟩ := va_join (wr := []) (w1 := [(a_tx, .inr (1, [.ref f_tx_characters, .int v_tx_length])), (f_tx_characters, .inl (k_tx_characters, 300, .inl c_tx_characters))]) hP hD [0, 1] [] rfl rfl (by decide) (by decide) hk1 hFc hP1 hD1
      have hK := (hK.sub (tys' := []) [] rfl).app hK1
      have hK : va_K (dC, dI) cls [(k_tx_characters, .byte)] s := hK
      have hP : va_P (dC, dI) cls [(a_tx, .inr (1, [.ref f_tx_characters, .int v_tx_length])), (f_tx_characters, .inl (k_tx_characters, 300, .inl c_tx_characters))] H1 := hP
      have hD : va_D A [(a_tx, .inr (1, [.ref f_tx_characters, .int v_tx_length])), (f_tx_characters, .inl (k_tx_characters, 300, .inl c_tx_characters))] := hD
      refine lv_iadd hx hb d_WO_valueOf_23 ?_
      refine lv_bipush (v := 48) hx hb d_WO_valueOf_24 (by decide) ?_
      refine lv_isub hx hb d_WO_valueOf_26 ?_
      refine lv_istore_n hx hb d_WO_valueOf_27 rfl hl (by decide) rfl (fun ls hl => ?_)
      have hl : lv_has ls 5 [(3, .int (((10 * x3i) + r1) - 48)), (0, .ref a_tx), (1, .int a2), (2, .int a3), (4, .int x4i)] := hl
      refine lv_iinc (k := 4) (v := (x4i + 1)) hx hb d_WO_valueOf_28 hl rfl (congrArg (fun z : Int32 => x4i + z) (by decide : Int32.ofInt 1 = 1)) (by decide) rfl (fun ls hl => ?_)
      have hl : lv_has ls 5 [(4, .int (x4i + 1)), (3, .int (((10 * x3i) + r1) - 48)), (0, .ref a_tx), (1, .int a2), (2, .int a3)] := hl
      refine lv_goto (tgt := 5) hx hb d_WO_valueOf_31 (by decide) ?_
      exact ih _ _ _ _ _ hs hP hD hS (lv_sub hl [2, 3, 4, 1, 0] rfl)
  · intro key
    cases k8 with
    | zero => cases hs
    | succ k9 =>
      rw [sm_it_succ, fn_WO_valueOf_q0] at hs
      unfold fn_WO_valueOf_b0 at hs
      refine lv_iconst (v := 0) hx hb d_WO_valueOf_0 (by decide) ?_
      refine lv_istore_n hx hb d_WO_valueOf_1 rfl hl (by decide) rfl (fun ls hl => ?_)
      have hl : lv_has ls 5 [(3, .int 0), (0, .ref a_tx), (1, .int a2), (2, .int a3)] := hl
      refine lv_iload_n hx hb d_WO_valueOf_2 rfl (lv_at hl 2 rfl) ?_
      refine lv_istore hx hb d_WO_valueOf_3 hl (by decide) rfl (fun ls hl => ?_)
      have hl : lv_has ls 5 [(4, .int a2), (3, .int 0), (0, .ref a_tx), (1, .int a2), (2, .int a3)] := hl
      exact (key k9) _ _ _ _ _ hs hP hD hS (lv_sub hl [2, 3, 4, 1, 0] rfl)

noncomputable def fn_WO_widthAt_b0 (a2 : Int32) (v_tx_length : Int32) (c_tx_characters : Nat → Int32) (_z0 : Int32) (_z1 : Int32) : Option ((Nat × Int32 × Int32) ⊕ (Int32)) := (sm_tot (fn_TX_characterAt a2 v_tx_length c_tx_characters) (0, 0)).bind (fun r4 => if (r4 : Int32) = 60 then (some (.inl (18, 0, 0))) else (if (r4 : Int32) = 62 then (some (.inl (18, 0, 0))) else ((sm_tot (fn_WO_isDigit r4) (0, 0)).bind (fun r5 => if (r5 : Int32) = 0 then (some (.inr 1)) else (some (.inl (49, (a2 + 1), 0)))))))
noncomputable def fn_WO_widthAt_b18 (a2 : Int32) (v_tx_length : Int32) (c_tx_characters : Nat → Int32) (x3i : Int32) (s0i : Int32) : Option ((Nat × Int32 × Int32) ⊕ (Int32)) := (sm_tot (fn_TX_characterAt (a2 + 1) v_tx_length c_tx_characters) (0, 0)).bind (fun r1 => if (r1 : Int32) = 61 then (some (.inl (35, 0, 2))) else (some (.inl (35, 0, 1))))
noncomputable def fn_WO_widthAt_b35 (a2 : Int32) (v_tx_length : Int32) (c_tx_characters : Nat → Int32) (x3i : Int32) (s0i : Int32) : Option ((Nat × Int32 × Int32) ⊕ (Int32)) := some (.inr s0i)
noncomputable def fn_WO_widthAt_b49 (a2 : Int32) (v_tx_length : Int32) (c_tx_characters : Nat → Int32) (x3i : Int32) (s0i : Int32) : Option ((Nat × Int32 × Int32) ⊕ (Int32)) := if (v_tx_length : Int32) ≤ x3i then (some (.inl (74, x3i, 0))) else ((sm_tot (fn_TX_characterAt x3i v_tx_length c_tx_characters) (0, 0)).bind (fun r2 => (sm_tot (fn_WO_isDigit r2) (0, 0)).bind (fun r3 => if (r3 : Int32) = 0 then (some (.inl (74, x3i, 0))) else (some (.inl (49, (x3i + 1), 0))))))
noncomputable def fn_WO_widthAt_b74 (a2 : Int32) (v_tx_length : Int32) (c_tx_characters : Nat → Int32) (x3i : Int32) (s0i : Int32) : Option ((Nat × Int32 × Int32) ⊕ (Int32)) := some (.inr (x3i - a2))
noncomputable def fn_WO_widthAt (a2 : Int32) (v_tx_length : Int32) (c_tx_characters : Nat → Int32) : Nat × Int32 × Int32 → Option ((Nat × Int32 × Int32) ⊕ (Int32)) := fun st => match st with
  | (pc, x3i, s0i) => if pc = 0 then fn_WO_widthAt_b0 a2 v_tx_length c_tx_characters x3i s0i else if pc = 18 then fn_WO_widthAt_b18 a2 v_tx_length c_tx_characters x3i s0i else if pc = 35 then fn_WO_widthAt_b35 a2 v_tx_length c_tx_characters x3i s0i else if pc = 49 then fn_WO_widthAt_b49 a2 v_tx_length c_tx_characters x3i s0i else if pc = 74 then fn_WO_widthAt_b74 a2 v_tx_length c_tx_characters x3i s0i else none
theorem fn_WO_widthAt_q0 (a2 : Int32) (v_tx_length : Int32) (c_tx_characters : Nat → Int32) (x3i : Int32) (s0i : Int32) : fn_WO_widthAt a2 v_tx_length c_tx_characters (0, x3i, s0i) = fn_WO_widthAt_b0 a2 v_tx_length c_tx_characters x3i s0i := by simp [fn_WO_widthAt]
theorem fn_WO_widthAt_q18 (a2 : Int32) (v_tx_length : Int32) (c_tx_characters : Nat → Int32) (x3i : Int32) (s0i : Int32) : fn_WO_widthAt a2 v_tx_length c_tx_characters (18, x3i, s0i) = fn_WO_widthAt_b18 a2 v_tx_length c_tx_characters x3i s0i := by simp [fn_WO_widthAt]
theorem fn_WO_widthAt_q35 (a2 : Int32) (v_tx_length : Int32) (c_tx_characters : Nat → Int32) (x3i : Int32) (s0i : Int32) : fn_WO_widthAt a2 v_tx_length c_tx_characters (35, x3i, s0i) = fn_WO_widthAt_b35 a2 v_tx_length c_tx_characters x3i s0i := by simp [fn_WO_widthAt]
theorem fn_WO_widthAt_q49 (a2 : Int32) (v_tx_length : Int32) (c_tx_characters : Nat → Int32) (x3i : Int32) (s0i : Int32) : fn_WO_widthAt a2 v_tx_length c_tx_characters (49, x3i, s0i) = fn_WO_widthAt_b49 a2 v_tx_length c_tx_characters x3i s0i := by simp [fn_WO_widthAt]
theorem fn_WO_widthAt_q74 (a2 : Int32) (v_tx_length : Int32) (c_tx_characters : Nat → Int32) (x3i : Int32) (s0i : Int32) : fn_WO_widthAt a2 v_tx_length c_tx_characters (74, x3i, s0i) = fn_WO_widthAt_b74 a2 v_tx_length c_tx_characters x3i s0i := by simp [fn_WO_widthAt]
set_option maxHeartbeats 4000000 in
set_option maxRecDepth 100000 in
theorem c_WO_widthAt (l : Launch) (dC : Nat → ClassId) (dI : Nat → Nat → Nat) (a_tx : Nat) (f_tx_characters : Nat) (v_tx_length : Int32) (k_tx_characters : ClassId) (c_tx_characters : Nat → Int32) (a2 : Int32) (sz : Nat) (out : Int32) (hs : sm_tot (fn_WO_widthAt a2 v_tx_length c_tx_characters) (0, 0, 0) = some out) : Met l y_WO_widthAt (Cond.code y_WO_widthAt b_WO_widthAt 4 (Option.some Jvm.ClassFile.FieldType.int) :: wd) { frames := 1, cells := 0, slots := 0, locals := 21 } (va_Pc [.ref a_tx, .int a2] (fun U => U.heap.size = sz ∧ va_P (dC, dI) cls [(a_tx, .inr (1, [.ref f_tx_characters, .int v_tx_length])), (f_tx_characters, .inl (k_tx_characters, 300, .inl c_tx_characters))] U.heap ∧ va_K (dC, dI) cls [(k_tx_characters, .byte)] U ∧ va_D (fun _ => True) [(a_tx, .inr (1, [.ref f_tx_characters, .int v_tx_length])), (f_tx_characters, .inl (k_tx_characters, 300, .inl c_tx_characters))] ∧ nw_ok U)) (va_Qi (fun r (_ : Unit) => r = out) (fun (_ : Unit) t => va_P (dC, dI) cls [(a_tx, .inr (1, [.ref f_tx_characters, .int v_tx_length])), (f_tx_characters, .inl (k_tx_characters, 300, .inl c_tx_characters))] t.heap ∧ va_K (dC, dI) cls [(k_tx_characters, .byte)] t ∧ va_D (va_A [(a_tx, .inr (1, [.ref f_tx_characters, .int v_tx_length])), (f_tx_characters, .inl (k_tx_characters, 300, .inl c_tx_characters))] sz) [(a_tx, .inr (1, [.ref f_tx_characters, .int v_tx_length])), (f_tx_characters, .inl (k_tx_characters, 300, .inl c_tx_characters))]) (va_A [(a_tx, .inr (1, [.ref f_tx_characters, .int v_tx_length])), (f_tx_characters, .inl (k_tx_characters, 300, .inl c_tx_characters))] sz)) 0 0 (va_A [(a_tx, .inr (1, [.ref f_tx_characters, .int v_tx_length])), (f_tx_characters, .inl (k_tx_characters, 300, .inl c_tx_characters))] sz) := by
  refine Met.ofW (cc := b_WO_widthAt) (maxL := 4) (ret := (Option.some Jvm.ClassFile.FieldType.int)) (by decide) rfl ?_
  intro p e s m args below meth c s₁ B hml hv
  obtain ⟨rfl, hsz, hP, hK, hD0, hN⟩ := hv
  have hx := B.exec
  have hb := B.bytes
  have hr := B.returns
  have hlocks := B.notSynchronized
  have hts : ∀ w ∈ wd, w.before ([.ref a_tx, .int a2] : List Value).toArray s = true := fun w hw => atoms_spec (ws := (Cond.code y_WO_widthAt b_WO_widthAt 4 (Option.some Jvm.ClassFile.FieldType.int) :: wd)) B.pre w (List.mem_cons_of_mem _ hw)
  have hown : s.vm.findClass "LeastSolutions$Words" = some m.cls := findClass_of_methodNamed B.named
  subst hsz
  have hD := hD0.self (sz := s.heap.size)
  generalize hAe : va_A [(a_tx, .inr (1, [.ref f_tx_characters, .int v_tx_length])), (f_tx_characters, .inl (k_tx_characters, 300, .inl c_tx_characters))] s.heap.size = A at hD ⊢
  have hA : ∀ q : Nat, s.heap.size ≤ q → A q := fun q h => by rw [← hAe]; exact Or.inr h
  have hS : va_S A s.heap s.heap [] := va_S.rf
  have hl := lv_entry ([.ref a_tx, .int a2]) (n := 4) (Nat.le_of_ble_eq_true rfl)
  rw [lg_entry_eq]
  generalize (lg_sl ([.ref a_tx, .int a2]) ++ List.replicate (4 - (lg_sl ([.ref a_tx, .int a2])).length) Slot.unset).toArray = ls at hl ⊢
  have hl : lv_has ls 4 [(0, .ref a_tx), (1, .int a2)] := hl
  obtain ⟨k8, hs⟩ := sm_of hs
  refine sm_key (fun R Q k9 => (∀ (H : Heap) (locs : List Loc) (ls : Array Slot) (x3i : Int32) (s0i : Int32), sm_it (fn_WO_widthAt a2 v_tx_length c_tx_characters) k9 (18, x3i, s0i) = some out → va_P (dC, dI) cls [(a_tx, .inr (1, [.ref f_tx_characters, .int v_tx_length])), (f_tx_characters, .inl (k_tx_characters, 300, .inl c_tx_characters))] H → va_D A [(a_tx, .inr (1, [.ref f_tx_characters, .int v_tx_length])), (f_tx_characters, .inl (k_tx_characters, 300, .inl c_tx_characters))] → va_S A s.heap H locs → lv_has ls 4 [(0, .ref a_tx), (1, .int a2)] → W p l e R s m ([.ref a_tx, .int a2] : List Value).toArray below meth c H locs 0 0 Q (F0 m 18 ls [])) ∧ (∀ (H : Heap) (locs : List Loc) (ls : Array Slot) (x3i : Int32) (s0i : Int32), sm_it (fn_WO_widthAt a2 v_tx_length c_tx_characters) k9 (35, x3i, s0i) = some out → va_P (dC, dI) cls [(a_tx, .inr (1, [.ref f_tx_characters, .int v_tx_length])), (f_tx_characters, .inl (k_tx_characters, 300, .inl c_tx_characters))] H → va_D A [(a_tx, .inr (1, [.ref f_tx_characters, .int v_tx_length])), (f_tx_characters, .inl (k_tx_characters, 300, .inl c_tx_characters))] → va_S A s.heap H locs → lv_has ls 4 [] → W p l e R s m ([.ref a_tx, .int a2] : List Value).toArray below meth c H locs 0 0 Q (F0 m 35 ls [.int s0i])) ∧ (∀ (H : Heap) (locs : List Loc) (ls : Array Slot) (x3i : Int32) (s0i : Int32), sm_it (fn_WO_widthAt a2 v_tx_length c_tx_characters) k9 (49, x3i, s0i) = some out → va_P (dC, dI) cls [(a_tx, .inr (1, [.ref f_tx_characters, .int v_tx_length])), (f_tx_characters, .inl (k_tx_characters, 300, .inl c_tx_characters))] H → va_D A [(a_tx, .inr (1, [.ref f_tx_characters, .int v_tx_length])), (f_tx_characters, .inl (k_tx_characters, 300, .inl c_tx_characters))] → va_S A s.heap H locs → lv_has ls 4 [(0, .ref a_tx), (1, .int a2), (3, .int x3i)] → W p l e R s m ([.ref a_tx, .int a2] : List Value).toArray below meth c H locs 0 0 Q (F0 m 49 ls [])) ∧ (∀ (H : Heap) (locs : List Loc) (ls : Array Slot) (x3i : Int32) (s0i : Int32), sm_it (fn_WO_widthAt a2 v_tx_length c_tx_characters) k9 (74, x3i, s0i) = some out → va_P (dC, dI) cls [(a_tx, .inr (1, [.ref f_tx_characters, .int v_tx_length])), (f_tx_characters, .inl (k_tx_characters, 300, .inl c_tx_characters))] H → va_D A [(a_tx, .inr (1, [.ref f_tx_characters, .int v_tx_length])), (f_tx_characters, .inl (k_tx_characters, 300, .inl c_tx_characters))] → va_S A s.heap H locs → lv_has ls 4 [(1, .int a2), (3, .int x3i)] → W p l e R s m ([.ref a_tx, .int a2] : List Value).toArray below meth c H locs 0 0 Q (F0 m 74 ls []))) ?_ ?_ ?_
  · exact ⟨(fun _ _ _ _ _ hs => by cases hs), (fun _ _ _ _ _ hs => by cases hs), (fun _ _ _ _ _ hs => by cases hs), (fun _ _ _ _ _ hs => by cases hs)⟩
  · intro k9 ih
    refine ⟨?_, ?_, ?_, ?_⟩
    · intro H locs ls x3i s0i hs hP hD hS hl
      rw [sm_it_succ, fn_WO_widthAt_q18] at hs
      unfold fn_WO_widthAt_b18 at hs
      refine lv_aload_n hx hb d_WO_widthAt_18 rfl (lv_at hl 0 rfl) ?_
      refine lv_iload_n hx hb d_WO_widthAt_19 rfl (lv_at hl 1 rfl) ?_
      refine lv_iconst (v := 1) hx hb d_WO_widthAt_20 (by decide) ?_
      refine lv_iadd hx hb d_WO_widthAt_21 ?_
      obtain ⟨r1, hq1, hs⟩ := sm_bd hs
      have hPc := hP.sub (ws' := [(a_tx, .inr (1, [.ref f_tx_characters, .int v_tx_length])), (f_tx_characters, .inl (k_tx_characters, 300, .inl c_tx_characters))]) [0, 1] rfl
      have hDc := hD.sub (ws' := [(a_tx, .inr (1, [.ref f_tx_characters, .int v_tx_length])), (f_tx_characters, .inl (k_tx_characters, 300, .inl c_tx_characters))]) [0, 1] (by decide) rfl
      have hKc := hK.sub (tys' := [(k_tx_characters, .byte)]) [0] rfl
      have hFc := va_free (wc := [(a_tx, .inr (1, [.ref f_tx_characters, .int v_tx_length])), (f_tx_characters, .inl (k_tx_characters, 300, .inl c_tx_characters))]) hD hS hA [0, 1] rfl
      refine va_calli (va_runV (As := [.int (a2 + 1)]) (rest := []) ⟨hx, hb, hml, hown, hts⟩ (c_TX_characterAt l dC dI (a_tx) (f_tx_characters) (v_tx_length) (k_tx_characters) (c_tx_characters) ((a2 + 1)) H.size r1 hq1) (wd_V (C := "LeastSolutions$Text") 1 hts k_367 k_2 k_364 k_365 k_366 rfl rfl (by decide +kernel) ⟨Nat.le_of_ble_eq_true rfl, Nat.le_of_ble_eq_true rfl⟩) ⟨fun a U g mk q => by obtain ⟨q0, q1, qP, qK, qD, qN⟩ := q; exact ⟨q0, q1, qP, va_K.moved (u := U) (U := U.calling g mk a) (Vm.Alike.refl U.vm) qK, qD, nw_ok.same (s := U) (U := U.calling g mk a) rfl qN⟩, va_recv (ci := 1) (q0 := 0) hK hP rfl rfl, fun U hU hW => ⟨rfl, by rw [hU], by rw [hU]; exact hPc, va_K.moved hW.alike hKc, hDc.weaken (fun _ _ _ _ => trivial), nw_ok.warm hW hN⟩⟩ rfl rfl hl.1 rfl (lv_room (Nat.le_of_ble_eq_true rfl)) d_WO_widthAt_22 ⟨Nat.le_of_ble_eq_true rfl, Nat.le_of_ble_eq_true rfl⟩) hS (fun q _ h => hFc q h) hFc (fun q1 u t H1 locs ht hvm hr1 hB hz1 hk1 hS => ?_)
      have hr1 := (show q1 = r1 from hr1).symm
      subst hr1
      obtain ⟨hP1, hK1, hD1⟩ := hB
      rw [ht] at hP1
      have hK1 := va_K.moved hvm.symm hK1
      obtain ⟨hP, hD⟩ := va_join (wr := []) (w1 := [(a_tx, .inr (1, [.ref f_tx_characters, .int v_tx_length])), (f_tx_characters, .inl (k_tx_characters, 300, .inl c_tx_characters))]) hP hD [0, 1] [] rfl rfl (by decide) (by decide) hk1 hFc hP1 hD1
      have hK := (hK.sub (tys' := []) [] rfl).app hK1
      have hK : va_K (dC, dI) cls [(k_tx_characters, .byte)] s := hK
      have hP : va_P (dC, dI) cls [(a_tx, .inr (1, [.ref f_tx_characters, .int v_tx_length])), (f_tx_characters, .inl (k_tx_characters, 300, .inl c_tx_characters))] H1 := hP
      have hD : va_D A [(a_tx, .inr (1, [.ref f_tx_characters, .int v_tx_length])), (f_tx_characters, .inl (k_tx_characters, 300, .inl c_tx_characters))] := hD
      refine lv_bipush (v := 61) hx hb d_WO_widthAt_25 (by decide) ?_
      refine lv_icmp_ne (tgt := 34) hx hb d_WO_widthAt_27 (by decide) (fun hc1 => ?_) (fun hc1 => ?_)
      · have hs := sm_neg hc1 hs
        refine lv_iconst (v := 1) hx hb d_WO_widthAt_34 (by decide) ?_
        exact ih.2.1 _ _ _ _ _ hs hP hD hS (lv_sub hl [] rfl)
      · have hs := sm_pos hc1 hs
        refine lv_iconst (v := 2) hx hb d_WO_widthAt_30 (by decide) ?_
        refine lv_goto (tgt := 35) hx hb d_WO_widthAt_31 (by decide) ?_
        exact ih.2.1 _ _ _ _ _ hs hP hD hS (lv_sub hl [] rfl)
    · intro H locs ls x3i s0i hs hP hD hS hl
      rw [sm_it_succ, fn_WO_widthAt_q35] at hs
      unfold fn_WO_widthAt_b35 at hs
      have he := sm_end hs
      subst he
      exact W.iret (v := s0i) hx hb hr (fun t ht hW => ⟨⟨s0i, (), rfl, rfl, by rw [ht]; exact hP, va_K.moved hW.alike hK, hD⟩, hS.F ht⟩) hS.2.2 d_WO_widthAt_35
    · intro H locs ls x3i s0i hs hP hD hS hl
      rw [sm_it_succ, fn_WO_widthAt_q49] at hs
      unfold fn_WO_widthAt_b49 at hs
      refine lv_iload_n hx hb d_WO_widthAt_49 rfl (lv_at hl 2 rfl) ?_
      refine lv_aload_n hx hb d_WO_widthAt_50 rfl (lv_at hl 0 rfl) ?_
      refine va_getN (D := (dC, dI)) (ci := 1) (v := .int v_tx_length) (C := R_TX) (T := T_TX) (N := 2) hx hb hts in_TX hown hK hP 0 rfl rfl 1 (by decide) (va_Nw.use rfl (hN.1 (Jvm.Cond.fieldLinkNest "LeastSolutions$Words" (35 : Nat) "LeastSolutions$Text" "length" "I" "LeastSolutions") nw_2)) (fun _ h9 => h9) rfl d_WO_widthAt_51 ?_
      refine lv_icmp_ge (tgt := 74) hx hb d_WO_widthAt_54 (by decide) (fun hc2 => ?_) (fun hc2 => ?_)
      · have hs := sm_pos hc2 hs
        exact ih.2.2.2 _ _ _ _ _ hs hP hD hS (lv_sub hl [1, 2] rfl)
      · have hs := sm_neg hc2 hs
        refine lv_aload_n hx hb d_WO_widthAt_57 rfl (lv_at hl 0 rfl) ?_
        refine lv_iload_n hx hb d_WO_widthAt_58 rfl (lv_at hl 2 rfl) ?_
        obtain ⟨r2, hq2, hs⟩ := sm_bd hs
        have hPc := hP.sub (ws' := [(a_tx, .inr (1, [.ref f_tx_characters, .int v_tx_length])), (f_tx_characters, .inl (k_tx_characters, 300, .inl c_tx_characters))]) [0, 1] rfl
        have hDc := hD.sub (ws' := [(a_tx, .inr (1, [.ref f_tx_characters, .int v_tx_length])), (f_tx_characters, .inl (k_tx_characters, 300, .inl c_tx_characters))]) [0, 1] (by decide) rfl
        have hKc := hK.sub (tys' := [(k_tx_characters, .byte)]) [0] rfl
        have hFc := va_free (wc := [(a_tx, .inr (1, [.ref f_tx_characters, .int v_tx_length])), (f_tx_characters, .inl (k_tx_characters, 300, .inl c_tx_characters))]) hD hS hA [0, 1] rfl
        refine va_calli (va_runV (As := [.int x3i]) (rest := []) ⟨hx, hb, hml, hown, hts⟩ (c_TX_characterAt l dC dI (a_tx) (f_tx_characters) (v_tx_length) (k_tx_characters) (c_tx_characters) (x3i) H.size r2 hq2) (wd_V (C := "LeastSolutions$Text") 1 hts k_367 k_2 k_364 k_365 k_366 rfl rfl (by decide +kernel) ⟨Nat.le_of_ble_eq_true rfl, Nat.le_of_ble_eq_true rfl⟩) ⟨fun a U g mk q => by obtain ⟨q0, q1, qP, qK, qD, qN⟩ := q; exact ⟨q0, q1, qP, va_K.moved (u := U) (U := U.calling g mk a) (Vm.Alike.refl U.vm) qK, qD, nw_ok.same (s := U) (U := U.calling g mk a) rfl qN⟩, va_recv (ci := 1) (q0 := 0) hK hP rfl rfl, fun U hU hW => ⟨rfl, by rw [hU], by rw [hU]; exact hPc, va_K.moved hW.alike hKc, hDc.weaken (fun _ _ _ _ => trivial), nw_ok.warm hW hN⟩⟩ rfl rfl hl.1 rfl (lv_room (Nat.le_of_ble_eq_true rfl)) d_WO_widthAt_59 ⟨Nat.le_of_ble_eq_true rfl, Nat.le_of_ble_eq_true rfl⟩) hS (fun q _ h => hFc q h) hFc (fun q2 u t H2 locs ht hvm hr2 hB hz1 hk1 hS => ?_)
        have hr2 := (show q2 = r2 from hr2).symm
        subst hr2
        obtain ⟨hP1, hK1, hD1⟩ := hB
        rw [ht] at hP1
        have hK1 := va_K.moved hvm.symm hK1
        obtain ⟨hP, hD⟩ := va_join (wr := []) (w1 := [(a_tx, .inr (1, [.ref f_tx_characters, .int v_tx_length])), (f_tx_characters, .inl (k_tx_characters, 300, .inl c_tx_characters))]) hP hD [0, 1] [] rfl rfl (by decide) (by decide) hk1 hFc hP1 hD1
        have hK := (hK.sub (tys' := []) [] rfl).app hK1
        have hK : va_K (dC, dI) cls [(k_tx_characters, .byte)] s := hK
        have hP : va_P (dC, dI) cls [(a_tx, .inr (1, [.ref f_tx_characters, .int v_tx_length])), (f_tx_characters, .inl (k_tx_characters, 300, .inl c_tx_characters))] H2 := hP
        have hD : va_D A [(a_tx, .inr (1, [.ref f_tx_characters, .int v_tx_length])), (f_tx_characters, .inl (k_tx_characters, 300, .inl c_tx_characters))] := hD
        obtain ⟨r3, hq3, hs⟩ := sm_bd hs
        have hPc := hP.sub (ws' := []) [] rfl
        have hDc := hD.sub (ws' := []) [] (by decide) rfl
        have hKc := hK.sub (tys' := []) [] rfl
        have hFc := va_free (wc := []) hD hS hA [] rfl
        refine va_calli (va_runS (As := [.int r2]) (rest := []) ⟨hx, hb, hml, hown, hts⟩ (c_WO_isDigit l dC dI (r2) H2.size r3 hq3) (wd_S 1 hts k_377 k_3 k_375 k_376 rfl rfl (by decide +kernel) ⟨Nat.le_of_ble_eq_true rfl, Nat.le_of_ble_eq_true rfl⟩) ⟨fun a U g mk q => by obtain ⟨q0, q1, qP, qK, qD, qN⟩ := q; exact ⟨q0, q1, qP, va_K.moved (u := U) (U := U.calling g mk a) (Vm.Alike.refl U.vm) qK, qD, nw_ok.same (s := U) (U := U.calling g mk a) rfl qN⟩, fun U hU hW => ⟨rfl, by rw [hU], by rw [hU]; exact hPc, va_K.moved hW.alike hKc, hDc.weaken (fun _ _ _ _ => trivial), nw_ok.warm hW hN⟩⟩ rfl rfl hl.1 rfl (lv_room (Nat.le_of_ble_eq_true rfl)) d_WO_widthAt_62 ⟨Nat.le_of_ble_eq_true rfl, Nat.le_of_ble_eq_true rfl⟩) hS (fun q _ h => hFc q h) hFc (fun q3 u t H3 locs ht hvm hr3 hB hz1 hk1 hS => ?_)
        have hr3 := (show q3 = r3 from hr3).symm
        subst hr3
        obtain ⟨hP1, hK1, hD1⟩ := hB
        rw [ht] at hP1
        have hK1 := va_K.moved hvm.symm hK1
        obtain ⟨hP, hD⟩ := va_join (wr := [(a_tx, .inr (1, [.ref f_tx_characters, .int v_tx_length])), (f_tx_characters, .inl (k_tx_characters, 300, .inl c_tx_characters))]) (w1 := []) hP hD [] [0, 1] rfl rfl (by decide) (by decide) hk1 hFc hP1 hD1
        have hK := (hK.sub (tys' := [(k_tx_characters, .byte)]) [0] rfl).app hK1
        have hK : va_K (dC, dI) cls [(k_tx_characters, .byte)] s := hK
        have hP : va_P (dC, dI) cls [(a_tx, .inr (1, [.ref f_tx_characters, .int v_tx_length])), (f_tx_characters, .inl (k_tx_characters, 300, .inl c_tx_characters))] H3 := hP
        have hD : va_D A [(a_tx, .inr (1, [.ref f_tx_characters, .int v_tx_length])), (f_tx_characters, .inl (k_tx_characters, 300, .inl c_tx_characters))] := hD
        refine lv_if_eq (tgt := 74) hx hb d_WO_widthAt_65 (by decide) (fun hc3 => ?_) (fun hc3 => ?_)
        · have hs := sm_pos hc3 hs
          exact ih.2.2.2 _ _ _ _ _ hs hP hD hS (lv_sub hl [1, 2] rfl)
        · have hs := sm_neg hc3 hs
          refine lv_iinc (k := 2) (v := (x3i + 1)) hx hb d_WO_widthAt_68 hl rfl (congrArg (fun z : Int32 => x3i + z) (by decide : Int32.ofInt 1 = 1)) (by decide) rfl (fun ls hl => ?_)
          have hl : lv_has ls 4 [(3, .int (x3i + 1)), (0, .ref a_tx), (1, .int a2)] := hl
          refine lv_goto (tgt := 49) hx hb d_WO_widthAt_71 (by decide) ?_
          exact ih.2.2.1 _ _ _ _ _ hs hP hD hS (lv_sub hl [1, 2, 0] rfl)
    · intro H locs ls x3i s0i hs hP hD hS hl
      rw [sm_it_succ, fn_WO_widthAt_q74] at hs
      unfold fn_WO_widthAt_b74 at hs
      refine lv_iload_n hx hb d_WO_widthAt_74 rfl (lv_at hl 1 rfl) ?_
      refine lv_iload_n hx hb d_WO_widthAt_75 rfl (lv_at hl 0 rfl) ?_
      refine lv_isub hx hb d_WO_widthAt_76 ?_
      have he := sm_end hs
      subst he
      exact W.iret (v := (x3i - a2)) hx hb hr (fun t ht hW => ⟨⟨(x3i - a2), (), rfl, rfl, by rw [ht]; exact hP, va_K.moved hW.alike hK, hD⟩, hS.F ht⟩) hS.2.2 d_WO_widthAt_77
  · intro key
    cases k8 with
    | zero => cases hs
    | succ k9 =>
      rw [sm_it_succ, fn_WO_widthAt_q0] at hs
      unfold fn_WO_widthAt_b0 at hs
      refine lv_aload_n hx hb d_WO_widthAt_0 rfl (lv_at hl 0 rfl) ?_
      refine lv_iload_n hx hb d_WO_widthAt_1 rfl (lv_at hl 1 rfl) ?_
      obtain ⟨r4, hq4, hs⟩ := sm_bd hs
      have hPc := hP.sub (ws' := [(a_tx, .inr (1, [.ref f_tx_characters, .int v_tx_length])), (f_tx_characters, .inl (k_tx_characters, 300, .inl c_tx_characters))]) [0, 1] rfl
      have hDc := hD.sub (ws' := [(a_tx, .inr (1, [.ref f_tx_characters, .int v_tx_length])), (f_tx_characters, .inl (k_tx_characters, 300, .inl c_tx_characters))]) [0, 1] (by decide) rfl
      have hKc := hK.sub (tys' := [(k_tx_characters, .byte)]) [0] rfl
      have hFc := va_free (wc := [(a_tx, .inr (1, [.ref f_tx_characters, .int v_tx_length])), (f_tx_characters, .inl (k_tx_characters, 300, .inl c_tx_characters))]) hD hS hA [0, 1] rfl
      refine va_calli (va_runV (As := [.int a2]) (rest := []) ⟨hx, hb, hml, hown, hts⟩ (c_TX_characterAt l dC dI (a_tx) (f_tx_characters) (v_tx_length) (k_tx_characters) (c_tx_characters) (a2) s.heap.size r4 hq4) (wd_V (C := "LeastSolutions$Text") 1 hts k_367 k_2 k_364 k_365 k_366 rfl rfl (by decide +kernel) ⟨Nat.le_of_ble_eq_true rfl, Nat.le_of_ble_eq_true rfl⟩) ⟨fun a U g mk q => by obtain ⟨q0, q1, qP, qK, qD, qN⟩ := q; exact ⟨q0, q1, qP, va_K.moved (u := U) (U := U.calling g mk a) (Vm.Alike.refl U.vm) qK, qD, nw_ok.same (s := U) (U := U.calling g mk a) rfl qN⟩, va_recv (ci := 1) (q0 := 0) hK hP rfl rfl, fun U hU hW => ⟨rfl, by rw [hU], by rw [hU]; exact hPc, va_K.moved hW.alike hKc, hDc.weaken (fun _ _ _ _ => trivial), nw_ok.warm hW hN⟩⟩ rfl rfl hl.1 rfl (lv_room (Nat.le_of_ble_eq_true rfl)) d_WO_widthAt_2 ⟨Nat.le_of_ble_eq_true rfl, Nat.le_of_ble_eq_true rfl⟩) hS (fun q _ h => hFc q h) hFc (fun q4 u t H4 locs ht hvm hr4 hB hz1 hk1 hS => ?_)
      have hr4 := (show q4 = r4 from hr4).symm
      subst hr4
      obtain ⟨hP1, hK1, hD1⟩ := hB
      rw [ht] at hP1
      have hK1 := va_K.moved hvm.symm hK1
      obtain ⟨hP, hD⟩ := va_join (wr := []) (w1 := [(a_tx, .inr (1, [.ref f_tx_characters, .int v_tx_length])), (f_tx_characters, .inl (k_tx_characters, 300, .inl c_tx_characters))]) hP hD [0, 1] [] rfl rfl (by decide) (by decide) hk1 hFc hP1 hD1
      have hK := (hK.sub (tys' := []) [] rfl).app hK1
      have hK : va_K (dC, dI) cls [(k_tx_characters, .byte)] s := hK
      have hP : va_P (dC, dI) cls [(a_tx, .inr (1, [.ref f_tx_characters, .int v_tx_length])), (f_tx_characters, .inl (k_tx_characters, 300, .inl c_tx_characters))] H4 := hP
      have hD : va_D A [(a_tx, .inr (1, [.ref f_tx_characters, .int v_tx_length])), (f_tx_characters, .inl (k_tx_characters, 300, .inl c_tx_characters))] := hD
      refine lv_istore_n hx hb d_WO_widthAt_5 rfl hl (by decide) rfl (fun ls hl => ?_)
      have hl : lv_has ls 4 [(2, .int r4), (0, .ref a_tx), (1, .int a2)] := hl
      refine lv_iload_n hx hb d_WO_widthAt_6 rfl (lv_at hl 0 rfl) ?_
      refine lv_bipush (v := 60) hx hb d_WO_widthAt_7 (by decide) ?_
      refine lv_icmp_eq (tgt := 18) hx hb d_WO_widthAt_9 (by decide) (fun hc4 => ?_) (fun hc4 => ?_)
      · have hs := sm_pos hc4 hs
        exact (key k9).1 _ _ _ _ _ hs hP hD hS (lv_sub hl [1, 2] rfl)
      · have hs := sm_neg hc4 hs
        refine lv_iload_n hx hb d_WO_widthAt_12 rfl (lv_at hl 0 rfl) ?_
        refine lv_bipush (v := 62) hx hb d_WO_widthAt_13 (by decide) ?_
        refine lv_icmp_ne (tgt := 36) hx hb d_WO_widthAt_15 (by decide) (fun hc5 => ?_) (fun hc5 => ?_)
        · have hs := sm_neg hc5 hs
          refine lv_iload_n hx hb d_WO_widthAt_36 rfl (lv_at hl 0 rfl) ?_
          obtain ⟨r5, hq5, hs⟩ := sm_bd hs
          have hPc := hP.sub (ws' := []) [] rfl
          have hDc := hD.sub (ws' := []) [] (by decide) rfl
          have hKc := hK.sub (tys' := []) [] rfl
          have hFc := va_free (wc := []) hD hS hA [] rfl
          refine va_calli (va_runS (As := [.int r4]) (rest := []) ⟨hx, hb, hml, hown, hts⟩ (c_WO_isDigit l dC dI (r4) H4.size r5 hq5) (wd_S 1 hts k_377 k_3 k_375 k_376 rfl rfl (by decide +kernel) ⟨Nat.le_of_ble_eq_true rfl, Nat.le_of_ble_eq_true rfl⟩) ⟨fun a U g mk q => by obtain ⟨q0, q1, qP, qK, qD, qN⟩ := q; exact ⟨q0, q1, qP, va_K.moved (u := U) (U := U.calling g mk a) (Vm.Alike.refl U.vm) qK, qD, nw_ok.same (s := U) (U := U.calling g mk a) rfl qN⟩, fun U hU hW => ⟨rfl, by rw [hU], by rw [hU]; exact hPc, va_K.moved hW.alike hKc, hDc.weaken (fun _ _ _ _ => trivial), nw_ok.warm hW hN⟩⟩ rfl rfl hl.1 rfl (lv_room (Nat.le_of_ble_eq_true rfl)) d_WO_widthAt_37 ⟨Nat.le_of_ble_eq_true rfl, Nat.le_of_ble_eq_true rfl⟩) hS (fun q _ h => hFc q h) hFc (fun q5 u t H5 locs ht hvm hr5 hB hz1 hk1 hS => ?_)
          have hr5 := (show q5 = r5 from hr5).symm
          subst hr5
          obtain ⟨hP1, hK1, hD1⟩ := hB
          rw [ht] at hP1
          have hK1 := va_K.moved hvm.symm hK1
          obtain ⟨hP, hD⟩ := va_join (wr := [(a_tx, .inr (1, [.ref f_tx_characters, .int v_tx_length])), (f_tx_characters, .inl (k_tx_characters, 300, .inl c_tx_characters))]) (w1 := []) hP hD [] [0, 1] rfl rfl (by decide) (by decide) hk1 hFc hP1 hD1
          have hK := (hK.sub (tys' := [(k_tx_characters, .byte)]) [0] rfl).app hK1
          have hK : va_K (dC, dI) cls [(k_tx_characters, .byte)] s := hK
          have hP : va_P (dC, dI) cls [(a_tx, .inr (1, [.ref f_tx_characters, .int v_tx_length])), (f_tx_characters, .inl (k_tx_characters, 300, .inl c_tx_characters))] H5 := hP
          have hD : va_D A [(a_tx, .inr (1, [.ref f_tx_characters, .int v_tx_length])), (f_tx_characters, .inl (k_tx_characters, 300, .inl c_tx_characters))] := hD
          refine lv_if_ne (tgt := 45) hx hb d_WO_widthAt_40 (by decide) (fun hc6 => ?_) (fun hc6 => ?_)
          · have hs := sm_neg hc6 hs
            refine lv_iload_n hx hb d_WO_widthAt_45 rfl (lv_at hl 2 rfl) ?_
            refine lv_iconst (v := 1) hx hb d_WO_widthAt_46 (by decide) ?_
            refine lv_iadd hx hb d_WO_widthAt_47 ?_
            refine lv_istore_n hx hb d_WO_widthAt_48 rfl hl (by decide) rfl (fun ls hl => ?_)
            have hl : lv_has ls 4 [(3, .int (a2 + 1)), (2, .int r4), (0, .ref a_tx), (1, .int a2)] := hl
            exact (key k9).2.2.1 _ _ _ _ _ hs hP hD hS (lv_sub hl [2, 3, 0] rfl)
          · have hs := sm_pos hc6 hs
            refine lv_iconst (v := 1) hx hb d_WO_widthAt_43 (by decide) ?_
            have he := sm_end hs
            subst he
            exact W.iret (v := 1) hx hb hr (fun t ht hW => ⟨⟨1, (), rfl, rfl, by rw [ht]; exact hP, va_K.moved hW.alike hK, hD⟩, hS.F ht⟩) hS.2.2 d_WO_widthAt_44
        · have hs := sm_pos hc5 hs
          exact (key k9).1 _ _ _ _ _ hs hP hD hS (lv_sub hl [1, 2] rfl)

noncomputable def fn_WO_kindAt_b0 (a2 : Int32) (a3 : Int32) (v_tx_length : Int32) (c_tx_characters : Nat → Int32) (_z0 : Int32) (_z1 : Int32) : Option ((Nat × Int32 × Int32) ⊕ (Int32)) := (sm_tot (fn_TX_characterAt a2 v_tx_length c_tx_characters) (0, 0)).bind (fun r1 => (sm_tot (fn_WO_isDigit r1) (0, 0)).bind (fun r2 => if (r2 : Int32) = 0 then (if (r1 : Int32) < 97 then (some (.inl (38, r1, 0))) else (if (122 : Int32) < r1 then (some (.inl (38, r1, 0))) else (some (.inr 1)))) else (if (4 : Int32) < a3 then (some (.inl (23, 0, (-1)))) else (some (.inl (23, 0, 0))))))
noncomputable def fn_WO_kindAt_b23 (a2 : Int32) (a3 : Int32) (v_tx_length : Int32) (c_tx_characters : Nat → Int32) (x3i : Int32) (s0i : Int32) : Option ((Nat × Int32 × Int32) ⊕ (Int32)) := some (.inr s0i)
noncomputable def fn_WO_kindAt_b38 (a2 : Int32) (a3 : Int32) (v_tx_length : Int32) (c_tx_characters : Nat → Int32) (x3i : Int32) (s0i : Int32) : Option ((Nat × Int32 × Int32) ⊕ (Int32)) := if (x3i : Int32) = 42 then (some (.inr 4)) else (if (x3i : Int32) = 43 then (some (.inr 2)) else (if (x3i : Int32) = 44 then (some (.inr (-1))) else (if (x3i : Int32) = 45 then (some (.inr 3)) else (if (x3i : Int32) = 46 then (some (.inr (-1))) else (if (x3i : Int32) = 47 then (some (.inr (-1))) else (if (x3i : Int32) = 48 then (some (.inr (-1))) else (if (x3i : Int32) = 49 then (some (.inr (-1))) else (if (x3i : Int32) = 50 then (some (.inr (-1))) else (if (x3i : Int32) = 51 then (some (.inr (-1))) else (if (x3i : Int32) = 52 then (some (.inr (-1))) else (if (x3i : Int32) = 53 then (some (.inr (-1))) else (if (x3i : Int32) = 54 then (some (.inr (-1))) else (if (x3i : Int32) = 55 then (some (.inr (-1))) else (if (x3i : Int32) = 56 then (some (.inr (-1))) else (if (x3i : Int32) = 57 then (some (.inr (-1))) else (if (x3i : Int32) = 58 then (some (.inr (-1))) else (if (x3i : Int32) = 59 then (some (.inr 5)) else (if (x3i : Int32) = 60 then (if (a3 : Int32) = 2 then (some (.inl (158, 0, 7))) else (some (.inl (158, 0, (-1))))) else (if (x3i : Int32) = 61 then (some (.inr 6)) else (if (x3i : Int32) = 62 then (if (a3 : Int32) = 2 then (some (.inl (170, 0, 8))) else (some (.inl (170, 0, (-1))))) else (some (.inr (-1)))))))))))))))))))))))
noncomputable def fn_WO_kindAt_b158 (a2 : Int32) (a3 : Int32) (v_tx_length : Int32) (c_tx_characters : Nat → Int32) (x3i : Int32) (s0i : Int32) : Option ((Nat × Int32 × Int32) ⊕ (Int32)) := some (.inr s0i)
noncomputable def fn_WO_kindAt_b170 (a2 : Int32) (a3 : Int32) (v_tx_length : Int32) (c_tx_characters : Nat → Int32) (x3i : Int32) (s0i : Int32) : Option ((Nat × Int32 × Int32) ⊕ (Int32)) := some (.inr s0i)
noncomputable def fn_WO_kindAt (a2 : Int32) (a3 : Int32) (v_tx_length : Int32) (c_tx_characters : Nat → Int32) : Nat × Int32 × Int32 → Option ((Nat × Int32 × Int32) ⊕ (Int32)) := fun st => match st with
  | (pc, x3i, s0i) => if pc = 0 then fn_WO_kindAt_b0 a2 a3 v_tx_length c_tx_characters x3i s0i else if pc = 23 then fn_WO_kindAt_b23 a2 a3 v_tx_length c_tx_characters x3i s0i else if pc = 38 then fn_WO_kindAt_b38 a2 a3 v_tx_length c_tx_characters x3i s0i else if pc = 158 then fn_WO_kindAt_b158 a2 a3 v_tx_length c_tx_characters x3i s0i else if pc = 170 then fn_WO_kindAt_b170 a2 a3 v_tx_length c_tx_characters x3i s0i else none
theorem fn_WO_kindAt_q0 (a2 : Int32) (a3 : Int32) (v_tx_length : Int32) (c_tx_characters : Nat → Int32) (x3i : Int32) (s0i : Int32) : fn_WO_kindAt a2 a3 v_tx_length c_tx_characters (0, x3i, s0i) = fn_WO_kindAt_b0 a2 a3 v_tx_length c_tx_characters x3i s0i := by simp [fn_WO_kindAt]
theorem fn_WO_kindAt_q23 (a2 : Int32) (a3 : Int32) (v_tx_length : Int32) (c_tx_characters : Nat → Int32) (x3i : Int32) (s0i : Int32) : fn_WO_kindAt a2 a3 v_tx_length c_tx_characters (23, x3i, s0i) = fn_WO_kindAt_b23 a2 a3 v_tx_length c_tx_characters x3i s0i := by simp [fn_WO_kindAt]
theorem fn_WO_kindAt_q38 (a2 : Int32) (a3 : Int32) (v_tx_length : Int32) (c_tx_characters : Nat → Int32) (x3i : Int32) (s0i : Int32) : fn_WO_kindAt a2 a3 v_tx_length c_tx_characters (38, x3i, s0i) = fn_WO_kindAt_b38 a2 a3 v_tx_length c_tx_characters x3i s0i := by simp [fn_WO_kindAt]
theorem fn_WO_kindAt_q158 (a2 : Int32) (a3 : Int32) (v_tx_length : Int32) (c_tx_characters : Nat → Int32) (x3i : Int32) (s0i : Int32) : fn_WO_kindAt a2 a3 v_tx_length c_tx_characters (158, x3i, s0i) = fn_WO_kindAt_b158 a2 a3 v_tx_length c_tx_characters x3i s0i := by simp [fn_WO_kindAt]
theorem fn_WO_kindAt_q170 (a2 : Int32) (a3 : Int32) (v_tx_length : Int32) (c_tx_characters : Nat → Int32) (x3i : Int32) (s0i : Int32) : fn_WO_kindAt a2 a3 v_tx_length c_tx_characters (170, x3i, s0i) = fn_WO_kindAt_b170 a2 a3 v_tx_length c_tx_characters x3i s0i := by simp [fn_WO_kindAt]
set_option maxHeartbeats 4000000 in
set_option maxRecDepth 100000 in
theorem c_WO_kindAt (l : Launch) (dC : Nat → ClassId) (dI : Nat → Nat → Nat) (a_tx : Nat) (f_tx_characters : Nat) (v_tx_length : Int32) (k_tx_characters : ClassId) (c_tx_characters : Nat → Int32) (a2 : Int32) (a3 : Int32) (sz : Nat) (out : Int32) (hs : sm_tot (fn_WO_kindAt a2 a3 v_tx_length c_tx_characters) (0, 0, 0) = some out) : Met l y_WO_kindAt (Cond.code y_WO_kindAt b_WO_kindAt 4 (Option.some Jvm.ClassFile.FieldType.int) :: wd) { frames := 1, cells := 0, slots := 0, locals := 21 } (va_Pc [.ref a_tx, .int a2, .int a3] (fun U => U.heap.size = sz ∧ va_P (dC, dI) cls [(a_tx, .inr (1, [.ref f_tx_characters, .int v_tx_length])), (f_tx_characters, .inl (k_tx_characters, 300, .inl c_tx_characters))] U.heap ∧ va_K (dC, dI) cls [(k_tx_characters, .byte)] U ∧ va_D (fun _ => True) [(a_tx, .inr (1, [.ref f_tx_characters, .int v_tx_length])), (f_tx_characters, .inl (k_tx_characters, 300, .inl c_tx_characters))] ∧ nw_ok U)) (va_Qi (fun r (_ : Unit) => r = out) (fun (_ : Unit) t => va_P (dC, dI) cls [(a_tx, .inr (1, [.ref f_tx_characters, .int v_tx_length])), (f_tx_characters, .inl (k_tx_characters, 300, .inl c_tx_characters))] t.heap ∧ va_K (dC, dI) cls [(k_tx_characters, .byte)] t ∧ va_D (va_A [(a_tx, .inr (1, [.ref f_tx_characters, .int v_tx_length])), (f_tx_characters, .inl (k_tx_characters, 300, .inl c_tx_characters))] sz) [(a_tx, .inr (1, [.ref f_tx_characters, .int v_tx_length])), (f_tx_characters, .inl (k_tx_characters, 300, .inl c_tx_characters))]) (va_A [(a_tx, .inr (1, [.ref f_tx_characters, .int v_tx_length])), (f_tx_characters, .inl (k_tx_characters, 300, .inl c_tx_characters))] sz)) 0 0 (va_A [(a_tx, .inr (1, [.ref f_tx_characters, .int v_tx_length])), (f_tx_characters, .inl (k_tx_characters, 300, .inl c_tx_characters))] sz) := by
  refine Met.ofW (cc := b_WO_kindAt) (maxL := 4) (ret := (Option.some Jvm.ClassFile.FieldType.int)) (by decide) rfl ?_
  intro p e s m args below meth c s₁ B hml hv
  obtain ⟨rfl, hsz, hP, hK, hD0, hN⟩ := hv
  have hx := B.exec
  have hb := B.bytes
  have hr := B.returns
  have hlocks := B.notSynchronized
  have hts : ∀ w ∈ wd, w.before ([.ref a_tx, .int a2, .int a3] : List Value).toArray s = true := fun w hw => atoms_spec (ws := (Cond.code y_WO_kindAt b_WO_kindAt 4 (Option.some Jvm.ClassFile.FieldType.int) :: wd)) B.pre w (List.mem_cons_of_mem _ hw)
  have hown : s.vm.findClass "LeastSolutions$Words" = some m.cls := findClass_of_methodNamed B.named
  subst hsz
  have hD := hD0.self (sz := s.heap.size)
  generalize hAe : va_A [(a_tx, .inr (1, [.ref f_tx_characters, .int v_tx_length])), (f_tx_characters, .inl (k_tx_characters, 300, .inl c_tx_characters))] s.heap.size = A at hD ⊢
  have hA : ∀ q : Nat, s.heap.size ≤ q → A q := fun q h => by rw [← hAe]; exact Or.inr h
  have hS : va_S A s.heap s.heap [] := va_S.rf
  have hl := lv_entry ([.ref a_tx, .int a2, .int a3]) (n := 4) (Nat.le_of_ble_eq_true rfl)
  rw [lg_entry_eq]
  generalize (lg_sl ([.ref a_tx, .int a2, .int a3]) ++ List.replicate (4 - (lg_sl ([.ref a_tx, .int a2, .int a3])).length) Slot.unset).toArray = ls at hl ⊢
  have hl : lv_has ls 4 [(0, .ref a_tx), (1, .int a2), (2, .int a3)] := hl
  obtain ⟨k8, hs⟩ := sm_of hs
  refine sm_key (fun R Q k9 => (∀ (H : Heap) (locs : List Loc) (ls : Array Slot) (x3i : Int32) (s0i : Int32), sm_it (fn_WO_kindAt a2 a3 v_tx_length c_tx_characters) k9 (23, x3i, s0i) = some out → va_P (dC, dI) cls [(a_tx, .inr (1, [.ref f_tx_characters, .int v_tx_length])), (f_tx_characters, .inl (k_tx_characters, 300, .inl c_tx_characters))] H → va_D A [(a_tx, .inr (1, [.ref f_tx_characters, .int v_tx_length])), (f_tx_characters, .inl (k_tx_characters, 300, .inl c_tx_characters))] → va_S A s.heap H locs → lv_has ls 4 [] → W p l e R s m ([.ref a_tx, .int a2, .int a3] : List Value).toArray below meth c H locs 0 0 Q (F0 m 23 ls [.int s0i])) ∧ (∀ (H : Heap) (locs : List Loc) (ls : Array Slot) (x3i : Int32) (s0i : Int32), sm_it (fn_WO_kindAt a2 a3 v_tx_length c_tx_characters) k9 (38, x3i, s0i) = some out → va_P (dC, dI) cls [(a_tx, .inr (1, [.ref f_tx_characters, .int v_tx_length])), (f_tx_characters, .inl (k_tx_characters, 300, .inl c_tx_characters))] H → va_D A [(a_tx, .inr (1, [.ref f_tx_characters, .int v_tx_length])), (f_tx_characters, .inl (k_tx_characters, 300, .inl c_tx_characters))] → va_S A s.heap H locs → lv_has ls 4 [(2, .int a3), (3, .int x3i)] → W p l e R s m ([.ref a_tx, .int a2, .int a3] : List Value).toArray below meth c H locs 0 0 Q (F0 m 38 ls [])) ∧ (∀ (H : Heap) (locs : List Loc) (ls : Array Slot) (x3i : Int32) (s0i : Int32), sm_it (fn_WO_kindAt a2 a3 v_tx_length c_tx_characters) k9 (158, x3i, s0i) = some out → va_P (dC, dI) cls [(a_tx, .inr (1, [.ref f_tx_characters, .int v_tx_length])), (f_tx_characters, .inl (k_tx_characters, 300, .inl c_tx_characters))] H → va_D A [(a_tx, .inr (1, [.ref f_tx_characters, .int v_tx_length])), (f_tx_characters, .inl (k_tx_characters, 300, .inl c_tx_characters))] → va_S A s.heap H locs → lv_has ls 4 [] → W p l e R s m ([.ref a_tx, .int a2, .int a3] : List Value).toArray below meth c H locs 0 0 Q (F0 m 158 ls [.int s0i])) ∧ (∀ (H : Heap) (locs : List Loc) (ls : Array Slot) (x3i : Int32) (s0i : Int32), sm_it (fn_WO_kindAt a2 a3 v_tx_length c_tx_characters) k9 (170, x3i, s0i) = some out → va_P (dC, dI) cls [(a_tx, .inr (1, [.ref f_tx_characters, .int v_tx_length])), (f_tx_characters, .inl (k_tx_characters, 300, .inl c_tx_characters))] H → va_D A [(a_tx, .inr (1, [.ref f_tx_characters, .int v_tx_length])), (f_tx_characters, .inl (k_tx_characters, 300, .inl c_tx_characters))] → va_S A s.heap H locs → lv_has ls 4 [] → W p l e R s m ([.ref a_tx, .int a2, .int a3] : List Value).toArray below meth c H locs 0 0 Q (F0 m 170 ls [.int s0i]))) ?_ ?_ ?_
  · exact ⟨(fun _ _ _ _ _ hs => by cases hs), (fun _ _ _ _ _ hs => by cases hs), (fun _ _ _ _ _ hs => by cases hs), (fun _ _ _ _ _ hs => by cases hs)⟩
  · intro k9 ih
    refine ⟨?_, ?_, ?_, ?_⟩
    · intro H locs ls x3i s0i hs hP hD hS hl
      rw [sm_it_succ, fn_WO_kindAt_q23] at hs
      unfold fn_WO_kindAt_b23 at hs
      have he := sm_end hs
      subst he
      exact W.iret (v := s0i) hx hb hr (fun t ht hW => ⟨⟨s0i, (), rfl, rfl, by rw [ht]; exact hP, va_K.moved hW.alike hK, hD⟩, hS.F ht⟩) hS.2.2 d_WO_kindAt_23
    · intro H locs ls x3i s0i hs hP hD hS hl
      rw [sm_it_succ, fn_WO_kindAt_q38] at hs
      unfold fn_WO_kindAt_b38 at hs
      refine lv_iload_n hx hb d_WO_kindAt_38 rfl (lv_at hl 1 rfl) ?_
      by_cases hc1 : (x3i : Int32) = 42
      · have hs := sm_pos hc1 hs
        refine lv_tableIn (tgt := 140) (off := 101) hx hb d_WO_kindAt_39 (by rw [hc1]; decide) (by rw [hc1]; decide) (by rw [hc1]; decide) (by decide) ?_
        refine lv_iconst (v := 4) hx hb d_WO_kindAt_140 (by decide) ?_
        have he := sm_end hs
        subst he
        exact W.iret (v := 4) hx hb hr (fun t ht hW => ⟨⟨4, (), rfl, rfl, by rw [ht]; exact hP, va_K.moved hW.alike hK, hD⟩, hS.F ht⟩) hS.2.2 d_WO_kindAt_141
      have hs := sm_neg hc1 hs
      by_cases hc2 : (x3i : Int32) = 43
      · have hs := sm_pos hc2 hs
        refine lv_tableIn (tgt := 136) (off := 97) hx hb d_WO_kindAt_39 (by rw [hc2]; decide) (by rw [hc2]; decide) (by rw [hc2]; decide) (by decide) ?_
        refine lv_iconst (v := 2) hx hb d_WO_kindAt_136 (by decide) ?_
        have he := sm_end hs
        subst he
        exact W.iret (v := 2) hx hb hr (fun t ht hW => ⟨⟨2, (), rfl, rfl, by rw [ht]; exact hP, va_K.moved hW.alike hK, hD⟩, hS.F ht⟩) hS.2.2 d_WO_kindAt_137
      have hs := sm_neg hc2 hs
      by_cases hc3 : (x3i : Int32) = 44
      · have hs := sm_pos hc3 hs
        refine lv_tableIn (tgt := 171) (off := 132) hx hb d_WO_kindAt_39 (by rw [hc3]; decide) (by rw [hc3]; decide) (by rw [hc3]; decide) (by decide) ?_
        refine lv_iconst (v := (-1)) hx hb d_WO_kindAt_171 (by decide) ?_
        have he := sm_end hs
        subst he
        exact W.iret (v := (-1)) hx hb hr (fun t ht hW => ⟨⟨(-1), (), rfl, rfl, by rw [ht]; exact hP, va_K.moved hW.alike hK, hD⟩, hS.F ht⟩) hS.2.2 d_WO_kindAt_172
      have hs := sm_neg hc3 hs
      by_cases hc4 : (x3i : Int32) = 45
      · have hs := sm_pos hc4 hs
        refine lv_tableIn (tgt := 138) (off := 99) hx hb d_WO_kindAt_39 (by rw [hc4]; decide) (by rw [hc4]; decide) (by rw [hc4]; decide) (by decide) ?_
        refine lv_iconst (v := 3) hx hb d_WO_kindAt_138 (by decide) ?_
        have he := sm_end hs
        subst he
        exact W.iret (v := 3) hx hb hr (fun t ht hW => ⟨⟨3, (), rfl, rfl, by rw [ht]; exact hP, va_K.moved hW.alike hK, hD⟩, hS.F ht⟩) hS.2.2 d_WO_kindAt_139
      have hs := sm_neg hc4 hs
      by_cases hc5 : (x3i : Int32) = 46
      · have hs := sm_pos hc5 hs
        refine lv_tableIn (tgt := 171) (off := 132) hx hb d_WO_kindAt_39 (by rw [hc5]; decide) (by rw [hc5]; decide) (by rw [hc5]; decide) (by decide) ?_
        refine lv_iconst (v := (-1)) hx hb d_WO_kindAt_171 (by decide) ?_
        have he := sm_end hs
        subst he
        exact W.iret (v := (-1)) hx hb hr (fun t ht hW => ⟨⟨(-1), (), rfl, rfl, by rw [ht]; exact hP, va_K.moved hW.alike hK, hD⟩, hS.F ht⟩) hS.2.2 d_WO_kindAt_172
      have hs := sm_neg hc5 hs
      by_cases hc6 : (x3i : Int32) = 47
      · have hs := sm_pos hc6 hs
        refine lv_tableIn (tgt := 171) (off := 132) hx hb d_WO_kindAt_39 (by rw [hc6]; decide) (by rw [hc6]; decide) (by rw [hc6]; decide) (by decide) ?_
        refine lv_iconst (v := (-1)) hx hb d_WO_kindAt_171 (by decide) ?_
        have he := sm_end hs
        subst he
        exact W.iret (v := (-1)) hx hb hr (fun t ht hW => ⟨⟨(-1), (), rfl, rfl, by rw [ht]; exact hP, va_K.moved hW.alike hK, hD⟩, hS.F ht⟩) hS.2.2 d_WO_kindAt_172
      have hs := sm_neg hc6 hs
      by_cases hc7 : (x3i : Int32) = 48
      · have hs := sm_pos hc7 hs
        refine lv_tableIn (tgt := 171) (off := 132) hx hb d_WO_kindAt_39 (by rw [hc7]; decide) (by rw [hc7]; decide) (by rw [hc7]; decide) (by decide) ?_
        refine lv_iconst (v := (-1)) hx hb d_WO_kindAt_171 (by decide) ?_
        have he := sm_end hs
        subst he
        exact W.iret (v := (-1)) hx hb hr (fun t ht hW => ⟨⟨(-1), (), rfl, rfl, by rw [ht]; exact hP, va_K.moved hW.alike hK, hD⟩, hS.F ht⟩) hS.2.2 d_WO_kindAt_172
      have hs := sm_neg hc7 hs
      by_cases hc8 : (x3i : Int32) = 49
      · have hs := sm_pos hc8 hs
        refine lv_tableIn (tgt := 171) (off := 132) hx hb d_WO_kindAt_39 (by rw [hc8]; decide) (by rw [hc8]; decide) (by rw [hc8]; decide) (by decide) ?_
        refine lv_iconst (v := (-1)) hx hb d_WO_kindAt_171 (by decide) ?_
        have he := sm_end hs
        subst he
        exact W.iret (v := (-1)) hx hb hr (fun t ht hW => ⟨⟨(-1), (), rfl, rfl, by rw [ht]; exact hP, va_K.moved hW.alike hK, hD⟩, hS.F ht⟩) hS.2.2 d_WO_kindAt_172
      have hs := sm_neg hc8 hs
      by_cases hc9 : (x3i : Int32) = 50
      · have hs := sm_pos hc9 hs
        refine lv_tableIn (tgt := 171) (off := 132) hx hb d_WO_kindAt_39 (by rw [hc9]; decide) (by rw [hc9]; decide) (by rw [hc9]; decide) (by decide) ?_
        refine lv_iconst (v := (-1)) hx hb d_WO_kindAt_171 (by decide) ?_
        have he := sm_end hs
        subst he
        exact W.iret (v := (-1)) hx hb hr (fun t ht hW => ⟨⟨(-1), (), rfl, rfl, by rw [ht]; exact hP, va_K.moved hW.alike hK, hD⟩, hS.F ht⟩) hS.2.2 d_WO_kindAt_172
      have hs := sm_neg hc9 hs
      by_cases hc10 : (x3i : Int32) = 51
      · have hs := sm_pos hc10 hs
        refine lv_tableIn (tgt := 171) (off := 132) hx hb d_WO_kindAt_39 (by rw [hc10]; decide) (by rw [hc10]; decide) (by rw [hc10]; decide) (by decide) ?_
        refine lv_iconst (v := (-1)) hx hb d_WO_kindAt_171 (by decide) ?_
        have he := sm_end hs
        subst he
        exact W.iret (v := (-1)) hx hb hr (fun t ht hW => ⟨⟨(-1), (), rfl, rfl, by rw [ht]; exact hP, va_K.moved hW.alike hK, hD⟩, hS.F ht⟩) hS.2.2 d_WO_kindAt_172
      have hs := sm_neg hc10 hs
      by_cases hc11 : (x3i : Int32) = 52
      · have hs := sm_pos hc11 hs
        refine lv_tableIn (tgt := 171) (off := 132) hx hb d_WO_kindAt_39 (by rw [hc11]; decide) (by rw [hc11]; decide) (by rw [hc11]; decide) (by decide) ?_
        refine lv_iconst (v := (-1)) hx hb d_WO_kindAt_171 (by decide) ?_
        have he := sm_end hs
        subst he
        exact W.iret (v := (-1)) hx hb hr (fun t ht hW => ⟨⟨(-1), (), rfl, rfl, by rw [ht]; exact hP, va_K.moved hW.alike hK, hD⟩, hS.F ht⟩) hS.2.2 d_WO_kindAt_172
      have hs := sm_neg hc11 hs
      by_cases hc12 : (x3i : Int32) = 53
      · have hs := sm_pos hc12 hs
        refine lv_tableIn (tgt := 171) (off := 132) hx hb d_WO_kindAt_39 (by rw [hc12]; decide) (by rw [hc12]; decide) (by rw [hc12]; decide) (by decide) ?_
        refine lv_iconst (v := (-1)) hx hb d_WO_kindAt_171 (by decide) ?_
        have he := sm_end hs
        subst he
        exact W.iret (v := (-1)) hx hb hr (fun t ht hW => ⟨⟨(-1), (), rfl, rfl, by rw [ht]; exact hP, va_K.moved hW.alike hK, hD⟩, hS.F ht⟩) hS.2.2 d_WO_kindAt_172
      have hs := sm_neg hc12 hs
      by_cases hc13 : (x3i : Int32) = 54
      · have hs := sm_pos hc13 hs
        refine lv_tableIn (tgt := 171) (off := 132) hx hb d_WO_kindAt_39 (by rw [hc13]; decide) (by rw [hc13]; decide) (by rw [hc13]; decide) (by decide) ?_
        refine lv_iconst (v := (-1)) hx hb d_WO_kindAt_171 (by decide) ?_
        have he := sm_end hs
        subst he
        exact W.iret (v := (-1)) hx hb hr (fun t ht hW => ⟨⟨(-1), (), rfl, rfl, by rw [ht]; exact hP, va_K.moved hW.alike hK, hD⟩, hS.F ht⟩) hS.2.2 d_WO_kindAt_172
      have hs := sm_neg hc13 hs
      by_cases hc14 : (x3i : Int32) = 55
      · have hs := sm_pos hc14 hs
        refine lv_tableIn (tgt := 171) (off := 132) hx hb d_WO_kindAt_39 (by rw [hc14]; decide) (by rw [hc14]; decide) (by rw [hc14]; decide) (by decide) ?_
        refine lv_iconst (v := (-1)) hx hb d_WO_kindAt_171 (by decide) ?_
        have he := sm_end hs
        subst he
        exact W.iret (v := (-1)) hx hb hr (fun t ht hW => ⟨⟨(-1), (), rfl, rfl, by rw [ht]; exact hP, va_K.moved hW.alike hK, hD⟩, hS.F ht⟩) hS.2.2 d_WO_kindAt_172
      have hs := sm_neg hc14 hs
      by_cases hc15 : (x3i : Int32) = 56
      · have hs := sm_pos hc15 hs
        refine lv_tableIn (tgt := 171) (off := 132) hx hb d_WO_kindAt_39 (by rw [hc15]; decide) (by rw [hc15]; decide) (by rw [hc15]; decide) (by decide) ?_
        refine lv_iconst (v := (-1)) hx hb d_WO_kindAt_171 (by decide) ?_
        have he := sm_end hs
        subst he
        exact W.iret (v := (-1)) hx hb hr (fun t ht hW => ⟨⟨(-1), (), rfl, rfl, by rw [ht]; exact hP, va_K.moved hW.alike hK, hD⟩, hS.F ht⟩) hS.2.2 d_WO_kindAt_172
      have hs := sm_neg hc15 hs
      by_cases hc16 : (x3i : Int32) = 57
      · have hs := sm_pos hc16 hs
        refine lv_tableIn (tgt := 171) (off := 132) hx hb d_WO_kindAt_39 (by rw [hc16]; decide) (by rw [hc16]; decide) (by rw [hc16]; decide) (by decide) ?_
        refine lv_iconst (v := (-1)) hx hb d_WO_kindAt_171 (by decide) ?_
        have he := sm_end hs
        subst he
        exact W.iret (v := (-1)) hx hb hr (fun t ht hW => ⟨⟨(-1), (), rfl, rfl, by rw [ht]; exact hP, va_K.moved hW.alike hK, hD⟩, hS.F ht⟩) hS.2.2 d_WO_kindAt_172
      have hs := sm_neg hc16 hs
      by_cases hc17 : (x3i : Int32) = 58
      · have hs := sm_pos hc17 hs
        refine lv_tableIn (tgt := 171) (off := 132) hx hb d_WO_kindAt_39 (by rw [hc17]; decide) (by rw [hc17]; decide) (by rw [hc17]; decide) (by decide) ?_
        refine lv_iconst (v := (-1)) hx hb d_WO_kindAt_171 (by decide) ?_
        have he := sm_end hs
        subst he
        exact W.iret (v := (-1)) hx hb hr (fun t ht hW => ⟨⟨(-1), (), rfl, rfl, by rw [ht]; exact hP, va_K.moved hW.alike hK, hD⟩, hS.F ht⟩) hS.2.2 d_WO_kindAt_172
      have hs := sm_neg hc17 hs
      by_cases hc18 : (x3i : Int32) = 59
      · have hs := sm_pos hc18 hs
        refine lv_tableIn (tgt := 142) (off := 103) hx hb d_WO_kindAt_39 (by rw [hc18]; decide) (by rw [hc18]; decide) (by rw [hc18]; decide) (by decide) ?_
        refine lv_iconst (v := 5) hx hb d_WO_kindAt_142 (by decide) ?_
        have he := sm_end hs
        subst he
        exact W.iret (v := 5) hx hb hr (fun t ht hW => ⟨⟨5, (), rfl, rfl, by rw [ht]; exact hP, va_K.moved hW.alike hK, hD⟩, hS.F ht⟩) hS.2.2 d_WO_kindAt_143
      have hs := sm_neg hc18 hs
      by_cases hc19 : (x3i : Int32) = 60
      · have hs := sm_pos hc19 hs
        refine lv_tableIn (tgt := 147) (off := 108) hx hb d_WO_kindAt_39 (by rw [hc19]; decide) (by rw [hc19]; decide) (by rw [hc19]; decide) (by decide) ?_
        refine lv_iload_n hx hb d_WO_kindAt_147 rfl (lv_at hl 0 rfl) ?_
        refine lv_iconst (v := 2) hx hb d_WO_kindAt_148 (by decide) ?_
        refine lv_icmp_ne (tgt := 157) hx hb d_WO_kindAt_149 (by decide) (fun hc20 => ?_) (fun hc20 => ?_)
        · have hs := sm_neg hc20 hs
          refine lv_iconst (v := (-1)) hx hb d_WO_kindAt_157 (by decide) ?_
          exact ih.2.2.1 _ _ _ _ _ hs hP hD hS (lv_sub hl [] rfl)
        · have hs := sm_pos hc20 hs
          refine lv_bipush (v := 7) hx hb d_WO_kindAt_152 (by decide) ?_
          refine lv_goto (tgt := 158) hx hb d_WO_kindAt_154 (by decide) ?_
          exact ih.2.2.1 _ _ _ _ _ hs hP hD hS (lv_sub hl [] rfl)
      have hs := sm_neg hc19 hs
      by_cases hc21 : (x3i : Int32) = 61
      · have hs := sm_pos hc21 hs
        refine lv_tableIn (tgt := 144) (off := 105) hx hb d_WO_kindAt_39 (by rw [hc21]; decide) (by rw [hc21]; decide) (by rw [hc21]; decide) (by decide) ?_
        refine lv_bipush (v := 6) hx hb d_WO_kindAt_144 (by decide) ?_
        have he := sm_end hs
        subst he
        exact W.iret (v := 6) hx hb hr (fun t ht hW => ⟨⟨6, (), rfl, rfl, by rw [ht]; exact hP, va_K.moved hW.alike hK, hD⟩, hS.F ht⟩) hS.2.2 d_WO_kindAt_146
      have hs := sm_neg hc21 hs
      by_cases hc22 : (x3i : Int32) = 62
      · have hs := sm_pos hc22 hs
        refine lv_tableIn (tgt := 159) (off := 120) hx hb d_WO_kindAt_39 (by rw [hc22]; decide) (by rw [hc22]; decide) (by rw [hc22]; decide) (by decide) ?_
        refine lv_iload_n hx hb d_WO_kindAt_159 rfl (lv_at hl 0 rfl) ?_
        refine lv_iconst (v := 2) hx hb d_WO_kindAt_160 (by decide) ?_
        refine lv_icmp_ne (tgt := 169) hx hb d_WO_kindAt_161 (by decide) (fun hc23 => ?_) (fun hc23 => ?_)
        · have hs := sm_neg hc23 hs
          refine lv_iconst (v := (-1)) hx hb d_WO_kindAt_169 (by decide) ?_
          exact ih.2.2.2 _ _ _ _ _ hs hP hD hS (lv_sub hl [] rfl)
        · have hs := sm_pos hc23 hs
          refine lv_bipush (v := 8) hx hb d_WO_kindAt_164 (by decide) ?_
          refine lv_goto (tgt := 170) hx hb d_WO_kindAt_166 (by decide) ?_
          exact ih.2.2.2 _ _ _ _ _ hs hP hD hS (lv_sub hl [] rfl)
      have hs := sm_neg hc22 hs
      refine lv_tableOut (tgt := 171) hx hb d_WO_kindAt_39 (sw_out [42, 43, 44, 45, 46, 47, 48, 49, 50, 51, 52, 53, 54, 55, 56, 57, 58, 59, 60, 61, 62] (by decide) (by decide) (List.forall_mem_cons.mpr ⟨hc1, List.forall_mem_cons.mpr ⟨hc2, List.forall_mem_cons.mpr ⟨hc3, List.forall_mem_cons.mpr ⟨hc4, List.forall_mem_cons.mpr ⟨hc5, List.forall_mem_cons.mpr ⟨hc6, List.forall_mem_cons.mpr ⟨hc7, List.forall_mem_cons.mpr ⟨hc8, List.forall_mem_cons.mpr ⟨hc9, List.forall_mem_cons.mpr ⟨hc10, List.forall_mem_cons.mpr ⟨hc11, List.forall_mem_cons.mpr ⟨hc12, List.forall_mem_cons.mpr ⟨hc13, List.forall_mem_cons.mpr ⟨hc14, List.forall_mem_cons.mpr ⟨hc15, List.forall_mem_cons.mpr ⟨hc16, List.forall_mem_cons.mpr ⟨hc17, List.forall_mem_cons.mpr ⟨hc18, List.forall_mem_cons.mpr ⟨hc19, List.forall_mem_cons.mpr ⟨hc21, List.forall_mem_cons.mpr ⟨hc22, fun _ h9 => absurd h9 List.not_mem_nil⟩⟩⟩⟩⟩⟩⟩⟩⟩⟩⟩⟩⟩⟩⟩⟩⟩⟩⟩⟩⟩)) (by decide) ?_
      refine lv_iconst (v := (-1)) hx hb d_WO_kindAt_171 (by decide) ?_
      have he := sm_end hs
      subst he
      exact W.iret (v := (-1)) hx hb hr (fun t ht hW => ⟨⟨(-1), (), rfl, rfl, by rw [ht]; exact hP, va_K.moved hW.alike hK, hD⟩, hS.F ht⟩) hS.2.2 d_WO_kindAt_172
    · intro H locs ls x3i s0i hs hP hD hS hl
      rw [sm_it_succ, fn_WO_kindAt_q158] at hs
      unfold fn_WO_kindAt_b158 at hs
      have he := sm_end hs
      subst he
      exact W.iret (v := s0i) hx hb hr (fun t ht hW => ⟨⟨s0i, (), rfl, rfl, by rw [ht]; exact hP, va_K.moved hW.alike hK, hD⟩, hS.F ht⟩) hS.2.2 d_WO_kindAt_158
    · intro H locs ls x3i s0i hs hP hD hS hl
      rw [sm_it_succ, fn_WO_kindAt_q170] at hs
      unfold fn_WO_kindAt_b170 at hs
      have he := sm_end hs
      subst he
      exact W.iret (v := s0i) hx hb hr (fun t ht hW => ⟨⟨s0i, (), rfl, rfl, by rw [ht]; exact hP, va_K.moved hW.alike hK, hD⟩, hS.F ht⟩) hS.2.2 d_WO_kindAt_170
  · intro key
    cases k8 with
    | zero => cases hs
    | succ k9 =>
      rw [sm_it_succ, fn_WO_kindAt_q0] at hs
      unfold fn_WO_kindAt_b0 at hs
      refine lv_aload_n hx hb d_WO_kindAt_0 rfl (lv_at hl 0 rfl) ?_
      refine lv_iload_n hx hb d_WO_kindAt_1 rfl (lv_at hl 1 rfl) ?_
      obtain ⟨r1, hq1, hs⟩ := sm_bd hs
      have hPc := hP.sub (ws' := [(a_tx, .inr (1, [.ref f_tx_characters, .int v_tx_length])), (f_tx_characters, .inl (k_tx_characters, 300, .inl c_tx_characters))]) [0, 1] rfl
      have hDc := hD.sub (ws' := [(a_tx, .inr (1, [.ref f_tx_characters, .int v_tx_length])), (f_tx_characters, .inl (k_tx_characters, 300, .inl c_tx_characters))]) [0, 1] (by decide) rfl
      have hKc := hK.sub (tys' := [(k_tx_characters, .byte)]) [0] rfl
      have hFc := va_free (wc := [(a_tx, .inr (1, [.ref f_tx_characters, .int v_tx_length])), (f_tx_characters, .inl (k_tx_characters, 300, .inl c_tx_characters))]) hD hS hA [0, 1] rfl
      refine va_calli (va_runV (As := [.int a2]) (rest := []) ⟨hx, hb, hml, hown, hts⟩ (c_TX_characterAt l dC dI (a_tx) (f_tx_characters) (v_tx_length) (k_tx_characters) (c_tx_characters) (a2) s.heap.size r1 hq1) (wd_V (C := "LeastSolutions$Text") 1 hts k_367 k_2 k_364 k_365 k_366 rfl rfl (by decide +kernel) ⟨Nat.le_of_ble_eq_true rfl, Nat.le_of_ble_eq_true rfl⟩) ⟨fun a U g mk q => by obtain ⟨q0, q1, qP, qK, qD, qN⟩ := q; exact ⟨q0, q1, qP, va_K.moved (u := U) (U := U.calling g mk a) (Vm.Alike.refl U.vm) qK, qD, nw_ok.same (s := U) (U := U.calling g mk a) rfl qN⟩, va_recv (ci := 1) (q0 := 0) hK hP rfl rfl, fun U hU hW => ⟨rfl, by rw [hU], by rw [hU]; exact hPc, va_K.moved hW.alike hKc, hDc.weaken (fun _ _ _ _ => trivial), nw_ok.warm hW hN⟩⟩ rfl rfl hl.1 rfl (lv_room (Nat.le_of_ble_eq_true rfl)) d_WO_kindAt_2 ⟨Nat.le_of_ble_eq_true rfl, Nat.le_of_ble_eq_true rfl⟩) hS (fun q _ h => hFc q h) hFc (fun q1 u t H1 locs ht hvm hr1 hB hz1 hk1 hS => ?_)
      have hr1 := (show q1 = r1 from hr1).symm
      subst hr1
      obtain ⟨hP1, hK1, hD1⟩ := hB
      rw [ht] at hP1
      have hK1 := va_K.moved hvm.symm hK1
      obtain ⟨hP, hD⟩ := va_join (wr := []) (w1 := [(a_tx, .inr (1, [.ref f_tx_characters, .int v_tx_length])), (f_tx_characters, .inl (k_tx_characters, 300, .inl c_tx_characters))]) hP hD [0, 1] [] rfl rfl (by decide) (by decide) hk1 hFc hP1 hD1
      have hK := (hK.sub (tys' := []) [] rfl).app hK1
      have hK : va_K (dC, dI) cls [(k_tx_characters, .byte)] s := hK
      have hP : va_P (dC, dI) cls [(a_tx, .inr (1, [.ref f_tx_characters, .int v_tx_length])), (f_tx_characters, .inl (k_tx_characters, 300, .inl c_tx_characters))] H1 := hP
      have hD : va_D A [(a_tx, .inr (1, [.ref f_tx_characters, .int v_tx_length])), (f_tx_characters, .inl (k_tx_characters, 300, .inl c_tx_characters))] := hD
      refine lv_istore_n hx hb d_WO_kindAt_5 rfl hl (by decide) rfl (fun ls hl => ?_)
      have hl : lv_has ls 4 [(3, .int r1), (0, .ref a_tx), (1, .int a2), (2, .int a3)] := hl
      refine lv_iload_n hx hb d_WO_kindAt_6 rfl (lv_at hl 0 rfl) ?_
      obtain ⟨r2, hq2, hs⟩ := sm_bd hs
      have hPc := hP.sub (ws' := []) [] rfl
      have hDc := hD.sub (ws' := []) [] (by decide) rfl
      have hKc := hK.sub (tys' := []) [] rfl
      have hFc := va_free (wc := []) hD hS hA [] rfl
      refine va_calli (va_runS (As := [.int r1]) (rest := []) ⟨hx, hb, hml, hown, hts⟩ (c_WO_isDigit l dC dI (r1) H1.size r2 hq2) (wd_S 1 hts k_377 k_3 k_375 k_376 rfl rfl (by decide +kernel) ⟨Nat.le_of_ble_eq_true rfl, Nat.le_of_ble_eq_true rfl⟩) ⟨fun a U g mk q => by obtain ⟨q0, q1, qP, qK, qD, qN⟩ := q; exact ⟨q0, q1, qP, va_K.moved (u := U) (U := U.calling g mk a) (Vm.Alike.refl U.vm) qK, qD, nw_ok.same (s := U) (U := U.calling g mk a) rfl qN⟩, fun U hU hW => ⟨rfl, by rw [hU], by rw [hU]; exact hPc, va_K.moved hW.alike hKc, hDc.weaken (fun _ _ _ _ => trivial), nw_ok.warm hW hN⟩⟩ rfl rfl hl.1 rfl (lv_room (Nat.le_of_ble_eq_true rfl)) d_WO_kindAt_7 ⟨Nat.le_of_ble_eq_true rfl, Nat.le_of_ble_eq_true rfl⟩) hS (fun q _ h => hFc q h) hFc (fun q2 u t H2 locs ht hvm hr2 hB hz1 hk1 hS => ?_)
      have hr2 := (show q2 = r2 from hr2).symm
      subst hr2
      obtain ⟨hP1, hK1, hD1⟩ := hB
      rw [ht] at hP1
      have hK1 := va_K.moved hvm.symm hK1
      obtain ⟨hP, hD⟩ := va_join (wr := [(a_tx, .inr (1, [.ref f_tx_characters, .int v_tx_length])), (f_tx_characters, .inl (k_tx_characters, 300, .inl c_tx_characters))]) (w1 := []) hP hD [] [0, 1] rfl rfl (by decide) (by decide) hk1 hFc hP1 hD1
      have hK := (hK.sub (tys' := [(k_tx_characters, .byte)]) [0] rfl).app hK1
      have hK : va_K (dC, dI) cls [(k_tx_characters, .byte)] s := hK
      have hP : va_P (dC, dI) cls [(a_tx, .inr (1, [.ref f_tx_characters, .int v_tx_length])), (f_tx_characters, .inl (k_tx_characters, 300, .inl c_tx_characters))] H2 := hP
      have hD : va_D A [(a_tx, .inr (1, [.ref f_tx_characters, .int v_tx_length])), (f_tx_characters, .inl (k_tx_characters, 300, .inl c_tx_characters))] := hD
      refine lv_if_eq (tgt := 24) hx hb d_WO_kindAt_10 (by decide) (fun hc24 => ?_) (fun hc24 => ?_)
      · have hs := sm_pos hc24 hs
        refine lv_iload_n hx hb d_WO_kindAt_24 rfl (lv_at hl 0 rfl) ?_
        refine lv_bipush (v := 97) hx hb d_WO_kindAt_25 (by decide) ?_
        refine lv_icmp_lt (tgt := 38) hx hb d_WO_kindAt_27 (by decide) (fun hc25 => ?_) (fun hc25 => ?_)
        · have hs := sm_pos hc25 hs
          exact (key k9).2.1 _ _ _ _ _ hs hP hD hS (lv_sub hl [3, 0] rfl)
        · have hs := sm_neg hc25 hs
          refine lv_iload_n hx hb d_WO_kindAt_30 rfl (lv_at hl 0 rfl) ?_
          refine lv_bipush (v := 122) hx hb d_WO_kindAt_31 (by decide) ?_
          refine lv_icmp_gt (tgt := 38) hx hb d_WO_kindAt_33 (by decide) (fun hc26 => ?_) (fun hc26 => ?_)
          · have hs := sm_pos hc26 hs
            exact (key k9).2.1 _ _ _ _ _ hs hP hD hS (lv_sub hl [3, 0] rfl)
          · have hs := sm_neg hc26 hs
            refine lv_iconst (v := 1) hx hb d_WO_kindAt_36 (by decide) ?_
            have he := sm_end hs
            subst he
            exact W.iret (v := 1) hx hb hr (fun t ht hW => ⟨⟨1, (), rfl, rfl, by rw [ht]; exact hP, va_K.moved hW.alike hK, hD⟩, hS.F ht⟩) hS.2.2 d_WO_kindAt_37
      · have hs := sm_neg hc24 hs
        refine lv_iload_n hx hb d_WO_kindAt_13 rfl (lv_at hl 3 rfl) ?_
        refine lv_iconst (v := 4) hx hb d_WO_kindAt_14 (by decide) ?_
        refine lv_icmp_gt (tgt := 22) hx hb d_WO_kindAt_15 (by decide) (fun hc27 => ?_) (fun hc27 => ?_)
        · have hs := sm_pos hc27 hs
          refine lv_iconst (v := (-1)) hx hb d_WO_kindAt_22 (by decide) ?_
          exact (key k9).1 _ _ _ _ _ hs hP hD hS (lv_sub hl [] rfl)
        · have hs := sm_neg hc27 hs
          refine lv_iconst (v := 0) hx hb d_WO_kindAt_18 (by decide) ?_
          refine lv_goto (tgt := 23) hx hb d_WO_kindAt_19 (by decide) ?_
          exact (key k9).1 _ _ _ _ _ hs hP hD hS (lv_sub hl [] rfl)

noncomputable def fn_WO_isRelation_b0 (a1 : Int32) (_z0 : Int32) : Option ((Nat × Int32) ⊕ (Int32)) := if (a1 : Int32) = 6 then (some (.inl (18, 0))) else (if (a1 : Int32) = 7 then (some (.inl (18, 0))) else (if (a1 : Int32) = 8 then (some (.inl (18, 0))) else (some (.inl (23, 0)))))
noncomputable def fn_WO_isRelation_b18 (a1 : Int32) (s0i : Int32) : Option ((Nat × Int32) ⊕ (Int32)) := some (.inl (23, 1))
noncomputable def fn_WO_isRelation_b23 (a1 : Int32) (s0i : Int32) : Option ((Nat × Int32) ⊕ (Int32)) := if ((s0i : Int32) = 0 ∨ (s0i : Int32) = 1) then some (.inr s0i) else none
noncomputable def fn_WO_isRelation (a1 : Int32) : Nat × Int32 → Option ((Nat × Int32) ⊕ (Int32)) := fun st => match st with
  | (pc, s0i) => if pc = 0 then fn_WO_isRelation_b0 a1 s0i else if pc = 18 then fn_WO_isRelation_b18 a1 s0i else if pc = 23 then fn_WO_isRelation_b23 a1 s0i else none
theorem fn_WO_isRelation_q0 (a1 : Int32) (s0i : Int32) : fn_WO_isRelation a1 (0, s0i) = fn_WO_isRelation_b0 a1 s0i := by simp [fn_WO_isRelation]
theorem fn_WO_isRelation_q18 (a1 : Int32) (s0i : Int32) : fn_WO_isRelation a1 (18, s0i) = fn_WO_isRelation_b18 a1 s0i := by simp [fn_WO_isRelation]
theorem fn_WO_isRelation_q23 (a1 : Int32) (s0i : Int32) : fn_WO_isRelation a1 (23, s0i) = fn_WO_isRelation_b23 a1 s0i := by simp [fn_WO_isRelation]
set_option maxHeartbeats 4000000 in
set_option maxRecDepth 100000 in
theorem c_WO_isRelation (l : Launch) (dC : Nat → ClassId) (dI : Nat → Nat → Nat) (a1 : Int32) (sz : Nat) (out : Int32) (hs : sm_tot (fn_WO_isRelation a1) (0, 0) = some out) : Met l y_WO_isRelation (Cond.code y_WO_isRelation b_WO_isRelation 1 (Option.some Jvm.ClassFile.FieldType.boolean) :: wd) { frames := 0, cells := 0, slots := 0, locals := 0 } (va_Pc [.int a1] (fun U => U.heap.size = sz ∧ va_P (dC, dI) cls [] U.heap ∧ va_K (dC, dI) cls [] U ∧ va_D (fun _ => True) [] ∧ nw_ok U)) (va_Qi (fun r (_ : Unit) => r = out) (fun (_ : Unit) t => va_P (dC, dI) cls [] t.heap ∧ va_K (dC, dI) cls [] t ∧ va_D (va_A [] sz) []) (va_A [] sz)) 0 0 (va_A [] sz) := by
  refine Met.ofW (cc := b_WO_isRelation) (maxL := 1) (ret := (Option.some Jvm.ClassFile.FieldType.boolean)) (by decide) rfl ?_
  intro p e s m args below meth c s₁ B hml hv
  obtain ⟨rfl, hsz, hP, hK, hD0, hN⟩ := hv
  have hx := B.exec
  have hb := B.bytes
  have hr := B.returns
  have hlocks := B.notSynchronized
  have hts : ∀ w ∈ wd, w.before ([.int a1] : List Value).toArray s = true := fun w hw => atoms_spec (ws := (Cond.code y_WO_isRelation b_WO_isRelation 1 (Option.some Jvm.ClassFile.FieldType.boolean) :: wd)) B.pre w (List.mem_cons_of_mem _ hw)
  have hown : s.vm.findClass "LeastSolutions$Words" = some m.cls := findClass_of_methodNamed B.named
  subst hsz
  have hD := hD0.self (sz := s.heap.size)
  generalize hAe : va_A [] s.heap.size = A at hD ⊢
  have hA : ∀ q : Nat, s.heap.size ≤ q → A q := fun q h => by rw [← hAe]; exact Or.inr h
  have hS : va_S A s.heap s.heap [] := va_S.rf
  have hl := lv_entry ([.int a1]) (n := 1) (Nat.le_of_ble_eq_true rfl)
  rw [lg_entry_eq]
  generalize (lg_sl ([.int a1]) ++ List.replicate (1 - (lg_sl ([.int a1])).length) Slot.unset).toArray = ls at hl ⊢
  have hl : lv_has ls 1 [(0, .int a1)] := hl
  obtain ⟨k8, hs⟩ := sm_of hs
  refine sm_key (fun R Q k9 => (∀ (H : Heap) (locs : List Loc) (ls : Array Slot) (s0i : Int32), sm_it (fn_WO_isRelation a1) k9 (18, s0i) = some out → va_P (dC, dI) cls [] H → va_D A [] → va_S A s.heap H locs → lv_has ls 1 [] → W p l e R s m ([.int a1] : List Value).toArray below meth c H locs 0 0 Q (F0 m 18 ls [])) ∧ (∀ (H : Heap) (locs : List Loc) (ls : Array Slot) (s0i : Int32), sm_it (fn_WO_isRelation a1) k9 (23, s0i) = some out → va_P (dC, dI) cls [] H → va_D A [] → va_S A s.heap H locs → lv_has ls 1 [] → W p l e R s m ([.int a1] : List Value).toArray below meth c H locs 0 0 Q (F0 m 23 ls [.int s0i]))) ?_ ?_ ?_
  · exact ⟨(fun _ _ _ _ hs => by cases hs), (fun _ _ _ _ hs => by cases hs)⟩
  · intro k9 ih
    refine ⟨?_, ?_⟩
    · intro H locs ls s0i hs hP hD hS hl
      rw [sm_it_succ, fn_WO_isRelation_q18] at hs
      unfold fn_WO_isRelation_b18 at hs
      refine lv_iconst (v := 1) hx hb d_WO_isRelation_18 (by decide) ?_
      refine lv_goto (tgt := 23) hx hb d_WO_isRelation_19 (by decide) ?_
      exact ih.2 _ _ _ _ hs hP hD hS (lv_sub hl [] rfl)
    · intro H locs ls s0i hs hP hD hS hl
      rw [sm_it_succ, fn_WO_isRelation_q23] at hs
      unfold fn_WO_isRelation_b23 at hs
      obtain ⟨hg1, hs⟩ := sm_gd hs
      have he := sm_end hs
      subst he
      exact W.zret (v := s0i) (ty := .boolean) hx hb hr (by rcases hg1 with h9 | h9 <;> rw [h9] <;> rfl) (fun t ht hW => ⟨⟨s0i, (), rfl, rfl, by rw [ht]; exact hP, va_K.moved hW.alike hK, hD⟩, hS.F ht⟩) hS.2.2 d_WO_isRelation_23
  · intro key
    cases k8 with
    | zero => cases hs
    | succ k9 =>
      rw [sm_it_succ, fn_WO_isRelation_q0] at hs
      unfold fn_WO_isRelation_b0 at hs
      refine lv_iload_n hx hb d_WO_isRelation_0 rfl (lv_at hl 0 rfl) ?_
      refine lv_bipush (v := 6) hx hb d_WO_isRelation_1 (by decide) ?_
      refine lv_icmp_eq (tgt := 18) hx hb d_WO_isRelation_3 (by decide) (fun hc1 => ?_) (fun hc1 => ?_)
      · have hs := sm_pos hc1 hs
        exact (key k9).1 _ _ _ _ hs hP hD hS (lv_sub hl [] rfl)
      · have hs := sm_neg hc1 hs
        refine lv_iload_n hx hb d_WO_isRelation_6 rfl (lv_at hl 0 rfl) ?_
        refine lv_bipush (v := 7) hx hb d_WO_isRelation_7 (by decide) ?_
        refine lv_icmp_eq (tgt := 18) hx hb d_WO_isRelation_9 (by decide) (fun hc2 => ?_) (fun hc2 => ?_)
        · have hs := sm_pos hc2 hs
          exact (key k9).1 _ _ _ _ hs hP hD hS (lv_sub hl [] rfl)
        · have hs := sm_neg hc2 hs
          refine lv_iload_n hx hb d_WO_isRelation_12 rfl (lv_at hl 0 rfl) ?_
          refine lv_bipush (v := 8) hx hb d_WO_isRelation_13 (by decide) ?_
          refine lv_icmp_ne (tgt := 22) hx hb d_WO_isRelation_15 (by decide) (fun hc3 => ?_) (fun hc3 => ?_)
          · have hs := sm_neg hc3 hs
            refine lv_iconst (v := 0) hx hb d_WO_isRelation_22 (by decide) ?_
            exact (key k9).2 _ _ _ _ hs hP hD hS (lv_sub hl [] rfl)
          · have hs := sm_pos hc3 hs
            exact (key k9).1 _ _ _ _ hs hP hD hS (lv_sub hl [] rfl)

noncomputable def fn_WO_isSumWhole_b0 (v_wo_state : Int32) (_z0 : Int32) : Option ((Nat × Int32) ⊕ (Int32)) := if (v_wo_state : Int32) = 2 then (some (.inl (16, 0))) else (if (v_wo_state : Int32) = 4 then (some (.inl (16, 0))) else (some (.inl (21, 0))))
noncomputable def fn_WO_isSumWhole_b16 (v_wo_state : Int32) (s0i : Int32) : Option ((Nat × Int32) ⊕ (Int32)) := some (.inl (21, 1))
noncomputable def fn_WO_isSumWhole_b21 (v_wo_state : Int32) (s0i : Int32) : Option ((Nat × Int32) ⊕ (Int32)) := if ((s0i : Int32) = 0 ∨ (s0i : Int32) = 1) then some (.inr s0i) else none
noncomputable def fn_WO_isSumWhole (v_wo_state : Int32) : Nat × Int32 → Option ((Nat × Int32) ⊕ (Int32)) := fun st => match st with
  | (pc, s0i) => if pc = 0 then fn_WO_isSumWhole_b0 v_wo_state s0i else if pc = 16 then fn_WO_isSumWhole_b16 v_wo_state s0i else if pc = 21 then fn_WO_isSumWhole_b21 v_wo_state s0i else none
theorem fn_WO_isSumWhole_q0 (v_wo_state : Int32) (s0i : Int32) : fn_WO_isSumWhole v_wo_state (0, s0i) = fn_WO_isSumWhole_b0 v_wo_state s0i := by simp [fn_WO_isSumWhole]
theorem fn_WO_isSumWhole_q16 (v_wo_state : Int32) (s0i : Int32) : fn_WO_isSumWhole v_wo_state (16, s0i) = fn_WO_isSumWhole_b16 v_wo_state s0i := by simp [fn_WO_isSumWhole]
theorem fn_WO_isSumWhole_q21 (v_wo_state : Int32) (s0i : Int32) : fn_WO_isSumWhole v_wo_state (21, s0i) = fn_WO_isSumWhole_b21 v_wo_state s0i := by simp [fn_WO_isSumWhole]
set_option maxHeartbeats 4000000 in
set_option maxRecDepth 100000 in
theorem c_WO_isSumWhole (l : Launch) (dC : Nat → ClassId) (dI : Nat → Nat → Nat) (a_wo : Nat) (f_wo_kinds : Nat) (f_wo_places : Nat) (f_wo_values : Nat) (v_wo_total : Int32) (v_wo_state : Int32) (v_wo_isRightSide : Int32) (v_wo_faultPlace : Int32) (sz : Nat) (out : Int32) (hs : sm_tot (fn_WO_isSumWhole v_wo_state) (0, 0) = some out) : Met l y_WO_isSumWhole (Cond.code y_WO_isSumWhole b_WO_isSumWhole 1 (Option.some Jvm.ClassFile.FieldType.boolean) :: wd) { frames := 0, cells := 0, slots := 0, locals := 0 } (va_Pc [.ref a_wo] (fun U => U.heap.size = sz ∧ va_P (dC, dI) cls [(a_wo, .inr (2, [.ref f_wo_kinds, .ref f_wo_places, .ref f_wo_values, .int v_wo_total, .int v_wo_state, .int v_wo_isRightSide, .int v_wo_faultPlace]))] U.heap ∧ va_K (dC, dI) cls [] U ∧ va_D (fun _ => True) [(a_wo, .inr (2, [.ref f_wo_kinds, .ref f_wo_places, .ref f_wo_values, .int v_wo_total, .int v_wo_state, .int v_wo_isRightSide, .int v_wo_faultPlace]))] ∧ nw_ok U)) (va_Qi (fun r (_ : Unit) => r = out) (fun (_ : Unit) t => va_P (dC, dI) cls [(a_wo, .inr (2, [.ref f_wo_kinds, .ref f_wo_places, .ref f_wo_values, .int v_wo_total, .int v_wo_state, .int v_wo_isRightSide, .int v_wo_faultPlace]))] t.heap ∧ va_K (dC, dI) cls [] t ∧ va_D (va_A [(a_wo, .inr (2, [.ref f_wo_kinds, .ref f_wo_places, .ref f_wo_values, .int v_wo_total, .int v_wo_state, .int v_wo_isRightSide, .int v_wo_faultPlace]))] sz) [(a_wo, .inr (2, [.ref f_wo_kinds, .ref f_wo_places, .ref f_wo_values, .int v_wo_total, .int v_wo_state, .int v_wo_isRightSide, .int v_wo_faultPlace]))]) (va_A [(a_wo, .inr (2, [.ref f_wo_kinds, .ref f_wo_places, .ref f_wo_values, .int v_wo_total, .int v_wo_state, .int v_wo_isRightSide, .int v_wo_faultPlace]))] sz)) 0 0 (va_A [(a_wo, .inr (2, [.ref f_wo_kinds, .ref f_wo_places, .ref f_wo_values, .int v_wo_total, .int v_wo_state, .int v_wo_isRightSide, .int v_wo_faultPlace]))] sz) := by
  refine Met.ofW (cc := b_WO_isSumWhole) (maxL := 1) (ret := (Option.some Jvm.ClassFile.FieldType.boolean)) (by decide) rfl ?_
  intro p e s m args below meth c s₁ B hml hv
  obtain ⟨rfl, hsz, hP, hK, hD0, hN⟩ := hv
  have hx := B.exec
  have hb := B.bytes
  have hr := B.returns
  have hlocks := B.notSynchronized
  have hts : ∀ w ∈ wd, w.before ([.ref a_wo] : List Value).toArray s = true := fun w hw => atoms_spec (ws := (Cond.code y_WO_isSumWhole b_WO_isSumWhole 1 (Option.some Jvm.ClassFile.FieldType.boolean) :: wd)) B.pre w (List.mem_cons_of_mem _ hw)
  have hown : s.vm.findClass "LeastSolutions$Words" = some m.cls := findClass_of_methodNamed B.named
  subst hsz
  have hD := hD0.self (sz := s.heap.size)
  generalize hAe : va_A [(a_wo, .inr (2, [.ref f_wo_kinds, .ref f_wo_places, .ref f_wo_values, .int v_wo_total, .int v_wo_state, .int v_wo_isRightSide, .int v_wo_faultPlace]))] s.heap.size = A at hD ⊢
  have hA : ∀ q : Nat, s.heap.size ≤ q → A q := fun q h => by rw [← hAe]; exact Or.inr h
  have hS : va_S A s.heap s.heap [] := va_S.rf
  have hl := lv_entry ([.ref a_wo]) (n := 1) (Nat.le_of_ble_eq_true rfl)
  rw [lg_entry_eq]
  generalize (lg_sl ([.ref a_wo]) ++ List.replicate (1 - (lg_sl ([.ref a_wo])).length) Slot.unset).toArray = ls at hl ⊢
  have hl : lv_has ls 1 [(0, .ref a_wo)] := hl
  obtain ⟨k8, hs⟩ := sm_of hs
  refine sm_key (fun R Q k9 => (∀ (H : Heap) (locs : List Loc) (ls : Array Slot) (s0i : Int32), sm_it (fn_WO_isSumWhole v_wo_state) k9 (16, s0i) = some out → va_P (dC, dI) cls [(a_wo, .inr (2, [.ref f_wo_kinds, .ref f_wo_places, .ref f_wo_values, .int v_wo_total, .int v_wo_state, .int v_wo_isRightSide, .int v_wo_faultPlace]))] H → va_D A [(a_wo, .inr (2, [.ref f_wo_kinds, .ref f_wo_places, .ref f_wo_values, .int v_wo_total, .int v_wo_state, .int v_wo_isRightSide, .int v_wo_faultPlace]))] → va_S A s.heap H locs → lv_has ls 1 [] → W p l e R s m ([.ref a_wo] : List Value).toArray below meth c H locs 0 0 Q (F0 m 16 ls [])) ∧ (∀ (H : Heap) (locs : List Loc) (ls : Array Slot) (s0i : Int32), sm_it (fn_WO_isSumWhole v_wo_state) k9 (21, s0i) = some out → va_P (dC, dI) cls [(a_wo, .inr (2, [.ref f_wo_kinds, .ref f_wo_places, .ref f_wo_values, .int v_wo_total, .int v_wo_state, .int v_wo_isRightSide, .int v_wo_faultPlace]))] H → va_D A [(a_wo, .inr (2, [.ref f_wo_kinds, .ref f_wo_places, .ref f_wo_values, .int v_wo_total, .int v_wo_state, .int v_wo_isRightSide, .int v_wo_faultPlace]))] → va_S A s.heap H locs → lv_has ls 1 [] → W p l e R s m ([.ref a_wo] : List Value).toArray below meth c H locs 0 0 Q (F0 m 21 ls [.int s0i]))) ?_ ?_ ?_
  · exact ⟨(fun _ _ _ _ hs => by cases hs), (fun _ _ _ _ hs => by cases hs)⟩
  · intro k9 ih
    refine ⟨?_, ?_⟩
    · intro H locs ls s0i hs hP hD hS hl
      rw [sm_it_succ, fn_WO_isSumWhole_q16] at hs
      unfold fn_WO_isSumWhole_b16 at hs
      refine lv_iconst (v := 1) hx hb d_WO_isSumWhole_16 (by decide) ?_
      refine lv_goto (tgt := 21) hx hb d_WO_isSumWhole_17 (by decide) ?_
      exact ih.2 _ _ _ _ hs hP hD hS (lv_sub hl [] rfl)
    · intro H locs ls s0i hs hP hD hS hl
      rw [sm_it_succ, fn_WO_isSumWhole_q21] at hs
      unfold fn_WO_isSumWhole_b21 at hs
      obtain ⟨hg1, hs⟩ := sm_gd hs
      have he := sm_end hs
      subst he
      exact W.zret (v := s0i) (ty := .boolean) hx hb hr (by rcases hg1 with h9 | h9 <;> rw [h9] <;> rfl) (fun t ht hW => ⟨⟨s0i, (), rfl, rfl, by rw [ht]; exact hP, va_K.moved hW.alike hK, hD⟩, hS.F ht⟩) hS.2.2 d_WO_isSumWhole_21
  · intro key
    cases k8 with
    | zero => cases hs
    | succ k9 =>
      rw [sm_it_succ, fn_WO_isSumWhole_q0] at hs
      unfold fn_WO_isSumWhole_b0 at hs
      refine lv_aload_n hx hb d_WO_isSumWhole_0 rfl (lv_at hl 0 rfl) ?_
      refine va_get (D := (dC, dI)) (ci := 2) (v := .int v_wo_state) (C := R_WO) (T := T_WO) (N := 7) hx hb hts in_WO hown hK hP 0 rfl rfl 4 (by decide) (hts _ k_60) (fun _ h9 => h9) rfl d_WO_isSumWhole_1 ?_
      refine lv_iconst (v := 2) hx hb d_WO_isSumWhole_4 (by decide) ?_
      refine lv_icmp_eq (tgt := 16) hx hb d_WO_isSumWhole_5 (by decide) (fun hc1 => ?_) (fun hc1 => ?_)
      · have hs := sm_pos hc1 hs
        exact (key k9).1 _ _ _ _ hs hP hD hS (lv_sub hl [] rfl)
      · have hs := sm_neg hc1 hs
        refine lv_aload_n hx hb d_WO_isSumWhole_8 rfl (lv_at hl 0 rfl) ?_
        refine va_get (D := (dC, dI)) (ci := 2) (v := .int v_wo_state) (C := R_WO) (T := T_WO) (N := 7) hx hb hts in_WO hown hK hP 0 rfl rfl 4 (by decide) (hts _ k_60) (fun _ h9 => h9) rfl d_WO_isSumWhole_9 ?_
        refine lv_iconst (v := 4) hx hb d_WO_isSumWhole_12 (by decide) ?_
        refine lv_icmp_ne (tgt := 20) hx hb d_WO_isSumWhole_13 (by decide) (fun hc2 => ?_) (fun hc2 => ?_)
        · have hs := sm_neg hc2 hs
          refine lv_iconst (v := 0) hx hb d_WO_isSumWhole_20 (by decide) ?_
          exact (key k9).2 _ _ _ _ hs hP hD hS (lv_sub hl [] rfl)
        · have hs := sm_pos hc2 hs
          exact (key k9).1 _ _ _ _ hs hP hD hS (lv_sub hl [] rfl)

noncomputable def fn_WO_stateAfter_b0 (a1 : Int32) (v_wo_state : Int32) (v_wo_isRightSide : Int32) (_z0 : Int32) : Option ((Nat × Int32) ⊕ (Int32)) := if (a1 : Int32) = 0 then (if (v_wo_state : Int32) = 0 then (some (.inl (67, 0))) else (if (v_wo_state : Int32) = 1 then (some (.inl (67, 0))) else (some (.inl (72, (-1)))))) else (if (a1 : Int32) = 1 then (if (v_wo_state : Int32) = 4 then (some (.inl (86, (-1)))) else (some (.inl (86, 4)))) else (if (a1 : Int32) = 2 then ((sm_tot (fn_WO_isSumWhole v_wo_state) (0, 0)).bind (fun r1 => if (r1 : Int32) = 0 then (some (.inl (99, (-1)))) else (some (.inl (99, 1))))) else (if (a1 : Int32) = 3 then ((sm_tot (fn_WO_isSumWhole v_wo_state) (0, 0)).bind (fun r2 => if (r2 : Int32) = 0 then (if (v_wo_state : Int32) = 0 then (some (.inl (114, 0))) else (some (.inl (119, (-1))))) else (some (.inl (114, 0))))) else (if (a1 : Int32) = 4 then (if (v_wo_state : Int32) = 2 then (some (.inl (133, 3))) else (some (.inl (133, (-1))))) else (if (a1 : Int32) = 5 then ((sm_tot (fn_WO_isSumWhole v_wo_state) (0, 0)).bind (fun r3 => if (r3 : Int32) = 0 then (some (.inl (152, 0))) else (if (v_wo_isRightSide : Int32) = 0 then (some (.inl (152, 0))) else (some (.inl (153, 0)))))) else (if (a1 : Int32) = 6 then ((sm_tot (fn_WO_isSumWhole v_wo_state) (0, 0)).bind (fun r4 => if (r4 : Int32) = 0 then (some (.inl (172, 0))) else (if (v_wo_isRightSide : Int32) = 0 then (some (.inl (173, 0))) else (some (.inl (172, 0)))))) else (if (a1 : Int32) = 7 then ((sm_tot (fn_WO_isSumWhole v_wo_state) (0, 0)).bind (fun r5 => if (r5 : Int32) = 0 then (some (.inl (172, 0))) else (if (v_wo_isRightSide : Int32) = 0 then (some (.inl (173, 0))) else (some (.inl (172, 0)))))) else (if (a1 : Int32) = 8 then ((sm_tot (fn_WO_isSumWhole v_wo_state) (0, 0)).bind (fun r6 => if (r6 : Int32) = 0 then (some (.inl (172, 0))) else (if (v_wo_isRightSide : Int32) = 0 then (some (.inl (173, 0))) else (some (.inl (172, 0)))))) else (some (.inr (-1)))))))))))
noncomputable def fn_WO_stateAfter_b67 (a1 : Int32) (v_wo_state : Int32) (v_wo_isRightSide : Int32) (s0i : Int32) : Option ((Nat × Int32) ⊕ (Int32)) := some (.inl (72, 2))
noncomputable def fn_WO_stateAfter_b72 (a1 : Int32) (v_wo_state : Int32) (v_wo_isRightSide : Int32) (s0i : Int32) : Option ((Nat × Int32) ⊕ (Int32)) := some (.inr s0i)
noncomputable def fn_WO_stateAfter_b86 (a1 : Int32) (v_wo_state : Int32) (v_wo_isRightSide : Int32) (s0i : Int32) : Option ((Nat × Int32) ⊕ (Int32)) := some (.inr s0i)
noncomputable def fn_WO_stateAfter_b99 (a1 : Int32) (v_wo_state : Int32) (v_wo_isRightSide : Int32) (s0i : Int32) : Option ((Nat × Int32) ⊕ (Int32)) := some (.inr s0i)
noncomputable def fn_WO_stateAfter_b114 (a1 : Int32) (v_wo_state : Int32) (v_wo_isRightSide : Int32) (s0i : Int32) : Option ((Nat × Int32) ⊕ (Int32)) := some (.inl (119, 1))
noncomputable def fn_WO_stateAfter_b119 (a1 : Int32) (v_wo_state : Int32) (v_wo_isRightSide : Int32) (s0i : Int32) : Option ((Nat × Int32) ⊕ (Int32)) := some (.inr s0i)
noncomputable def fn_WO_stateAfter_b133 (a1 : Int32) (v_wo_state : Int32) (v_wo_isRightSide : Int32) (s0i : Int32) : Option ((Nat × Int32) ⊕ (Int32)) := some (.inr s0i)
noncomputable def fn_WO_stateAfter_b152 (a1 : Int32) (v_wo_state : Int32) (v_wo_isRightSide : Int32) (s0i : Int32) : Option ((Nat × Int32) ⊕ (Int32)) := some (.inl (153, (-1)))
noncomputable def fn_WO_stateAfter_b153 (a1 : Int32) (v_wo_state : Int32) (v_wo_isRightSide : Int32) (s0i : Int32) : Option ((Nat × Int32) ⊕ (Int32)) := some (.inr s0i)
noncomputable def fn_WO_stateAfter_b172 (a1 : Int32) (v_wo_state : Int32) (v_wo_isRightSide : Int32) (s0i : Int32) : Option ((Nat × Int32) ⊕ (Int32)) := some (.inl (173, (-1)))
noncomputable def fn_WO_stateAfter_b173 (a1 : Int32) (v_wo_state : Int32) (v_wo_isRightSide : Int32) (s0i : Int32) : Option ((Nat × Int32) ⊕ (Int32)) := some (.inr s0i)
noncomputable def fn_WO_stateAfter (a1 : Int32) (v_wo_state : Int32) (v_wo_isRightSide : Int32) : Nat × Int32 → Option ((Nat × Int32) ⊕ (Int32)) := fun st => match st with
  | (pc, s0i) => if pc = 0 then fn_WO_stateAfter_b0 a1 v_wo_state v_wo_isRightSide s0i else if pc = 67 then fn_WO_stateAfter_b67 a1 v_wo_state v_wo_isRightSide s0i else if pc = 72 then fn_WO_stateAfter_b72 a1 v_wo_state v_wo_isRightSide s0i else if pc = 86 then fn_WO_stateAfter_b86 a1 v_wo_state v_wo_isRightSide s0i else if pc = 99 then fn_WO_stateAfter_b99 a1 v_wo_state v_wo_isRightSide s0i else if pc = 114 then fn_WO_stateAfter_b114 a1 v_wo_state v_wo_isRightSide s0i else if pc = 119 then fn_WO_stateAfter_b119 a1 v_wo_state v_wo_isRightSide s0i else if pc = 133 then fn_WO_stateAfter_b133 a1 v_wo_state v_wo_isRightSide s0i else if pc = 152 then fn_WO_stateAfter_b152 a1 v_wo_state v_wo_isRightSide s0i else if pc = 153 then fn_WO_stateAfter_b153 a1 v_wo_state v_wo_isRightSide s0i else if pc = 172 then fn_WO_stateAfter_b172 a1 v_wo_state v_wo_isRightSide s0i else if pc = 173 then fn_WO_stateAfter_b173 a1 v_wo_state v_wo_isRightSide s0i else none
theorem fn_WO_stateAfter_q0 (a1 : Int32) (v_wo_state : Int32) (v_wo_isRightSide : Int32) (s0i : Int32) : fn_WO_stateAfter a1 v_wo_state v_wo_isRightSide (0, s0i) = fn_WO_stateAfter_b0 a1 v_wo_state v_wo_isRightSide s0i := by simp [fn_WO_stateAfter]
theorem fn_WO_stateAfter_q67 (a1 : Int32) (v_wo_state : Int32) (v_wo_isRightSide : Int32) (s0i : Int32) : fn_WO_stateAfter a1 v_wo_state v_wo_isRightSide (67, s0i) = fn_WO_stateAfter_b67 a1 v_wo_state v_wo_isRightSide s0i := by simp [fn_WO_stateAfter]
theorem fn_WO_stateAfter_q72 (a1 : Int32) (v_wo_state : Int32) (v_wo_isRightSide : Int32) (s0i : Int32) : fn_WO_stateAfter a1 v_wo_state v_wo_isRightSide (72, s0i) = fn_WO_stateAfter_b72 a1 v_wo_state v_wo_isRightSide s0i := by simp [fn_WO_stateAfter]
theorem fn_WO_stateAfter_q86 (a1 : Int32) (v_wo_state : Int32) (v_wo_isRightSide : Int32) (s0i : Int32) : fn_WO_stateAfter a1 v_wo_state v_wo_isRightSide (86, s0i) = fn_WO_stateAfter_b86 a1 v_wo_state v_wo_isRightSide s0i := by simp [fn_WO_stateAfter]
theorem fn_WO_stateAfter_q99 (a1 : Int32) (v_wo_state : Int32) (v_wo_isRightSide : Int32) (s0i : Int32) : fn_WO_stateAfter a1 v_wo_state v_wo_isRightSide (99, s0i) = fn_WO_stateAfter_b99 a1 v_wo_state v_wo_isRightSide s0i := by simp [fn_WO_stateAfter]
theorem fn_WO_stateAfter_q114 (a1 : Int32) (v_wo_state : Int32) (v_wo_isRightSide : Int32) (s0i : Int32) : fn_WO_stateAfter a1 v_wo_state v_wo_isRightSide (114, s0i) = fn_WO_stateAfter_b114 a1 v_wo_state v_wo_isRightSide s0i := by simp [fn_WO_stateAfter]
theorem fn_WO_stateAfter_q119 (a1 : Int32) (v_wo_state : Int32) (v_wo_isRightSide : Int32) (s0i : Int32) : fn_WO_stateAfter a1 v_wo_state v_wo_isRightSide (119, s0i) = fn_WO_stateAfter_b119 a1 v_wo_state v_wo_isRightSide s0i := by simp [fn_WO_stateAfter]
theorem fn_WO_stateAfter_q133 (a1 : Int32) (v_wo_state : Int32) (v_wo_isRightSide : Int32) (s0i : Int32) : fn_WO_stateAfter a1 v_wo_state v_wo_isRightSide (133, s0i) = fn_WO_stateAfter_b133 a1 v_wo_state v_wo_isRightSide s0i := by simp [fn_WO_stateAfter]
theorem fn_WO_stateAfter_q152 (a1 : Int32) (v_wo_state : Int32) (v_wo_isRightSide : Int32) (s0i : Int32) : fn_WO_stateAfter a1 v_wo_state v_wo_isRightSide (152, s0i) = fn_WO_stateAfter_b152 a1 v_wo_state v_wo_isRightSide s0i := by simp [fn_WO_stateAfter]
theorem fn_WO_stateAfter_q153 (a1 : Int32) (v_wo_state : Int32) (v_wo_isRightSide : Int32) (s0i : Int32) : fn_WO_stateAfter a1 v_wo_state v_wo_isRightSide (153, s0i) = fn_WO_stateAfter_b153 a1 v_wo_state v_wo_isRightSide s0i := by simp [fn_WO_stateAfter]
theorem fn_WO_stateAfter_q172 (a1 : Int32) (v_wo_state : Int32) (v_wo_isRightSide : Int32) (s0i : Int32) : fn_WO_stateAfter a1 v_wo_state v_wo_isRightSide (172, s0i) = fn_WO_stateAfter_b172 a1 v_wo_state v_wo_isRightSide s0i := by simp [fn_WO_stateAfter]
theorem fn_WO_stateAfter_q173 (a1 : Int32) (v_wo_state : Int32) (v_wo_isRightSide : Int32) (s0i : Int32) : fn_WO_stateAfter a1 v_wo_state v_wo_isRightSide (173, s0i) = fn_WO_stateAfter_b173 a1 v_wo_state v_wo_isRightSide s0i := by simp [fn_WO_stateAfter]
set_option maxHeartbeats 4000000 in
set_option maxRecDepth 100000 in
theorem c_WO_stateAfter (l : Launch) (dC : Nat → ClassId) (dI : Nat → Nat → Nat) (a_wo : Nat) (f_wo_kinds : Nat) (f_wo_places : Nat) (f_wo_values : Nat) (v_wo_total : Int32) (v_wo_state : Int32) (v_wo_isRightSide : Int32) (v_wo_faultPlace : Int32) (a1 : Int32) (sz : Nat) (out : Int32) (hs : sm_tot (fn_WO_stateAfter a1 v_wo_state v_wo_isRightSide) (0, 0) = some out) : Met l y_WO_stateAfter (Cond.code y_WO_stateAfter b_WO_stateAfter 2 (Option.some Jvm.ClassFile.FieldType.int) :: wd) { frames := 1, cells := 0, slots := 0, locals := 20 } (va_Pc [.ref a_wo, .int a1] (fun U => U.heap.size = sz ∧ va_P (dC, dI) cls [(a_wo, .inr (2, [.ref f_wo_kinds, .ref f_wo_places, .ref f_wo_values, .int v_wo_total, .int v_wo_state, .int v_wo_isRightSide, .int v_wo_faultPlace]))] U.heap ∧ va_K (dC, dI) cls [] U ∧ va_D (fun _ => True) [(a_wo, .inr (2, [.ref f_wo_kinds, .ref f_wo_places, .ref f_wo_values, .int v_wo_total, .int v_wo_state, .int v_wo_isRightSide, .int v_wo_faultPlace]))] ∧ nw_ok U)) (va_Qi (fun r (_ : Unit) => r = out) (fun (_ : Unit) t => va_P (dC, dI) cls [(a_wo, .inr (2, [.ref f_wo_kinds, .ref f_wo_places, .ref f_wo_values, .int v_wo_total, .int v_wo_state, .int v_wo_isRightSide, .int v_wo_faultPlace]))] t.heap ∧ va_K (dC, dI) cls [] t ∧ va_D (va_A [(a_wo, .inr (2, [.ref f_wo_kinds, .ref f_wo_places, .ref f_wo_values, .int v_wo_total, .int v_wo_state, .int v_wo_isRightSide, .int v_wo_faultPlace]))] sz) [(a_wo, .inr (2, [.ref f_wo_kinds, .ref f_wo_places, .ref f_wo_values, .int v_wo_total, .int v_wo_state, .int v_wo_isRightSide, .int v_wo_faultPlace]))]) (va_A [(a_wo, .inr (2, [.ref f_wo_kinds, .ref f_wo_places, .ref f_wo_values, .int v_wo_total, .int v_wo_state, .int v_wo_isRightSide, .int v_wo_faultPlace]))] sz)) 0 0 (va_A [(a_wo, .inr (2, [.ref f_wo_kinds, .ref f_wo_places, .ref f_wo_values, .int v_wo_total, .int v_wo_state, .int v_wo_isRightSide, .int v_wo_faultPlace]))] sz) := by
  refine Met.ofW (cc := b_WO_stateAfter) (maxL := 2) (ret := (Option.some Jvm.ClassFile.FieldType.int)) (by decide) rfl ?_
  intro p e s m args below meth c s₁ B hml hv
  obtain ⟨rfl, hsz, hP, hK, hD0, hN⟩ := hv
  have hx := B.exec
  have hb := B.bytes
  have hr := B.returns
  have hlocks := B.notSynchronized
  have hts : ∀ w ∈ wd, w.before ([.ref a_wo, .int a1] : List Value).toArray s = true := fun w hw => atoms_spec (ws := (Cond.code y_WO_stateAfter b_WO_stateAfter 2 (Option.some Jvm.ClassFile.FieldType.int) :: wd)) B.pre w (List.mem_cons_of_mem _ hw)
  have hown : s.vm.findClass "LeastSolutions$Words" = some m.cls := findClass_of_methodNamed B.named
  subst hsz
  have hD := hD0.self (sz := s.heap.size)
  generalize hAe : va_A [(a_wo, .inr (2, [.ref f_wo_kinds, .ref f_wo_places, .ref f_wo_values, .int v_wo_total, .int v_wo_state, .int v_wo_isRightSide, .int v_wo_faultPlace]))] s.heap.size = A at hD ⊢
  have hA : ∀ q : Nat, s.heap.size ≤ q → A q := fun q h => by rw [← hAe]; exact Or.inr h
  have hS : va_S A s.heap s.heap [] := va_S.rf
  have hl := lv_entry ([.ref a_wo, .int a1]) (n := 2) (Nat.le_of_ble_eq_true rfl)
  rw [lg_entry_eq]
  generalize (lg_sl ([.ref a_wo, .int a1]) ++ List.replicate (2 - (lg_sl ([.ref a_wo, .int a1])).length) Slot.unset).toArray = ls at hl ⊢
  have hl : lv_has ls 2 [(0, .ref a_wo), (1, .int a1)] := hl
  obtain ⟨k8, hs⟩ := sm_of hs
  refine sm_key (fun R Q k9 => (∀ (H : Heap) (locs : List Loc) (ls : Array Slot) (s0i : Int32), sm_it (fn_WO_stateAfter a1 v_wo_state v_wo_isRightSide) k9 (67, s0i) = some out → va_P (dC, dI) cls [(a_wo, .inr (2, [.ref f_wo_kinds, .ref f_wo_places, .ref f_wo_values, .int v_wo_total, .int v_wo_state, .int v_wo_isRightSide, .int v_wo_faultPlace]))] H → va_D A [(a_wo, .inr (2, [.ref f_wo_kinds, .ref f_wo_places, .ref f_wo_values, .int v_wo_total, .int v_wo_state, .int v_wo_isRightSide, .int v_wo_faultPlace]))] → va_S A s.heap H locs → lv_has ls 2 [] → W p l e R s m ([.ref a_wo, .int a1] : List Value).toArray below meth c H locs 0 0 Q (F0 m 67 ls [])) ∧ (∀ (H : Heap) (locs : List Loc) (ls : Array Slot) (s0i : Int32), sm_it (fn_WO_stateAfter a1 v_wo_state v_wo_isRightSide) k9 (72, s0i) = some out → va_P (dC, dI) cls [(a_wo, .inr (2, [.ref f_wo_kinds, .ref f_wo_places, .ref f_wo_values, .int v_wo_total, .int v_wo_state, .int v_wo_isRightSide, .int v_wo_faultPlace]))] H → va_D A [(a_wo, .inr (2, [.ref f_wo_kinds, .ref f_wo_places, .ref f_wo_values, .int v_wo_total, .int v_wo_state, .int v_wo_isRightSide, .int v_wo_faultPlace]))] → va_S A s.heap H locs → lv_has ls 2 [] → W p l e R s m ([.ref a_wo, .int a1] : List Value).toArray below meth c H locs 0 0 Q (F0 m 72 ls [.int s0i])) ∧ (∀ (H : Heap) (locs : List Loc) (ls : Array Slot) (s0i : Int32), sm_it (fn_WO_stateAfter a1 v_wo_state v_wo_isRightSide) k9 (86, s0i) = some out → va_P (dC, dI) cls [(a_wo, .inr (2, [.ref f_wo_kinds, .ref f_wo_places, .ref f_wo_values, .int v_wo_total, .int v_wo_state, .int v_wo_isRightSide, .int v_wo_faultPlace]))] H → va_D A [(a_wo, .inr (2, [.ref f_wo_kinds, .ref f_wo_places, .ref f_wo_values, .int v_wo_total, .int v_wo_state, .int v_wo_isRightSide, .int v_wo_faultPlace]))] → va_S A s.heap H locs → lv_has ls 2 [] → W p l e R s m ([.ref a_wo, .int a1] : List Value).toArray below meth c H locs 0 0 Q (F0 m 86 ls [.int s0i])) ∧ (∀ (H : Heap) (locs : List Loc) (ls : Array Slot) (s0i : Int32), sm_it (fn_WO_stateAfter a1 v_wo_state v_wo_isRightSide) k9 (99, s0i) = some out → va_P (dC, dI) cls [(a_wo, .inr (2, [.ref f_wo_kinds, .ref f_wo_places, .ref f_wo_values, .int v_wo_total, .int v_wo_state, .int v_wo_isRightSide, .int v_wo_faultPlace]))] H → va_D A [(a_wo, .inr (2, [.ref f_wo_kinds, .ref f_wo_places, .ref f_wo_values, .int v_wo_total, .int v_wo_state, .int v_wo_isRightSide, .int v_wo_faultPlace]))] → va_S A s.heap H locs → lv_has ls 2 [] → W p l e R s m ([.ref a_wo, .int a1] : List Value).toArray below meth c H locs 0 0 Q (F0 m 99 ls [.int s0i])) ∧ (∀ (H : Heap) (locs : List Loc) (ls : Array Slot) (s0i : Int32), sm_it (fn_WO_stateAfter a1 v_wo_state v_wo_isRightSide) k9 (114, s0i) = some out → va_P (dC, dI) cls [(a_wo, .inr (2, [.ref f_wo_kinds, .ref f_wo_places, .ref f_wo_values, .int v_wo_total, .int v_wo_state, .int v_wo_isRightSide, .int v_wo_faultPlace]))] H → va_D A [(a_wo, .inr (2, [.ref f_wo_kinds, .ref f_wo_places, .ref f_wo_values, .int v_wo_total, .int v_wo_state, .int v_wo_isRightSide, .int v_wo_faultPlace]))] → va_S A s.heap H locs → lv_has ls 2 [] → W p l e R s m ([.ref a_wo, .int a1] : List Value).toArray below meth c H locs 0 0 Q (F0 m 114 ls [])) ∧ (∀ (H : Heap) (locs : List Loc) (ls : Array Slot) (s0i : Int32), sm_it (fn_WO_stateAfter a1 v_wo_state v_wo_isRightSide) k9 (119, s0i) = some out → va_P (dC, dI) cls [(a_wo, .inr (2, [.ref f_wo_kinds, .ref f_wo_places, .ref f_wo_values, .int v_wo_total, .int v_wo_state, .int v_wo_isRightSide, .int v_wo_faultPlace]))] H → va_D A [(a_wo, .inr (2, [.ref f_wo_kinds, .ref f_wo_places, .ref f_wo_values, .int v_wo_total, .int v_wo_state, .int v_wo_isRightSide, .int v_wo_faultPlace]))] → va_S A s.heap H locs → lv_has ls 2 [] → W p l e R s m ([.ref a_wo, .int a1] : List Value).toArray below meth c H locs 0 0 Q (F0 m 119 ls [.int s0i])) ∧ (∀ (H : Heap) (locs : List Loc) (ls : Array Slot) (s0i : Int32), sm_it (fn_WO_stateAfter a1 v_wo_state v_wo_isRightSide) k9 (133, s0i) = some out → va_P (dC, dI) cls [(a_wo, .inr (2, [.ref f_wo_kinds, .ref f_wo_places, .ref f_wo_values, .int v_wo_total, .int v_wo_state, .int v_wo_isRightSide, .int v_wo_faultPlace]))] H → va_D A [(a_wo, .inr (2, [.ref f_wo_kinds, .ref f_wo_places, .ref f_wo_values, .int v_wo_total, .int v_wo_state, .int v_wo_isRightSide, .int v_wo_faultPlace]))] → va_S A s.heap H locs → lv_has ls 2 [] → W p l e R s m ([.ref a_wo, .int a1] : List Value).toArray below meth c H locs 0 0 Q (F0 m 133 ls [.int s0i])) ∧ (∀ (H : Heap) (locs : List Loc) (ls : Array Slot) (s0i : Int32), sm_it (fn_WO_stateAfter a1 v_wo_state v_wo_isRightSide) k9 (152, s0i) = some out → va_P (dC, dI) cls [(a_wo, .inr (2, [.ref f_wo_kinds, .ref f_wo_places, .ref f_wo_values, .int v_wo_total, .int v_wo_state, .int v_wo_isRightSide, .int v_wo_faultPlace]))] H → va_D A [(a_wo, .inr (2, [.ref f_wo_kinds, .ref f_wo_places, .ref f_wo_values, .int v_wo_total, .int v_wo_state, .int v_wo_isRightSide, .int v_wo_faultPlace]))] → va_S A s.heap H locs → lv_has ls 2 [] → W p l e R s m ([.ref a_wo, .int a1] : List Value).toArray below meth c H locs 0 0 Q (F0 m 152 ls [])) ∧ (∀ (H : Heap) (locs : List Loc) (ls : Array Slot) (s0i : Int32), sm_it (fn_WO_stateAfter a1 v_wo_state v_wo_isRightSide) k9 (153, s0i) = some out → va_P (dC, dI) cls [(a_wo, .inr (2, [.ref f_wo_kinds, .ref f_wo_places, .ref f_wo_values, .int v_wo_total, .int v_wo_state, .int v_wo_isRightSide, .int v_wo_faultPlace]))] H → va_D A [(a_wo, .inr (2, [.ref f_wo_kinds, .ref f_wo_places, .ref f_wo_values, .int v_wo_total, .int v_wo_state, .int v_wo_isRightSide, .int v_wo_faultPlace]))] → va_S A s.heap H locs → lv_has ls 2 [] → W p l e R s m ([.ref a_wo, .int a1] : List Value).toArray below meth c H locs 0 0 Q (F0 m 153 ls [.int s0i])) ∧ (∀ (H : Heap) (locs : List Loc) (ls : Array Slot) (s0i : Int32), sm_it (fn_WO_stateAfter a1 v_wo_state v_wo_isRightSide) k9 (172, s0i) = some out → va_P (dC, dI) cls [(a_wo, .inr (2, [.ref f_wo_kinds, .ref f_wo_places, .ref f_wo_values, .int v_wo_total, .int v_wo_state, .int v_wo_isRightSide, .int v_wo_faultPlace]))] H → va_D A [(a_wo, .inr (2, [.ref f_wo_kinds, .ref f_wo_places, .ref f_wo_values, .int v_wo_total, .int v_wo_state, .int v_wo_isRightSide, .int v_wo_faultPlace]))] → va_S A s.heap H locs → lv_has ls 2 [] → W p l e R s m ([.ref a_wo, .int a1] : List Value).toArray below meth c H locs 0 0 Q (F0 m 172 ls [])) ∧ (∀ (H : Heap) (locs : List Loc) (ls : Array Slot) (s0i : Int32), sm_it (fn_WO_stateAfter a1 v_wo_state v_wo_isRightSide) k9 (173, s0i) = some out → va_P (dC, dI) cls [(a_wo, .inr (2, [.ref f_wo_kinds, .ref f_wo_places, .ref f_wo_values, .int v_wo_total, .int v_wo_state, .int v_wo_isRightSide, .int v_wo_faultPlace]))] H → va_D A [(a_wo, .inr (2, [.ref f_wo_kinds, .ref f_wo_places, .ref f_wo_values, .int v_wo_total, .int v_wo_state, .int v_wo_isRightSide, .int v_wo_faultPlace]))] → va_S A s.heap H locs → lv_has ls 2 [] → W p l e R s m ([.ref a_wo, .int a1] : List Value).toArray below meth c H locs 0 0 Q (F0 m 173 ls [.int s0i]))) ?_ ?_ ?_
  · exact ⟨(fun _ _ _ _ hs => by cases hs), (fun _ _ _ _ hs => by cases hs), (fun _ _ _ _ hs => by cases hs), (fun _ _ _ _ hs => by cases hs), (fun _ _ _ _ hs => by cases hs), (fun _ _ _ _ hs => by cases hs), (fun _ _ _ _ hs => by cases hs), (fun _ _ _ _ hs => by cases hs), (fun _ _ _ _ hs => by cases hs), (fun _ _ _ _ hs => by cases hs), (fun _ _ _ _ hs => by cases hs)⟩
  · intro k9 ih
    refine ⟨?_, ?_, ?_, ?_, ?_, ?_, ?_, ?_, ?_, ?_, ?_⟩
    · intro H locs ls s0i hs hP hD hS hl
      rw [sm_it_succ, fn_WO_stateAfter_q67] at hs
      unfold fn_WO_stateAfter_b67 at hs
      refine lv_iconst (v := 2) hx hb d_WO_stateAfter_67 (by decide) ?_
      refine lv_goto (tgt := 72) hx hb d_WO_stateAfter_68 (by decide) ?_
      exact ih.2.1 _ _ _ _ hs hP hD hS (lv_sub hl [] rfl)
    · intro H locs ls s0i hs hP hD hS hl
      rw [sm_it_succ, fn_WO_stateAfter_q72] at hs
      unfold fn_WO_stateAfter_b72 at hs
      have he := sm_end hs
      subst he
      exact W.iret (v := s0i) hx hb hr (fun t ht hW => ⟨⟨s0i, (), rfl, rfl, by rw [ht]; exact hP, va_K.moved hW.alike hK, hD⟩, hS.F ht⟩) hS.2.2 d_WO_stateAfter_72
    · intro H locs ls s0i hs hP hD hS hl
      rw [sm_it_succ, fn_WO_stateAfter_q86] at hs
      unfold fn_WO_stateAfter_b86 at hs
      have he := sm_end hs
      subst he
      exact W.iret (v := s0i) hx hb hr (fun t ht hW => ⟨⟨s0i, (), rfl, rfl, by rw [ht]; exact hP, va_K.moved hW.alike hK, hD⟩, hS.F ht⟩) hS.2.2 d_WO_stateAfter_86
    · intro H locs ls s0i hs hP hD hS hl
      rw [sm_it_succ, fn_WO_stateAfter_q99] at hs
      unfold fn_WO_stateAfter_b99 at hs
      have he := sm_end hs
      subst he
      exact W.iret (v := s0i) hx hb hr (fun t ht hW => ⟨⟨s0i, (), rfl, rfl, by rw [ht]; exact hP, va_K.moved hW.alike hK, hD⟩, hS.F ht⟩) hS.2.2 d_WO_stateAfter_99
    · intro H locs ls s0i hs hP hD hS hl
      rw [sm_it_succ, fn_WO_stateAfter_q114] at hs
      unfold fn_WO_stateAfter_b114 at hs
      refine lv_iconst (v := 1) hx hb d_WO_stateAfter_114 (by decide) ?_
      refine lv_goto (tgt := 119) hx hb d_WO_stateAfter_115 (by decide) ?_
      exact ih.2.2.2.2.2.1 _ _ _ _ hs hP hD hS (lv_sub hl [] rfl)
    · intro H locs ls s0i hs hP hD hS hl
      rw [sm_it_succ, fn_WO_stateAfter_q119] at hs
      unfold fn_WO_stateAfter_b119 at hs
      have he := sm_end hs
      subst he
      exact W.iret (v := s0i) hx hb hr (fun t ht hW => ⟨⟨s0i, (), rfl, rfl, by rw [ht]; exact hP, va_K.moved hW.alike hK, hD⟩, hS.F ht⟩) hS.2.2 d_WO_stateAfter_119
    · intro H locs ls s0i hs hP hD hS hl
      rw [sm_it_succ, fn_WO_stateAfter_q133] at hs
      unfold fn_WO_stateAfter_b133 at hs
      have he := sm_end hs
      subst he
      exact W.iret (v := s0i) hx hb hr (fun t ht hW => ⟨⟨s0i, (), rfl, rfl, by rw [ht]; exact hP, va_K.moved hW.alike hK, hD⟩, hS.F ht⟩) hS.2.2 d_WO_stateAfter_133
    · intro H locs ls s0i hs hP hD hS hl
      rw [sm_it_succ, fn_WO_stateAfter_q152] at hs
      unfold fn_WO_stateAfter_b152 at hs
      refine lv_iconst (v := (-1)) hx hb d_WO_stateAfter_152 (by decide) ?_
      exact ih.2.2.2.2.2.2.2.2.1 _ _ _ _ hs hP hD hS (lv_sub hl [] rfl)
    · intro H locs ls s0i hs hP hD hS hl
      rw [sm_it_succ, fn_WO_stateAfter_q153] at hs
      unfold fn_WO_stateAfter_b153 at hs
      have he := sm_end hs
      subst he
      exact W.iret (v := s0i) hx hb hr (fun t ht hW => ⟨⟨s0i, (), rfl, rfl, by rw [ht]; exact hP, va_K.moved hW.alike hK, hD⟩, hS.F ht⟩) hS.2.2 d_WO_stateAfter_153
    · intro H locs ls s0i hs hP hD hS hl
      rw [sm_it_succ, fn_WO_stateAfter_q172] at hs
      unfold fn_WO_stateAfter_b172 at hs
      refine lv_iconst (v := (-1)) hx hb d_WO_stateAfter_172 (by decide) ?_
      exact ih.2.2.2.2.2.2.2.2.2.2 _ _ _ _ hs hP hD hS (lv_sub hl [] rfl)
    · intro H locs ls s0i hs hP hD hS hl
      rw [sm_it_succ, fn_WO_stateAfter_q173] at hs
      unfold fn_WO_stateAfter_b173 at hs
      have he := sm_end hs
      subst he
      exact W.iret (v := s0i) hx hb hr (fun t ht hW => ⟨⟨s0i, (), rfl, rfl, by rw [ht]; exact hP, va_K.moved hW.alike hK, hD⟩, hS.F ht⟩) hS.2.2 d_WO_stateAfter_173
  · intro key
    cases k8 with
    | zero => cases hs
    | succ k9 =>
      rw [sm_it_succ, fn_WO_stateAfter_q0] at hs
      unfold fn_WO_stateAfter_b0 at hs
      refine lv_iload_n hx hb d_WO_stateAfter_0 rfl (lv_at hl 1 rfl) ?_
      by_cases hc1 : (a1 : Int32) = 0
      · have hs := sm_pos hc1 hs
        refine lv_tableIn (tgt := 52) (off := 51) hx hb d_WO_stateAfter_1 (by rw [hc1]; decide) (by rw [hc1]; decide) (by rw [hc1]; decide) (by decide) ?_
        refine lv_aload_n hx hb d_WO_stateAfter_52 rfl (lv_at hl 0 rfl) ?_
        refine va_get (D := (dC, dI)) (ci := 2) (v := .int v_wo_state) (C := R_WO) (T := T_WO) (N := 7) hx hb hts in_WO hown hK hP 0 rfl rfl 4 (by decide) (hts _ k_60) (fun _ h9 => h9) rfl d_WO_stateAfter_53 ?_
        refine lv_if_eq (tgt := 67) hx hb d_WO_stateAfter_56 (by decide) (fun hc2 => ?_) (fun hc2 => ?_)
        · have hs := sm_pos hc2 hs
          exact (key k9).1 _ _ _ _ hs hP hD hS (lv_sub hl [] rfl)
        · have hs := sm_neg hc2 hs
          refine lv_aload_n hx hb d_WO_stateAfter_59 rfl (lv_at hl 0 rfl) ?_
          refine va_get (D := (dC, dI)) (ci := 2) (v := .int v_wo_state) (C := R_WO) (T := T_WO) (N := 7) hx hb hts in_WO hown hK hP 0 rfl rfl 4 (by decide) (hts _ k_60) (fun _ h9 => h9) rfl d_WO_stateAfter_60 ?_
          refine lv_iconst (v := 1) hx hb d_WO_stateAfter_63 (by decide) ?_
          refine lv_icmp_ne (tgt := 71) hx hb d_WO_stateAfter_64 (by decide) (fun hc3 => ?_) (fun hc3 => ?_)
          · have hs := sm_neg hc3 hs
            refine lv_iconst (v := (-1)) hx hb d_WO_stateAfter_71 (by decide) ?_
            exact (key k9).2.1 _ _ _ _ hs hP hD hS (lv_sub hl [] rfl)
          · have hs := sm_pos hc3 hs
            exact (key k9).1 _ _ _ _ hs hP hD hS (lv_sub hl [] rfl)
      have hs := sm_neg hc1 hs
      by_cases hc4 : (a1 : Int32) = 1
      · have hs := sm_pos hc4 hs
        refine lv_tableIn (tgt := 73) (off := 72) hx hb d_WO_stateAfter_1 (by rw [hc4]; decide) (by rw [hc4]; decide) (by rw [hc4]; decide) (by decide) ?_
        refine lv_aload_n hx hb d_WO_stateAfter_73 rfl (lv_at hl 0 rfl) ?_
        refine va_get (D := (dC, dI)) (ci := 2) (v := .int v_wo_state) (C := R_WO) (T := T_WO) (N := 7) hx hb hts in_WO hown hK hP 0 rfl rfl 4 (by decide) (hts _ k_60) (fun _ h9 => h9) rfl d_WO_stateAfter_74 ?_
        refine lv_iconst (v := 4) hx hb d_WO_stateAfter_77 (by decide) ?_
        refine lv_icmp_eq (tgt := 85) hx hb d_WO_stateAfter_78 (by decide) (fun hc5 => ?_) (fun hc5 => ?_)
        · have hs := sm_pos hc5 hs
          refine lv_iconst (v := (-1)) hx hb d_WO_stateAfter_85 (by decide) ?_
          exact (key k9).2.2.1 _ _ _ _ hs hP hD hS (lv_sub hl [] rfl)
        · have hs := sm_neg hc5 hs
          refine lv_iconst (v := 4) hx hb d_WO_stateAfter_81 (by decide) ?_
          refine lv_goto (tgt := 86) hx hb d_WO_stateAfter_82 (by decide) ?_
          exact (key k9).2.2.1 _ _ _ _ hs hP hD hS (lv_sub hl [] rfl)
      have hs := sm_neg hc4 hs
      by_cases hc6 : (a1 : Int32) = 2
      · have hs := sm_pos hc6 hs
        refine lv_tableIn (tgt := 87) (off := 86) hx hb d_WO_stateAfter_1 (by rw [hc6]; decide) (by rw [hc6]; decide) (by rw [hc6]; decide) (by decide) ?_
        refine lv_aload_n hx hb d_WO_stateAfter_87 rfl (lv_at hl 0 rfl) ?_
        obtain ⟨r1, hq1, hs⟩ := sm_bd hs
        have hPc := hP.sub (ws' := [(a_wo, .inr (2, [.ref f_wo_kinds, .ref f_wo_places, .ref f_wo_values, .int v_wo_total, .int v_wo_state, .int v_wo_isRightSide, .int v_wo_faultPlace]))]) [0] rfl
        have hDc := hD.sub (ws' := [(a_wo, .inr (2, [.ref f_wo_kinds, .ref f_wo_places, .ref f_wo_values, .int v_wo_total, .int v_wo_state, .int v_wo_isRightSide, .int v_wo_faultPlace]))]) [0] (by decide) rfl
        have hKc := hK.sub (tys' := []) [] rfl
        have hFc := va_free (wc := [(a_wo, .inr (2, [.ref f_wo_kinds, .ref f_wo_places, .ref f_wo_values, .int v_wo_total, .int v_wo_state, .int v_wo_isRightSide, .int v_wo_faultPlace]))]) hD hS hA [0] rfl
        refine va_calli (va_runV (As := []) (rest := []) ⟨hx, hb, hml, hown, hts⟩ (c_WO_isSumWhole l dC dI (a_wo) (f_wo_kinds) (f_wo_places) (f_wo_values) (v_wo_total) (v_wo_state) (v_wo_isRightSide) (v_wo_faultPlace) s.heap.size r1 hq1) (wd_V (C := "LeastSolutions$Words") 0 hts k_388 k_3 k_385 k_387 ks_WO_isSumWhole rfl rfl (by decide +kernel) ⟨Nat.le_of_ble_eq_true rfl, Nat.le_of_ble_eq_true rfl⟩) ⟨fun a U g mk q => by obtain ⟨q0, q1, qP, qK, qD, qN⟩ := q; exact ⟨q0, q1, qP, va_K.moved (u := U) (U := U.calling g mk a) (Vm.Alike.refl U.vm) qK, qD, nw_ok.same (s := U) (U := U.calling g mk a) rfl qN⟩, va_recv (ci := 2) (q0 := 0) hK hP rfl rfl, fun U hU hW => ⟨rfl, by rw [hU], by rw [hU]; exact hPc, va_K.moved hW.alike hKc, hDc.weaken (fun _ _ _ _ => trivial), nw_ok.warm hW hN⟩⟩ rfl rfl hl.1 rfl (lv_room (Nat.le_of_ble_eq_true rfl)) d_WO_stateAfter_88 ⟨Nat.le_of_ble_eq_true rfl, Nat.le_of_ble_eq_true rfl⟩) hS (fun q _ h => hFc q h) hFc (fun q1 u t H1 locs ht hvm hr1 hB hz1 hk1 hS => ?_)
        have hr1 := (show q1 = r1 from hr1).symm
        subst hr1
        obtain ⟨hP1, hK1, hD1⟩ := hB
        rw [ht] at hP1
        have hK1 := va_K.moved hvm.symm hK1
        obtain ⟨hP, hD⟩ := va_join (wr := []) (w1 := [(a_wo, .inr (2, [.ref f_wo_kinds, .ref f_wo_places, .ref f_wo_values, .int v_wo_total, .int v_wo_state, .int v_wo_isRightSide, .int v_wo_faultPlace]))]) hP hD [0] [] rfl rfl (by decide) (by decide) hk1 hFc hP1 hD1
        have hK := (hK.sub (tys' := []) [] rfl).app hK1
        have hK : va_K (dC, dI) cls [] s := hK
        have hP : va_P (dC, dI) cls [(a_wo, .inr (2, [.ref f_wo_kinds, .ref f_wo_places, .ref f_wo_values, .int v_wo_total, .int v_wo_state, .int v_wo_isRightSide, .int v_wo_faultPlace]))] H1 := hP
        have hD : va_D A [(a_wo, .inr (2, [.ref f_wo_kinds, .ref f_wo_places, .ref f_wo_values, .int v_wo_total, .int v_wo_state, .int v_wo_isRightSide, .int v_wo_faultPlace]))] := hD
        refine lv_if_eq (tgt := 98) hx hb d_WO_stateAfter_91 (by decide) (fun hc7 => ?_) (fun hc7 => ?_)
        · have hs := sm_pos hc7 hs
          refine lv_iconst (v := (-1)) hx hb d_WO_stateAfter_98 (by decide) ?_
          exact (key k9).2.2.2.1 _ _ _ _ hs hP hD hS (lv_sub hl [] rfl)
        · have hs := sm_neg hc7 hs
          refine lv_iconst (v := 1) hx hb d_WO_stateAfter_94 (by decide) ?_
          refine lv_goto (tgt := 99) hx hb d_WO_stateAfter_95 (by decide) ?_
          exact (key k9).2.2.2.1 _ _ _ _ hs hP hD hS (lv_sub hl [] rfl)
      have hs := sm_neg hc6 hs
      by_cases hc8 : (a1 : Int32) = 3
      · have hs := sm_pos hc8 hs
        refine lv_tableIn (tgt := 100) (off := 99) hx hb d_WO_stateAfter_1 (by rw [hc8]; decide) (by rw [hc8]; decide) (by rw [hc8]; decide) (by decide) ?_
        refine lv_aload_n hx hb d_WO_stateAfter_100 rfl (lv_at hl 0 rfl) ?_
        obtain ⟨r2, hq2, hs⟩ := sm_bd hs
        have hPc := hP.sub (ws' := [(a_wo, .inr (2, [.ref f_wo_kinds, .ref f_wo_places, .ref f_wo_values, .int v_wo_total, .int v_wo_state, .int v_wo_isRightSide, .int v_wo_faultPlace]))]) [0] rfl
        have hDc := hD.sub (ws' := [(a_wo, .inr (2, [.ref f_wo_kinds, .ref f_wo_places, .ref f_wo_values, .int v_wo_total, .int v_wo_state, .int v_wo_isRightSide, .int v_wo_faultPlace]))]) [0] (by decide) rfl
        have hKc := hK.sub (tys' := []) [] rfl
        have hFc := va_free (wc := [(a_wo, .inr (2, [.ref f_wo_kinds, .ref f_wo_places, .ref f_wo_values, .int v_wo_total, .int v_wo_state, .int v_wo_isRightSide, .int v_wo_faultPlace]))]) hD hS hA [0] rfl
        refine va_calli (va_runV (As := []) (rest := []) ⟨hx, hb, hml, hown, hts⟩ (c_WO_isSumWhole l dC dI (a_wo) (f_wo_kinds) (f_wo_places) (f_wo_values) (v_wo_total) (v_wo_state) (v_wo_isRightSide) (v_wo_faultPlace) s.heap.size r2 hq2) (wd_V (C := "LeastSolutions$Words") 0 hts k_388 k_3 k_385 k_387 ks_WO_isSumWhole rfl rfl (by decide +kernel) ⟨Nat.le_of_ble_eq_true rfl, Nat.le_of_ble_eq_true rfl⟩) ⟨fun a U g mk q => by obtain ⟨q0, q1, qP, qK, qD, qN⟩ := q; exact ⟨q0, q1, qP, va_K.moved (u := U) (U := U.calling g mk a) (Vm.Alike.refl U.vm) qK, qD, nw_ok.same (s := U) (U := U.calling g mk a) rfl qN⟩, va_recv (ci := 2) (q0 := 0) hK hP rfl rfl, fun U hU hW => ⟨rfl, by rw [hU], by rw [hU]; exact hPc, va_K.moved hW.alike hKc, hDc.weaken (fun _ _ _ _ => trivial), nw_ok.warm hW hN⟩⟩ rfl rfl hl.1 rfl (lv_room (Nat.le_of_ble_eq_true rfl)) d_WO_stateAfter_101 ⟨Nat.le_of_ble_eq_true rfl, Nat.le_of_ble_eq_true rfl⟩) hS (fun q _ h => hFc q h) hFc (fun q2 u t H2 locs ht hvm hr2 hB hz1 hk1 hS => ?_)
        have hr2 := (show q2 = r2 from hr2).symm
        subst hr2
        obtain ⟨hP1, hK1, hD1⟩ := hB
        rw [ht] at hP1
        have hK1 := va_K.moved hvm.symm hK1
        obtain ⟨hP, hD⟩ := va_join (wr := []) (w1 := [(a_wo, .inr (2, [.ref f_wo_kinds, .ref f_wo_places, .ref f_wo_values, .int v_wo_total, .int v_wo_state, .int v_wo_isRightSide, .int v_wo_faultPlace]))]) hP hD [0] [] rfl rfl (by decide) (by decide) hk1 hFc hP1 hD1
        have hK := (hK.sub (tys' := []) [] rfl).app hK1
        have hK : va_K (dC, dI) cls [] s := hK
        have hP : va_P (dC, dI) cls [(a_wo, .inr (2, [.ref f_wo_kinds, .ref f_wo_places, .ref f_wo_values, .int v_wo_total, .int v_wo_state, .int v_wo_isRightSide, .int v_wo_faultPlace]))] H2 := hP
        have hD : va_D A [(a_wo, .inr (2, [.ref f_wo_kinds, .ref f_wo_places, .ref f_wo_values, .int v_wo_total, .int v_wo_state, .int v_wo_isRightSide, .int v_wo_faultPlace]))] := hD
        refine lv_if_ne (tgt := 114) hx hb d_WO_stateAfter_104 (by decide) (fun hc9 => ?_) (fun hc9 => ?_)
        · have hs := sm_neg hc9 hs
          exact (key k9).2.2.2.2.1 _ _ _ _ hs hP hD hS (lv_sub hl [] rfl)
        · have hs := sm_pos hc9 hs
          refine lv_aload_n hx hb d_WO_stateAfter_107 rfl (lv_at hl 0 rfl) ?_
          refine va_get (D := (dC, dI)) (ci := 2) (v := .int v_wo_state) (C := R_WO) (T := T_WO) (N := 7) hx hb hts in_WO hown hK hP 0 rfl rfl 4 (by decide) (hts _ k_60) (fun _ h9 => h9) rfl d_WO_stateAfter_108 ?_
          refine lv_if_ne (tgt := 118) hx hb d_WO_stateAfter_111 (by decide) (fun hc10 => ?_) (fun hc10 => ?_)
          · have hs := sm_neg hc10 hs
            refine lv_iconst (v := (-1)) hx hb d_WO_stateAfter_118 (by decide) ?_
            exact (key k9).2.2.2.2.2.1 _ _ _ _ hs hP hD hS (lv_sub hl [] rfl)
          · have hs := sm_pos hc10 hs
            exact (key k9).2.2.2.2.1 _ _ _ _ hs hP hD hS (lv_sub hl [] rfl)
      have hs := sm_neg hc8 hs
      by_cases hc11 : (a1 : Int32) = 4
      · have hs := sm_pos hc11 hs
        refine lv_tableIn (tgt := 120) (off := 119) hx hb d_WO_stateAfter_1 (by rw [hc11]; decide) (by rw [hc11]; decide) (by rw [hc11]; decide) (by decide) ?_
        refine lv_aload_n hx hb d_WO_stateAfter_120 rfl (lv_at hl 0 rfl) ?_
        refine va_get (D := (dC, dI)) (ci := 2) (v := .int v_wo_state) (C := R_WO) (T := T_WO) (N := 7) hx hb hts in_WO hown hK hP 0 rfl rfl 4 (by decide) (hts _ k_60) (fun _ h9 => h9) rfl d_WO_stateAfter_121 ?_
        refine lv_iconst (v := 2) hx hb d_WO_stateAfter_124 (by decide) ?_
        refine lv_icmp_ne (tgt := 132) hx hb d_WO_stateAfter_125 (by decide) (fun hc12 => ?_) (fun hc12 => ?_)
        · have hs := sm_neg hc12 hs
          refine lv_iconst (v := (-1)) hx hb d_WO_stateAfter_132 (by decide) ?_
          exact (key k9).2.2.2.2.2.2.1 _ _ _ _ hs hP hD hS (lv_sub hl [] rfl)
        · have hs := sm_pos hc12 hs
          refine lv_iconst (v := 3) hx hb d_WO_stateAfter_128 (by decide) ?_
          refine lv_goto (tgt := 133) hx hb d_WO_stateAfter_129 (by decide) ?_
          exact (key k9).2.2.2.2.2.2.1 _ _ _ _ hs hP hD hS (lv_sub hl [] rfl)
      have hs := sm_neg hc11 hs
      by_cases hc13 : (a1 : Int32) = 5
      · have hs := sm_pos hc13 hs
        refine lv_tableIn (tgt := 134) (off := 133) hx hb d_WO_stateAfter_1 (by rw [hc13]; decide) (by rw [hc13]; decide) (by rw [hc13]; decide) (by decide) ?_
        refine lv_aload_n hx hb d_WO_stateAfter_134 rfl (lv_at hl 0 rfl) ?_
        obtain ⟨r3, hq3, hs⟩ := sm_bd hs
        have hPc := hP.sub (ws' := [(a_wo, .inr (2, [.ref f_wo_kinds, .ref f_wo_places, .ref f_wo_values, .int v_wo_total, .int v_wo_state, .int v_wo_isRightSide, .int v_wo_faultPlace]))]) [0] rfl
        have hDc := hD.sub (ws' := [(a_wo, .inr (2, [.ref f_wo_kinds, .ref f_wo_places, .ref f_wo_values, .int v_wo_total, .int v_wo_state, .int v_wo_isRightSide, .int v_wo_faultPlace]))]) [0] (by decide) rfl
        have hKc := hK.sub (tys' := []) [] rfl
        have hFc := va_free (wc := [(a_wo, .inr (2, [.ref f_wo_kinds, .ref f_wo_places, .ref f_wo_values, .int v_wo_total, .int v_wo_state, .int v_wo_isRightSide, .int v_wo_faultPlace]))]) hD hS hA [0] rfl
        refine va_calli (va_runV (As := []) (rest := []) ⟨hx, hb, hml, hown, hts⟩ (c_WO_isSumWhole l dC dI (a_wo) (f_wo_kinds) (f_wo_places) (f_wo_values) (v_wo_total) (v_wo_state) (v_wo_isRightSide) (v_wo_faultPlace) s.heap.size r3 hq3) (wd_V (C := "LeastSolutions$Words") 0 hts k_388 k_3 k_385 k_387 ks_WO_isSumWhole rfl rfl (by decide +kernel) ⟨Nat.le_of_ble_eq_true rfl, Nat.le_of_ble_eq_true rfl⟩) ⟨fun a U g mk q => by obtain ⟨q0, q1, qP, qK, qD, qN⟩ := q; exact ⟨q0, q1, qP, va_K.moved (u := U) (U := U.calling g mk a) (Vm.Alike.refl U.vm) qK, qD, nw_ok.same (s := U) (U := U.calling g mk a) rfl qN⟩, va_recv (ci := 2) (q0 := 0) hK hP rfl rfl, fun U hU hW => ⟨rfl, by rw [hU], by rw [hU]; exact hPc, va_K.moved hW.alike hKc, hDc.weaken (fun _ _ _ _ => trivial), nw_ok.warm hW hN⟩⟩ rfl rfl hl.1 rfl (lv_room (Nat.le_of_ble_eq_true rfl)) d_WO_stateAfter_135 ⟨Nat.le_of_ble_eq_true rfl, Nat.le_of_ble_eq_true rfl⟩) hS (fun q _ h => hFc q h) hFc (fun q3 u t H3 locs ht hvm hr3 hB hz1 hk1 hS => ?_)
        have hr3 := (show q3 = r3 from hr3).symm
        subst hr3
        obtain ⟨hP1, hK1, hD1⟩ := hB
        rw [ht] at hP1
        have hK1 := va_K.moved hvm.symm hK1
        obtain ⟨hP, hD⟩ := va_join (wr := []) (w1 := [(a_wo, .inr (2, [.ref f_wo_kinds, .ref f_wo_places, .ref f_wo_values, .int v_wo_total, .int v_wo_state, .int v_wo_isRightSide, .int v_wo_faultPlace]))]) hP hD [0] [] rfl rfl (by decide) (by decide) hk1 hFc hP1 hD1
        have hK := (hK.sub (tys' := []) [] rfl).app hK1
        have hK : va_K (dC, dI) cls [] s := hK
        have hP : va_P (dC, dI) cls [(a_wo, .inr (2, [.ref f_wo_kinds, .ref f_wo_places, .ref f_wo_values, .int v_wo_total, .int v_wo_state, .int v_wo_isRightSide, .int v_wo_faultPlace]))] H3 := hP
        have hD : va_D A [(a_wo, .inr (2, [.ref f_wo_kinds, .ref f_wo_places, .ref f_wo_values, .int v_wo_total, .int v_wo_state, .int v_wo_isRightSide, .int v_wo_faultPlace]))] := hD
        refine lv_if_eq (tgt := 152) hx hb d_WO_stateAfter_138 (by decide) (fun hc14 => ?_) (fun hc14 => ?_)
        · have hs := sm_pos hc14 hs
          exact (key k9).2.2.2.2.2.2.2.1 _ _ _ _ hs hP hD hS (lv_sub hl [] rfl)
        · have hs := sm_neg hc14 hs
          refine lv_aload_n hx hb d_WO_stateAfter_141 rfl (lv_at hl 0 rfl) ?_
          refine va_get (D := (dC, dI)) (ci := 2) (v := .int v_wo_isRightSide) (C := R_WO) (T := T_WO) (N := 7) hx hb hts in_WO hown hK hP 0 rfl rfl 5 (by decide) (hts _ k_61) (fun _ h9 => h9) rfl d_WO_stateAfter_142 ?_
          refine lv_if_eq (tgt := 152) hx hb d_WO_stateAfter_145 (by decide) (fun hc15 => ?_) (fun hc15 => ?_)
          · have hs := sm_pos hc15 hs
            exact (key k9).2.2.2.2.2.2.2.1 _ _ _ _ hs hP hD hS (lv_sub hl [] rfl)
          · have hs := sm_neg hc15 hs
            refine lv_iconst (v := 0) hx hb d_WO_stateAfter_148 (by decide) ?_
            refine lv_goto (tgt := 153) hx hb d_WO_stateAfter_149 (by decide) ?_
            exact (key k9).2.2.2.2.2.2.2.2.1 _ _ _ _ hs hP hD hS (lv_sub hl [] rfl)
      have hs := sm_neg hc13 hs
      by_cases hc16 : (a1 : Int32) = 6
      · have hs := sm_pos hc16 hs
        refine lv_tableIn (tgt := 154) (off := 153) hx hb d_WO_stateAfter_1 (by rw [hc16]; decide) (by rw [hc16]; decide) (by rw [hc16]; decide) (by decide) ?_
        refine lv_aload_n hx hb d_WO_stateAfter_154 rfl (lv_at hl 0 rfl) ?_
        obtain ⟨r4, hq4, hs⟩ := sm_bd hs
        have hPc := hP.sub (ws' := [(a_wo, .inr (2, [.ref f_wo_kinds, .ref f_wo_places, .ref f_wo_values, .int v_wo_total, .int v_wo_state, .int v_wo_isRightSide, .int v_wo_faultPlace]))]) [0] rfl
        have hDc := hD.sub (ws' := [(a_wo, .inr (2, [.ref f_wo_kinds, .ref f_wo_places, .ref f_wo_values, .int v_wo_total, .int v_wo_state, .int v_wo_isRightSide, .int v_wo_faultPlace]))]) [0] (by decide) rfl
        have hKc := hK.sub (tys' := []) [] rfl
        have hFc := va_free (wc := [(a_wo, .inr (2, [.ref f_wo_kinds, .ref f_wo_places, .ref f_wo_values, .int v_wo_total, .int v_wo_state, .int v_wo_isRightSide, .int v_wo_faultPlace]))]) hD hS hA [0] rfl
        refine va_calli (va_runV (As := []) (rest := []) ⟨hx, hb, hml, hown, hts⟩ (c_WO_isSumWhole l dC dI (a_wo) (f_wo_kinds) (f_wo_places) (f_wo_values) (v_wo_total) (v_wo_state) (v_wo_isRightSide) (v_wo_faultPlace) s.heap.size r4 hq4) (wd_V (C := "LeastSolutions$Words") 0 hts k_388 k_3 k_385 k_387 ks_WO_isSumWhole rfl rfl (by decide +kernel) ⟨Nat.le_of_ble_eq_true rfl, Nat.le_of_ble_eq_true rfl⟩) ⟨fun a U g mk q => by obtain ⟨q0, q1, qP, qK, qD, qN⟩ := q; exact ⟨q0, q1, qP, va_K.moved (u := U) (U := U.calling g mk a) (Vm.Alike.refl U.vm) qK, qD, nw_ok.same (s := U) (U := U.calling g mk a) rfl qN⟩, va_recv (ci := 2) (q0 := 0) hK hP rfl rfl, fun U hU hW => ⟨rfl, by rw [hU], by rw [hU]; exact hPc, va_K.moved hW.alike hKc, hDc.weaken (fun _ _ _ _ => trivial), nw_ok.warm hW hN⟩⟩ rfl rfl hl.1 rfl (lv_room (Nat.le_of_ble_eq_true rfl)) d_WO_stateAfter_155 ⟨Nat.le_of_ble_eq_true rfl, Nat.le_of_ble_eq_true rfl⟩) hS (fun q _ h => hFc q h) hFc (fun q4 u t H4 locs ht hvm hr4 hB hz1 hk1 hS => ?_)
        have hr4 := (show q4 = r4 from hr4).symm
        subst hr4
        obtain ⟨hP1, hK1, hD1⟩ := hB
        rw [ht] at hP1
        have hK1 := va_K.moved hvm.symm hK1
        obtain ⟨hP, hD⟩ := va_join (wr := []) (w1 := [(a_wo, .inr (2, [.ref f_wo_kinds, .ref f_wo_places, .ref f_wo_values, .int v_wo_total, .int v_wo_state, .int v_wo_isRightSide, .int v_wo_faultPlace]))]) hP hD [0] [] rfl rfl (by decide) (by decide) hk1 hFc hP1 hD1
        have hK := (hK.sub (tys' := []) [] rfl).app hK1
        have hK : va_K (dC, dI) cls [] s := hK
        have hP : va_P (dC, dI) cls [(a_wo, .inr (2, [.ref f_wo_kinds, .ref f_wo_places, .ref f_wo_values, .int v_wo_total, .int v_wo_state, .int v_wo_isRightSide, .int v_wo_faultPlace]))] H4 := hP
        have hD : va_D A [(a_wo, .inr (2, [.ref f_wo_kinds, .ref f_wo_places, .ref f_wo_values, .int v_wo_total, .int v_wo_state, .int v_wo_isRightSide, .int v_wo_faultPlace]))] := hD
        refine lv_if_eq (tgt := 172) hx hb d_WO_stateAfter_158 (by decide) (fun hc17 => ?_) (fun hc17 => ?_)
        · have hs := sm_pos hc17 hs
          exact (key k9).2.2.2.2.2.2.2.2.2.1 _ _ _ _ hs hP hD hS (lv_sub hl [] rfl)
        · have hs := sm_neg hc17 hs
          refine lv_aload_n hx hb d_WO_stateAfter_161 rfl (lv_at hl 0 rfl) ?_
          refine va_get (D := (dC, dI)) (ci := 2) (v := .int v_wo_isRightSide) (C := R_WO) (T := T_WO) (N := 7) hx hb hts in_WO hown hK hP 0 rfl rfl 5 (by decide) (hts _ k_61) (fun _ h9 => h9) rfl d_WO_stateAfter_162 ?_
          refine lv_if_ne (tgt := 172) hx hb d_WO_stateAfter_165 (by decide) (fun hc18 => ?_) (fun hc18 => ?_)
          · have hs := sm_neg hc18 hs
            exact (key k9).2.2.2.2.2.2.2.2.2.1 _ _ _ _ hs hP hD hS (lv_sub hl [] rfl)
          · have hs := sm_pos hc18 hs
            refine lv_iconst (v := 0) hx hb d_WO_stateAfter_168 (by decide) ?_
            refine lv_goto (tgt := 173) hx hb d_WO_stateAfter_169 (by decide) ?_
            exact (key k9).2.2.2.2.2.2.2.2.2.2 _ _ _ _ hs hP hD hS (lv_sub hl [] rfl)
      have hs := sm_neg hc16 hs
      by_cases hc19 : (a1 : Int32) = 7
      · have hs := sm_pos hc19 hs
        refine lv_tableIn (tgt := 154) (off := 153) hx hb d_WO_stateAfter_1 (by rw [hc19]; decide) (by rw [hc19]; decide) (by rw [hc19]; decide) (by decide) ?_
        refine lv_aload_n hx hb d_WO_stateAfter_154 rfl (lv_at hl 0 rfl) ?_
        obtain ⟨r5, hq5, hs⟩ := sm_bd hs
        have hPc := hP.sub (ws' := [(a_wo, .inr (2, [.ref f_wo_kinds, .ref f_wo_places, .ref f_wo_values, .int v_wo_total, .int v_wo_state, .int v_wo_isRightSide, .int v_wo_faultPlace]))]) [0] rfl
        have hDc := hD.sub (ws' := [(a_wo, .inr (2, [.ref f_wo_kinds, .ref f_wo_places, .ref f_wo_values, .int v_wo_total, .int v_wo_state, .int v_wo_isRightSide, .int v_wo_faultPlace]))]) [0] (by decide) rfl
        have hKc := hK.sub (tys' := []) [] rfl
        have hFc := va_free (wc := [(a_wo, .inr (2, [.ref f_wo_kinds, .ref f_wo_places, .ref f_wo_values, .int v_wo_total, .int v_wo_state, .int v_wo_isRightSide, .int v_wo_faultPlace]))]) hD hS hA [0] rfl
        refine va_calli (va_runV (As := []) (rest := []) ⟨hx, hb, hml, hown, hts⟩ (c_WO_isSumWhole l dC dI (a_wo) (f_wo_kinds) (f_wo_places) (f_wo_values) (v_wo_total) (v_wo_state) (v_wo_isRightSide) (v_wo_faultPlace) s.heap.size r5 hq5) (wd_V (C := "LeastSolutions$Words") 0 hts k_388 k_3 k_385 k_387 ks_WO_isSumWhole rfl rfl (by decide +kernel) ⟨Nat.le_of_ble_eq_true rfl, Nat.le_of_ble_eq_true rfl⟩) ⟨fun a U g mk q => by obtain ⟨q0, q1, qP, qK, qD, qN⟩ := q; exact ⟨q0, q1, qP, va_K.moved (u := U) (U := U.calling g mk a) (Vm.Alike.refl U.vm) qK, qD, nw_ok.same (s := U) (U := U.calling g mk a) rfl qN⟩, va_recv (ci := 2) (q0 := 0) hK hP rfl rfl, fun U hU hW => ⟨rfl, by rw [hU], by rw [hU]; exact hPc, va_K.moved hW.alike hKc, hDc.weaken (fun _ _ _ _ => trivial), nw_ok.warm hW hN⟩⟩ rfl rfl hl.1 rfl (lv_room (Nat.le_of_ble_eq_true rfl)) d_WO_stateAfter_155 ⟨Nat.le_of_ble_eq_true rfl, Nat.le_of_ble_eq_true rfl⟩) hS (fun q _ h => hFc q h) hFc (fun q5 u t H5 locs ht hvm hr5 hB hz1 hk1 hS => ?_)
        have hr5 := (show q5 = r5 from hr5).symm
        subst hr5
        obtain ⟨hP1, hK1, hD1⟩ := hB
        rw [ht] at hP1
        have hK1 := va_K.moved hvm.symm hK1
        obtain ⟨hP, hD⟩ := va_join (wr := []) (w1 := [(a_wo, .inr (2, [.ref f_wo_kinds, .ref f_wo_places, .ref f_wo_values, .int v_wo_total, .int v_wo_state, .int v_wo_isRightSide, .int v_wo_faultPlace]))]) hP hD [0] [] rfl rfl (by decide) (by decide) hk1 hFc hP1 hD1
        have hK := (hK.sub (tys' := []) [] rfl).app hK1
        have hK : va_K (dC, dI) cls [] s := hK
        have hP : va_P (dC, dI) cls [(a_wo, .inr (2, [.ref f_wo_kinds, .ref f_wo_places, .ref f_wo_values, .int v_wo_total, .int v_wo_state, .int v_wo_isRightSide, .int v_wo_faultPlace]))] H5 := hP
        have hD : va_D A [(a_wo, .inr (2, [.ref f_wo_kinds, .ref f_wo_places, .ref f_wo_values, .int v_wo_total, .int v_wo_state, .int v_wo_isRightSide, .int v_wo_faultPlace]))] := hD
        refine lv_if_eq (tgt := 172) hx hb d_WO_stateAfter_158 (by decide) (fun hc20 => ?_) (fun hc20 => ?_)
        · have hs := sm_pos hc20 hs
          exact (key k9).2.2.2.2.2.2.2.2.2.1 _ _ _ _ hs hP hD hS (lv_sub hl [] rfl)
        · have hs := sm_neg hc20 hs
          refine lv_aload_n hx hb d_WO_stateAfter_161 rfl (lv_at hl 0 rfl) ?_
          refine va_get (D := (dC, dI)) (ci := 2) (v := .int v_wo_isRightSide) (C := R_WO) (T := T_WO) (N := 7) hx hb hts in_WO hown hK hP 0 rfl rfl 5 (by decide) (hts _ k_61) (fun _ h9 => h9) rfl d_WO_stateAfter_162 ?_
          refine lv_if_ne (tgt := 172) hx hb d_WO_stateAfter_165 (by decide) (fun hc21 => ?_) (fun hc21 => ?_)
          · have hs := sm_neg hc21 hs
            exact (key k9).2.2.2.2.2.2.2.2.2.1 _ _ _ _ hs hP hD hS (lv_sub hl [] rfl)
          · have hs := sm_pos hc21 hs
            refine lv_iconst (v := 0) hx hb d_WO_stateAfter_168 (by decide) ?_
            refine lv_goto (tgt := 173) hx hb d_WO_stateAfter_169 (by decide) ?_
            exact (key k9).2.2.2.2.2.2.2.2.2.2 _ _ _ _ hs hP hD hS (lv_sub hl [] rfl)
      have hs := sm_neg hc19 hs
      by_cases hc22 : (a1 : Int32) = 8
      · have hs := sm_pos hc22 hs
        refine lv_tableIn (tgt := 154) (off := 153) hx hb d_WO_stateAfter_1 (by rw [hc22]; decide) (by rw [hc22]; decide) (by rw [hc22]; decide) (by decide) ?_
        refine lv_aload_n hx hb d_WO_stateAfter_154 rfl (lv_at hl 0 rfl) ?_
        obtain ⟨r6, hq6, hs⟩ := sm_bd hs
        have hPc := hP.sub (ws' := [(a_wo, .inr (2, [.ref f_wo_kinds, .ref f_wo_places, .ref f_wo_values, .int v_wo_total, .int v_wo_state, .int v_wo_isRightSide, .int v_wo_faultPlace]))]) [0] rfl
        have hDc := hD.sub (ws' := [(a_wo, .inr (2, [.ref f_wo_kinds, .ref f_wo_places, .ref f_wo_values, .int v_wo_total, .int v_wo_state, .int v_wo_isRightSide, .int v_wo_faultPlace]))]) [0] (by decide) rfl
        have hKc := hK.sub (tys' := []) [] rfl
        have hFc := va_free (wc := [(a_wo, .inr (2, [.ref f_wo_kinds, .ref f_wo_places, .ref f_wo_values, .int v_wo_total, .int v_wo_state, .int v_wo_isRightSide, .int v_wo_faultPlace]))]) hD hS hA [0] rfl
        refine va_calli (va_runV (As := []) (rest := []) ⟨hx, hb, hml, hown, hts⟩ (c_WO_isSumWhole l dC dI (a_wo) (f_wo_kinds) (f_wo_places) (f_wo_values) (v_wo_total) (v_wo_state) (v_wo_isRightSide) (v_wo_faultPlace) s.heap.size r6 hq6) (wd_V (C := "LeastSolutions$Words") 0 hts k_388 k_3 k_385 k_387 ks_WO_isSumWhole rfl rfl (by decide +kernel) ⟨Nat.le_of_ble_eq_true rfl, Nat.le_of_ble_eq_true rfl⟩) ⟨fun a U g mk q => by obtain ⟨q0, q1, qP, qK, qD, qN⟩ := q; exact ⟨q0, q1, qP, va_K.moved (u := U) (U := U.calling g mk a) (Vm.Alike.refl U.vm) qK, qD, nw_ok.same (s := U) (U := U.calling g mk a) rfl qN⟩, va_recv (ci := 2) (q0 := 0) hK hP rfl rfl, fun U hU hW => ⟨rfl, by rw [hU], by rw [hU]; exact hPc, va_K.moved hW.alike hKc, hDc.weaken (fun _ _ _ _ => trivial), nw_ok.warm hW hN⟩⟩ rfl rfl hl.1 rfl (lv_room (Nat.le_of_ble_eq_true rfl)) d_WO_stateAfter_155 ⟨Nat.le_of_ble_eq_true rfl, Nat.le_of_ble_eq_true rfl⟩) hS (fun q _ h => hFc q h) hFc (fun q6 u t H6 locs ht hvm hr6 hB hz1 hk1 hS => ?_)
        have hr6 := (show q6 = r6 from hr6).symm
        subst hr6
        obtain ⟨hP1, hK1, hD1⟩ := hB
        rw [ht] at hP1
        have hK1 := va_K.moved hvm.symm hK1
        obtain ⟨hP, hD⟩ := va_join (wr := []) (w1 := [(a_wo, .inr (2, [.ref f_wo_kinds, .ref f_wo_places, .ref f_wo_values, .int v_wo_total, .int v_wo_state, .int v_wo_isRightSide, .int v_wo_faultPlace]))]) hP hD [0] [] rfl rfl (by decide) (by decide) hk1 hFc hP1 hD1
        have hK := (hK.sub (tys' := []) [] rfl).app hK1
        have hK : va_K (dC, dI) cls [] s := hK
        have hP : va_P (dC, dI) cls [(a_wo, .inr (2, [.ref f_wo_kinds, .ref f_wo_places, .ref f_wo_values, .int v_wo_total, .int v_wo_state, .int v_wo_isRightSide, .int v_wo_faultPlace]))] H6 := hP
        have hD : va_D A [(a_wo, .inr (2, [.ref f_wo_kinds, .ref f_wo_places, .ref f_wo_values, .int v_wo_total, .int v_wo_state, .int v_wo_isRightSide, .int v_wo_faultPlace]))] := hD
        refine lv_if_eq (tgt := 172) hx hb d_WO_stateAfter_158 (by decide) (fun hc23 => ?_) (fun hc23 => ?_)
        · have hs := sm_pos hc23 hs
          exact (key k9).2.2.2.2.2.2.2.2.2.1 _ _ _ _ hs hP hD hS (lv_sub hl [] rfl)
        · have hs := sm_neg hc23 hs
          refine lv_aload_n hx hb d_WO_stateAfter_161 rfl (lv_at hl 0 rfl) ?_
          refine va_get (D := (dC, dI)) (ci := 2) (v := .int v_wo_isRightSide) (C := R_WO) (T := T_WO) (N := 7) hx hb hts in_WO hown hK hP 0 rfl rfl 5 (by decide) (hts _ k_61) (fun _ h9 => h9) rfl d_WO_stateAfter_162 ?_
          refine lv_if_ne (tgt := 172) hx hb d_WO_stateAfter_165 (by decide) (fun hc24 => ?_) (fun hc24 => ?_)
          · have hs := sm_neg hc24 hs
            exact (key k9).2.2.2.2.2.2.2.2.2.1 _ _ _ _ hs hP hD hS (lv_sub hl [] rfl)
          · have hs := sm_pos hc24 hs
            refine lv_iconst (v := 0) hx hb d_WO_stateAfter_168 (by decide) ?_
            refine lv_goto (tgt := 173) hx hb d_WO_stateAfter_169 (by decide) ?_
            exact (key k9).2.2.2.2.2.2.2.2.2.2 _ _ _ _ hs hP hD hS (lv_sub hl [] rfl)
      have hs := sm_neg hc22 hs
      refine lv_tableOut (tgt := 174) hx hb d_WO_stateAfter_1 (sw_out [0, 1, 2, 3, 4, 5, 6, 7, 8] (by decide) (by decide) (List.forall_mem_cons.mpr ⟨hc1, List.forall_mem_cons.mpr ⟨hc4, List.forall_mem_cons.mpr ⟨hc6, List.forall_mem_cons.mpr ⟨hc8, List.forall_mem_cons.mpr ⟨hc11, List.forall_mem_cons.mpr ⟨hc13, List.forall_mem_cons.mpr ⟨hc16, List.forall_mem_cons.mpr ⟨hc19, List.forall_mem_cons.mpr ⟨hc22, fun _ h9 => absurd h9 List.not_mem_nil⟩⟩⟩⟩⟩⟩⟩⟩⟩)) (by decide) ?_
      refine lv_iconst (v := (-1)) hx hb d_WO_stateAfter_174 (by decide) ?_
      have he := sm_end hs
      subst he
      exact W.iret (v := (-1)) hx hb hr (fun t ht hW => ⟨⟨(-1), (), rfl, rfl, by rw [ht]; exact hP, va_K.moved hW.alike hK, hD⟩, hS.F ht⟩) hS.2.2 d_WO_stateAfter_175
