noncomputable def fx_LS_workX_A_b0 (a1 : Int32) (a2 : Int32) (_z0 : Int32) (_z1 : Int32) : Option ((Nat × Int32 × Int32) ⊕ (Unit)) := if (a1 : Int32) < 0 then (some (.inl (9, 0, 0))) else (if (a1 : Int32) ≤ 2 then (if (a1 : Int32) = 2 then (some (.inl (30, 10, a2))) else (some (.inl (30, 16, a2)))) else (some (.inl (9, 0, 0))))
noncomputable def fx_LS_workX_A_b9 (a1 : Int32) (a2 : Int32) (s0i : Int32) (s1i : Int32) : Option ((Nat × Int32 × Int32) ⊕ (Unit)) := some (.inr ())
noncomputable def fx_LS_workX_A_b30 (a1 : Int32) (a2 : Int32) (s0i : Int32) (s1i : Int32) : Option ((Nat × Int32 × Int32) ⊕ (Unit)) := none
noncomputable def fx_LS_workX_A (a1 : Int32) (a2 : Int32) : Nat × Int32 × Int32 → Option ((Nat × Int32 × Int32) ⊕ (Unit)) := fun st => match st with
  | (pc, s0i, s1i) => if pc = 0 then fx_LS_workX_A_b0 a1 a2 s0i s1i else if pc = 9 then fx_LS_workX_A_b9 a1 a2 s0i s1i else if pc = 30 then fx_LS_workX_A_b30 a1 a2 s0i s1i else none
theorem fx_LS_workX_A_q0 (a1 : Int32) (a2 : Int32) (s0i : Int32) (s1i : Int32) : fx_LS_workX_A a1 a2 (0, s0i, s1i) = fx_LS_workX_A_b0 a1 a2 s0i s1i := by simp [fx_LS_workX_A]
theorem fx_LS_workX_A_q9 (a1 : Int32) (a2 : Int32) (s0i : Int32) (s1i : Int32) : fx_LS_workX_A a1 a2 (9, s0i, s1i) = fx_LS_workX_A_b9 a1 a2 s0i s1i := by simp [fx_LS_workX_A]
theorem fx_LS_workX_A_q30 (a1 : Int32) (a2 : Int32) (s0i : Int32) (s1i : Int32) : fx_LS_workX_A a1 a2 (30, s0i, s1i) = fx_LS_workX_A_b30 a1 a2 s0i s1i := by simp [fx_LS_workX_A]
set_option maxHeartbeats 4000000 in
set_option maxRecDepth 100000 in
theorem x_LS_workX_A (l : Launch) (htr : l.stackTraces = false) (dC : Nat → ClassId) (dI : Nat → Nat → Nat) (a_ls : Nat) (a_tx : Nat) (a_wo : Nat) (a_bu : Nat) (a_la : Nat) (a_se : Nat) (f_ls_lists : Nat) (a_ch : Nat) (f_ls_told : Nat) (f_ls_rest : Nat) (f_ls_taken : Nat) (f_ls_bestVector : Nat) (a_sy : Nat) (v_ls_hasSystem : Int32) (v_ls_hasSplit : Int32) (v_ls_hasBest : Int32) (v_ls_faultPlace : Int32) (a1 : Int32) (a2 : Int32) (sz : Nat) (out : Unit) (hs : sm_tot (fx_LS_workX_A a1 a2) (0, 0, 0) = some out) : xt_Met l y_LS_work (Cond.code y_LS_work b_LS_work 4 (Option.some Jvm.ClassFile.FieldType.int) :: wd) { frames := 6, cells := 1, slots := 6, locals := 100 } (va_Pc [.ref a_ls, .int a1, .int a2] (fun U => U.heap.size = sz ∧ va_P (dC, dI) cls [(a_ls, .inr (0, [.ref a_tx, .ref a_wo, .ref a_bu, .ref a_la, .ref a_se, .ref f_ls_lists, .ref a_ch, .ref f_ls_told, .ref f_ls_rest, .ref f_ls_taken, .ref f_ls_bestVector, .ref a_sy, .int v_ls_hasSystem, .int v_ls_hasSplit, .int v_ls_hasBest, .int v_ls_faultPlace]))] U.heap ∧ va_K (dC, dI) cls [] U ∧ va_D (fun _ => True) [(a_ls, .inr (0, [.ref a_tx, .ref a_wo, .ref a_bu, .ref a_la, .ref a_se, .ref f_ls_lists, .ref a_ch, .ref f_ls_told, .ref f_ls_rest, .ref f_ls_taken, .ref f_ls_bestVector, .ref a_sy, .int v_ls_hasSystem, .int v_ls_hasSplit, .int v_ls_hasBest, .int v_ls_faultPlace]))] ∧ nw_ok U ∧ xs_ok U)) (fun _ st x t => xg_Q "java/lang/IllegalArgumentException" (va_A [(a_ls, .inr (0, [.ref a_tx, .ref a_wo, .ref a_bu, .ref a_la, .ref a_se, .ref f_ls_lists, .ref a_ch, .ref f_ls_told, .ref f_ls_rest, .ref f_ls_taken, .ref f_ls_bestVector, .ref a_sy, .int v_ls_hasSystem, .int v_ls_hasSplit, .int v_ls_hasBest, .int v_ls_faultPlace]))] sz) (fun t => va_P (dC, dI) cls [(a_ls, .inr (0, [.ref a_tx, .ref a_wo, .ref a_bu, .ref a_la, .ref a_se, .ref f_ls_lists, .ref a_ch, .ref f_ls_told, .ref f_ls_rest, .ref f_ls_taken, .ref f_ls_bestVector, .ref a_sy, .int v_ls_hasSystem, .int v_ls_hasSplit, .int v_ls_hasBest, .int v_ls_faultPlace]))] t.heap ∧ va_K (dC, dI) cls [] t ∧ va_D (va_A [(a_ls, .inr (0, [.ref a_tx, .ref a_wo, .ref a_bu, .ref a_la, .ref a_se, .ref f_ls_lists, .ref a_ch, .ref f_ls_told, .ref f_ls_rest, .ref f_ls_taken, .ref f_ls_bestVector, .ref a_sy, .int v_ls_hasSystem, .int v_ls_hasSplit, .int v_ls_hasBest, .int v_ls_faultPlace]))] sz) [(a_ls, .inr (0, [.ref a_tx, .ref a_wo, .ref a_bu, .ref a_la, .ref a_se, .ref f_ls_lists, .ref a_ch, .ref f_ls_told, .ref f_ls_rest, .ref f_ls_taken, .ref f_ls_bestVector, .ref a_sy, .int v_ls_hasSystem, .int v_ls_hasSplit, .int v_ls_hasBest, .int v_ls_faultPlace]))]) st x t) 1 6 (va_A [(a_ls, .inr (0, [.ref a_tx, .ref a_wo, .ref a_bu, .ref a_la, .ref a_se, .ref f_ls_lists, .ref a_ch, .ref f_ls_told, .ref f_ls_rest, .ref f_ls_taken, .ref f_ls_bestVector, .ref a_sy, .int v_ls_hasSystem, .int v_ls_hasSplit, .int v_ls_hasBest, .int v_ls_faultPlace]))] sz) := by
  refine xt_ofW (cc := b_LS_work) (maxL := 4) (ret := (Option.some Jvm.ClassFile.FieldType.int)) (by decide) rfl ?_
  intro p e s m args below meth c s₁ B hml hne hv
  obtain ⟨rfl, hsz, hP, hK, hD0, hN, hX⟩ := hv
  have hx := B.exec
  have hb := B.bytes
  have hr := B.returns
  have hlocks := B.notSynchronized
  have hts : ∀ w ∈ wd, w.before ([.ref a_ls, .int a1, .int a2] : List Value).toArray s = true := fun w hw => atoms_spec (ws := (Cond.code y_LS_work b_LS_work 4 (Option.some Jvm.ClassFile.FieldType.int) :: wd)) B.pre w (List.mem_cons_of_mem _ hw)
  have hpay := pay_in hts wd_gs
  have hown : s.vm.findClass "LeastSolutions" = some m.cls := findClass_of_methodNamed B.named
  subst hsz
  have hst := fun (q : Nat) (cell : Cell) (h1 : s.heap[q]? = some cell) (h2 : cell.vm.isStatics = true) => xg_st hP h1 h2
  have hD := hD0.self (sz := s.heap.size)
  generalize hAe : va_A [(a_ls, .inr (0, [.ref a_tx, .ref a_wo, .ref a_bu, .ref a_la, .ref a_se, .ref f_ls_lists, .ref a_ch, .ref f_ls_told, .ref f_ls_rest, .ref f_ls_taken, .ref f_ls_bestVector, .ref a_sy, .int v_ls_hasSystem, .int v_ls_hasSplit, .int v_ls_hasBest, .int v_ls_faultPlace]))] s.heap.size = A at hD hst ⊢
  have hA : ∀ q : Nat, s.heap.size ≤ q → A q := fun q h => by rw [← hAe]; exact Or.inr h
  have hS : va_S A s.heap s.heap [] := va_S.rf
  have hl := lv_entry ([.ref a_ls, .int a1, .int a2]) (n := 4) (Nat.le_of_ble_eq_true rfl)
  rw [lg_entry_eq]
  generalize (lg_sl ([.ref a_ls, .int a1, .int a2]) ++ List.replicate (4 - (lg_sl ([.ref a_ls, .int a1, .int a2])).length) Slot.unset).toArray = ls at hl ⊢
  have hl : lv_has ls 4 [(0, .ref a_ls), (1, .int a1), (2, .int a2)] := hl
  obtain ⟨k8, hs⟩ := sm_of hs
  refine sm_key (fun R Q k9 => (∀ (H : Heap) (locs : List Loc) (ls : Array Slot) (s0i : Int32) (s1i : Int32), sm_it (fx_LS_workX_A a1 a2) k9 (9, s0i, s1i) = some out → va_P (dC, dI) cls [(a_ls, .inr (0, [.ref a_tx, .ref a_wo, .ref a_bu, .ref a_la, .ref a_se, .ref f_ls_lists, .ref a_ch, .ref f_ls_told, .ref f_ls_rest, .ref f_ls_taken, .ref f_ls_bestVector, .ref a_sy, .int v_ls_hasSystem, .int v_ls_hasSplit, .int v_ls_hasBest, .int v_ls_faultPlace]))] H → va_D A [(a_ls, .inr (0, [.ref a_tx, .ref a_wo, .ref a_bu, .ref a_la, .ref a_se, .ref f_ls_lists, .ref a_ch, .ref f_ls_told, .ref f_ls_rest, .ref f_ls_taken, .ref f_ls_bestVector, .ref a_sy, .int v_ls_hasSystem, .int v_ls_hasSplit, .int v_ls_hasBest, .int v_ls_faultPlace]))] → va_S A s.heap H locs → lv_has ls 4 [] → W p l e R s m ([.ref a_ls, .int a1, .int a2] : List Value).toArray below meth c H locs 0 0 Q (F0 m 9 ls [])) ∧ (∀ (H : Heap) (locs : List Loc) (ls : Array Slot) (s0i : Int32) (s1i : Int32), sm_it (fx_LS_workX_A a1 a2) k9 (30, s0i, s1i) = some out → va_P (dC, dI) cls [(a_ls, .inr (0, [.ref a_tx, .ref a_wo, .ref a_bu, .ref a_la, .ref a_se, .ref f_ls_lists, .ref a_ch, .ref f_ls_told, .ref f_ls_rest, .ref f_ls_taken, .ref f_ls_bestVector, .ref a_sy, .int v_ls_hasSystem, .int v_ls_hasSplit, .int v_ls_hasBest, .int v_ls_faultPlace]))] H → va_D A [(a_ls, .inr (0, [.ref a_tx, .ref a_wo, .ref a_bu, .ref a_la, .ref a_se, .ref f_ls_lists, .ref a_ch, .ref f_ls_told, .ref f_ls_rest, .ref f_ls_taken, .ref f_ls_bestVector, .ref a_sy, .int v_ls_hasSystem, .int v_ls_hasSplit, .int v_ls_hasBest, .int v_ls_faultPlace]))] → va_S A s.heap H locs → lv_has ls 4 [(0, .ref a_ls), (1, .int a1), (2, .int a2)] → W p l e R s m ([.ref a_ls, .int a1, .int a2] : List Value).toArray below meth c H locs 0 0 Q (F0 m 30 ls [.int s0i, .int s1i]))) ?_ ?_ ?_
  · exact ⟨(fun _ _ _ _ _ hs => by cases hs), (fun _ _ _ _ _ hs => by cases hs)⟩
  · intro k9 ih
    refine ⟨?_, ?_⟩
    · intro H locs ls s0i s1i hs hP hD hS hl
      rw [sm_it_succ, fx_LS_workX_A_q9] at hs
      unfold fx_LS_workX_A_b9 at hs
      have he := sm_end hs
      subst he
      exact xg_throw (names := ["java/lang/RuntimeException", "java/lang/Exception"]) (ia := 146) (ic := 148) hx hb htr hml hl hne hlocks hown (by decide +kernel) (by decide +kernel) (fun U hW => hpay _ k_735 _ U hW) (fun U hW => hpay _ k_19 _ U hW) (fun U hW hU => oa_IAE (fun w hw => hpay w hw _ U hW) (xs_ok.grown hW.alike (fun q cell h1 h2 => by rw [hU, hS.2.1 q (Array.getElem?_eq_some_iff.mp h1).1 (hst q cell h1 h2)]; exact h1) hX)) d_LS_work_9 d_LS_work_12 d_LS_work_13 d_LS_work_16 (Nat.le_of_ble_eq_true rfl) (Nat.le_of_ble_eq_true rfl) (Nat.le_of_ble_eq_true rfl) (Nat.le_of_ble_eq_true rfl) hS.2.2 (fun x t q1 q2 q3 q4 hW => ⟨Nat.le_trans hS.1 q1, q2, ⟨hP.kept (fun k q hq => q4 q.1 (hP k q hq).lt), va_K.moved hW.alike hK, hD⟩, Nat.le_trans hS.1 q3, fun q h1 h2 => (q4 q (Nat.lt_of_lt_of_le h1 hS.1)).trans (hS.2.1 q h1 h2)⟩)
    · intro H locs ls s0i s1i hs hP hD hS hl
      rw [sm_it_succ, fx_LS_workX_A_q30] at hs
      unfold fx_LS_workX_A_b30 at hs
      cases hs
  · intro key
    cases k8 with
    | zero => cases hs
    | succ k9 =>
      rw [sm_it_succ, fx_LS_workX_A_q0] at hs
      unfold fx_LS_workX_A_b0 at hs
      refine lv_iload_n hx hb d_LS_work_0 rfl (lv_at hl 1 rfl) ?_
      refine lv_if_lt (tgt := 9) hx hb d_LS_work_1 (by decide) (fun hc1 => ?_) (fun hc1 => ?_)
      · have hs := sm_pos hc1 hs
        exact (key k9).1 _ _ _ _ _ hs hP hD hS (lv_sub hl [] rfl)
      · have hs := sm_neg hc1 hs
        refine lv_iload_n hx hb d_LS_work_4 rfl (lv_at hl 1 rfl) ?_
        refine lv_iconst (v := 2) hx hb d_LS_work_5 (by decide) ?_
        refine lv_icmp_le (tgt := 17) hx hb d_LS_work_6 (by decide) (fun hc2 => ?_) (fun hc2 => ?_)
        · have hs := sm_pos hc2 hs
          refine lv_iload_n hx hb d_LS_work_17 rfl (lv_at hl 2 rfl) ?_
          refine lv_iload_n hx hb d_LS_work_18 rfl (lv_at hl 1 rfl) ?_
          refine lv_iconst (v := 2) hx hb d_LS_work_19 (by decide) ?_
          refine lv_icmp_ne (tgt := 28) hx hb d_LS_work_20 (by decide) (fun hc3 => ?_) (fun hc3 => ?_)
          · have hs := sm_neg hc3 hs
            refine lv_bipush (v := 16) hx hb d_LS_work_28 (by decide) ?_
            exact (key k9).2 _ _ _ _ _ hs hP hD hS (lv_sub hl [0, 1, 2] rfl)
          · have hs := sm_pos hc3 hs
            refine lv_bipush (v := 10) hx hb d_LS_work_23 (by decide) ?_
            refine lv_goto (tgt := 30) hx hb d_LS_work_25 (by decide) ?_
            exact (key k9).2 _ _ _ _ _ hs hP hD hS (lv_sub hl [0, 1, 2] rfl)
        · have hs := sm_neg hc2 hs
          exact (key k9).1 _ _ _ _ _ hs hP hD hS (lv_sub hl [] rfl)

noncomputable def fx_LS_work0_A_b0 (a2 : Int32) (_z0 : Int32) (_z1 : Int32) : Option ((Nat × Int32 × Int32) ⊕ (Unit)) := some (.inl (30, 16, a2))
noncomputable def fx_LS_work0_A_b30 (a2 : Int32) (s0i : Int32) (s1i : Int32) : Option ((Nat × Int32 × Int32) ⊕ (Unit)) := sm_or (sm_tot (fx_LS_needBound_A s1i s0i) 0) (fun _ => some (.inr ())) ((sm_tot (fn_LS_needBound s1i s0i) 0).bind (fun r2 => none))
noncomputable def fx_LS_work0_A (a2 : Int32) : Nat × Int32 × Int32 → Option ((Nat × Int32 × Int32) ⊕ (Unit)) := fun st => match st with
  | (pc, s0i, s1i) => if pc = 0 then fx_LS_work0_A_b0 a2 s0i s1i else if pc = 30 then fx_LS_work0_A_b30 a2 s0i s1i else none
theorem fx_LS_work0_A_q0 (a2 : Int32) (s0i : Int32) (s1i : Int32) : fx_LS_work0_A a2 (0, s0i, s1i) = fx_LS_work0_A_b0 a2 s0i s1i := by simp [fx_LS_work0_A]
theorem fx_LS_work0_A_q30 (a2 : Int32) (s0i : Int32) (s1i : Int32) : fx_LS_work0_A a2 (30, s0i, s1i) = fx_LS_work0_A_b30 a2 s0i s1i := by simp [fx_LS_work0_A]
set_option maxHeartbeats 4000000 in
set_option maxRecDepth 100000 in
theorem x_LS_work0_A (l : Launch) (htr : l.stackTraces = false) (dC : Nat → ClassId) (dI : Nat → Nat → Nat) (a_ls : Nat) (a_tx : Nat) (a_wo : Nat) (a_bu : Nat) (a_la : Nat) (a_se : Nat) (f_ls_lists : Nat) (a_ch : Nat) (f_ls_told : Nat) (f_ls_rest : Nat) (f_ls_taken : Nat) (f_ls_bestVector : Nat) (a_sy : Nat) (v_ls_hasSystem : Int32) (v_ls_hasSplit : Int32) (v_ls_hasBest : Int32) (v_ls_faultPlace : Int32) (a2 : Int32) (sz : Nat) (out : Unit) (hs : sm_tot (fx_LS_work0_A a2) (0, 0, 0) = some out) : xt_Met l y_LS_work (Cond.code y_LS_work b_LS_work 4 (Option.some Jvm.ClassFile.FieldType.int) :: wd) { frames := 7, cells := 1, slots := 6, locals := 121 } (va_Pc [.ref a_ls, .int 0, .int a2] (fun U => U.heap.size = sz ∧ va_P (dC, dI) cls [(a_ls, .inr (0, [.ref a_tx, .ref a_wo, .ref a_bu, .ref a_la, .ref a_se, .ref f_ls_lists, .ref a_ch, .ref f_ls_told, .ref f_ls_rest, .ref f_ls_taken, .ref f_ls_bestVector, .ref a_sy, .int v_ls_hasSystem, .int v_ls_hasSplit, .int v_ls_hasBest, .int v_ls_faultPlace]))] U.heap ∧ va_K (dC, dI) cls [] U ∧ va_D (fun _ => True) [(a_ls, .inr (0, [.ref a_tx, .ref a_wo, .ref a_bu, .ref a_la, .ref a_se, .ref f_ls_lists, .ref a_ch, .ref f_ls_told, .ref f_ls_rest, .ref f_ls_taken, .ref f_ls_bestVector, .ref a_sy, .int v_ls_hasSystem, .int v_ls_hasSplit, .int v_ls_hasBest, .int v_ls_faultPlace]))] ∧ nw_ok U ∧ xs_ok U)) (fun _ st x t => xg_Q "java/lang/IllegalArgumentException" (va_A [(a_ls, .inr (0, [.ref a_tx, .ref a_wo, .ref a_bu, .ref a_la, .ref a_se, .ref f_ls_lists, .ref a_ch, .ref f_ls_told, .ref f_ls_rest, .ref f_ls_taken, .ref f_ls_bestVector, .ref a_sy, .int v_ls_hasSystem, .int v_ls_hasSplit, .int v_ls_hasBest, .int v_ls_faultPlace]))] sz) (fun t => va_P (dC, dI) cls [(a_ls, .inr (0, [.ref a_tx, .ref a_wo, .ref a_bu, .ref a_la, .ref a_se, .ref f_ls_lists, .ref a_ch, .ref f_ls_told, .ref f_ls_rest, .ref f_ls_taken, .ref f_ls_bestVector, .ref a_sy, .int v_ls_hasSystem, .int v_ls_hasSplit, .int v_ls_hasBest, .int v_ls_faultPlace]))] t.heap ∧ va_K (dC, dI) cls [] t ∧ va_D (va_A [(a_ls, .inr (0, [.ref a_tx, .ref a_wo, .ref a_bu, .ref a_la, .ref a_se, .ref f_ls_lists, .ref a_ch, .ref f_ls_told, .ref f_ls_rest, .ref f_ls_taken, .ref f_ls_bestVector, .ref a_sy, .int v_ls_hasSystem, .int v_ls_hasSplit, .int v_ls_hasBest, .int v_ls_faultPlace]))] sz) [(a_ls, .inr (0, [.ref a_tx, .ref a_wo, .ref a_bu, .ref a_la, .ref a_se, .ref f_ls_lists, .ref a_ch, .ref f_ls_told, .ref f_ls_rest, .ref f_ls_taken, .ref f_ls_bestVector, .ref a_sy, .int v_ls_hasSystem, .int v_ls_hasSplit, .int v_ls_hasBest, .int v_ls_faultPlace]))]) st x t) 1 6 (va_A [(a_ls, .inr (0, [.ref a_tx, .ref a_wo, .ref a_bu, .ref a_la, .ref a_se, .ref f_ls_lists, .ref a_ch, .ref f_ls_told, .ref f_ls_rest, .ref f_ls_taken, .ref f_ls_bestVector, .ref a_sy, .int v_ls_hasSystem, .int v_ls_hasSplit, .int v_ls_hasBest, .int v_ls_faultPlace]))] sz) := by
  refine xt_ofW (cc := b_LS_work) (maxL := 4) (ret := (Option.some Jvm.ClassFile.FieldType.int)) (by decide) rfl ?_
  intro p e s m args below meth c s₁ B hml hne hv
  obtain ⟨rfl, hsz, hP, hK, hD0, hN, hX⟩ := hv
  have hx := B.exec
  have hb := B.bytes
  have hr := B.returns
  have hlocks := B.notSynchronized
  have hts : ∀ w ∈ wd, w.before ([.ref a_ls, .int 0, .int a2] : List Value).toArray s = true := fun w hw => atoms_spec (ws := (Cond.code y_LS_work b_LS_work 4 (Option.some Jvm.ClassFile.FieldType.int) :: wd)) B.pre w (List.mem_cons_of_mem _ hw)
  have hpay := pay_in hts wd_gs
  have hown : s.vm.findClass "LeastSolutions" = some m.cls := findClass_of_methodNamed B.named
  subst hsz
  have hst := fun (q : Nat) (cell : Cell) (h1 : s.heap[q]? = some cell) (h2 : cell.vm.isStatics = true) => xg_st hP h1 h2
  have hD := hD0.self (sz := s.heap.size)
  generalize hAe : va_A [(a_ls, .inr (0, [.ref a_tx, .ref a_wo, .ref a_bu, .ref a_la, .ref a_se, .ref f_ls_lists, .ref a_ch, .ref f_ls_told, .ref f_ls_rest, .ref f_ls_taken, .ref f_ls_bestVector, .ref a_sy, .int v_ls_hasSystem, .int v_ls_hasSplit, .int v_ls_hasBest, .int v_ls_faultPlace]))] s.heap.size = A at hD hst ⊢
  have hA : ∀ q : Nat, s.heap.size ≤ q → A q := fun q h => by rw [← hAe]; exact Or.inr h
  have hS : va_S A s.heap s.heap [] := va_S.rf
  have hl := lv_entry ([.ref a_ls, .int 0, .int a2]) (n := 4) (Nat.le_of_ble_eq_true rfl)
  rw [lg_entry_eq]
  generalize (lg_sl ([.ref a_ls, .int 0, .int a2]) ++ List.replicate (4 - (lg_sl ([.ref a_ls, .int 0, .int a2])).length) Slot.unset).toArray = ls at hl ⊢
  have hl : lv_has ls 4 [(0, .ref a_ls), (1, .int 0), (2, .int a2)] := hl
  obtain ⟨k8, hs⟩ := sm_of hs
  refine sm_key (fun R Q k9 => (∀ (H : Heap) (locs : List Loc) (ls : Array Slot) (s0i : Int32) (s1i : Int32), sm_it (fx_LS_work0_A a2) k9 (30, s0i, s1i) = some out → va_P (dC, dI) cls [(a_ls, .inr (0, [.ref a_tx, .ref a_wo, .ref a_bu, .ref a_la, .ref a_se, .ref f_ls_lists, .ref a_ch, .ref f_ls_told, .ref f_ls_rest, .ref f_ls_taken, .ref f_ls_bestVector, .ref a_sy, .int v_ls_hasSystem, .int v_ls_hasSplit, .int v_ls_hasBest, .int v_ls_faultPlace]))] H → va_D A [(a_ls, .inr (0, [.ref a_tx, .ref a_wo, .ref a_bu, .ref a_la, .ref a_se, .ref f_ls_lists, .ref a_ch, .ref f_ls_told, .ref f_ls_rest, .ref f_ls_taken, .ref f_ls_bestVector, .ref a_sy, .int v_ls_hasSystem, .int v_ls_hasSplit, .int v_ls_hasBest, .int v_ls_faultPlace]))] → va_S A s.heap H locs → lv_has ls 4 [(0, .ref a_ls), (1, .int 0), (2, .int a2)] → W p l e R s m ([.ref a_ls, .int 0, .int a2] : List Value).toArray below meth c H locs 0 0 Q (F0 m 30 ls [.int s0i, .int s1i]))) ?_ ?_ ?_
  · exact fun _ _ _ _ _ hs => by cases hs
  · intro k9 ih
    skip
    intro H locs ls s0i s1i hs hP hD hS hl
    rw [sm_it_succ, fx_LS_work0_A_q30] at hs
    unfold fx_LS_work0_A_b30 at hs
    rcases sm_orc hs with ⟨r1, hq1, hs⟩ | ⟨hq1, hs⟩
    · have he := sm_end hs
      subst he
      have hPc := hP.sub (ws' := []) [] rfl
      have hDc := hD.sub (ws' := []) [] (by decide) rfl
      have hKc := hK.sub (tys' := []) [] rfl
      have hFc := va_free (wc := []) hD hS hA [] rfl
      refine xg_out (xt_runS (As := [.int s1i, .int s0i]) (rest := []) ⟨hx, hb, hml, hown, hts⟩ (x_LS_needBound_A l htr dC dI (s1i) (s0i) H.size r1 hq1) (wd_S 2 hts k_752 k_1 k_750 k_751 rfl rfl (by decide +kernel) ⟨Nat.le_of_ble_eq_true rfl, Nat.le_of_ble_eq_true rfl⟩) ⟨fun a U g mk q => by obtain ⟨q0, q1, qP, qK, qD, qN, qX⟩ := q; exact ⟨q0, q1, qP, va_K.moved (u := U) (U := U.calling g mk a) (Vm.Alike.refl U.vm) qK, qD, nw_ok.same (s := U) (U := U.calling g mk a) rfl qN, xs_ok.moved (s := U) (Vm.Alike.refl U.vm) (fun _ _ => rfl) qX⟩, fun U hU hW => ⟨rfl, by rw [hU], by rw [hU]; exact hPc, va_K.moved hW.alike hKc, hDc.weaken (fun _ _ _ _ => trivial), nw_ok.warm hW hN, xs_ok.grown hW.alike (fun q cell h1 h2 => by rw [hU, hS.2.1 q (Array.getElem?_eq_some_iff.mp h1).1 (hst q cell h1 h2)]; exact h1) hX⟩⟩ rfl rfl hl.1 rfl (lv_room (Nat.le_of_ble_eq_true rfl)) d_LS_work_30 ⟨Nat.le_of_ble_eq_true rfl, Nat.le_of_ble_eq_true rfl⟩) hne hlocks (fun q h => hFc q h) hS.2.2 (fun st x t U h0 hQ e1 e2 hW => ?_)
      obtain ⟨q1, ⟨ce, q2, q3, q4⟩, ⟨hP1, hK1, hD1⟩, q5, q6⟩ := hQ
      have hk1 : ∀ q : Nat, q < H.size → ¬ va_A [] H.size q → t.heap[q]? = H[q]? := fun q h1 h2 => by rw [← h0]; exact q6 q (by rw [h0]; exact h1) h2
      rw [h0] at q1 q5
      obtain ⟨hP, hD⟩ := va_join (wr := [(a_ls, .inr (0, [.ref a_tx, .ref a_wo, .ref a_bu, .ref a_la, .ref a_se, .ref f_ls_lists, .ref a_ch, .ref f_ls_told, .ref f_ls_rest, .ref f_ls_taken, .ref f_ls_bestVector, .ref a_sy, .int v_ls_hasSystem, .int v_ls_hasSplit, .int v_ls_hasBest, .int v_ls_faultPlace]))]) (w1 := []) hP hD [] [0] rfl rfl (by decide) (by decide) hk1 hFc hP1 hD1
      have hP : va_P (dC, dI) cls [(a_ls, .inr (0, [.ref a_tx, .ref a_wo, .ref a_bu, .ref a_la, .ref a_se, .ref f_ls_lists, .ref a_ch, .ref f_ls_told, .ref f_ls_rest, .ref f_ls_taken, .ref f_ls_bestVector, .ref a_sy, .int v_ls_hasSystem, .int v_ls_hasSplit, .int v_ls_hasBest, .int v_ls_faultPlace]))] t.heap := hP
      have hD : va_D A [(a_ls, .inr (0, [.ref a_tx, .ref a_wo, .ref a_bu, .ref a_la, .ref a_se, .ref f_ls_lists, .ref a_ch, .ref f_ls_told, .ref f_ls_rest, .ref f_ls_taken, .ref f_ls_bestVector, .ref a_sy, .int v_ls_hasSystem, .int v_ls_hasSplit, .int v_ls_hasBest, .int v_ls_faultPlace]))] := hD
      exact ⟨Nat.le_trans hS.1 q1, ⟨ce, by rw [e1]; exact q2, q3, by rw [e2]; exact q4⟩, ⟨by rw [e1]; exact hP, va_K.moved hW.alike hK, hD⟩, by rw [e1]; exact Nat.le_trans hS.1 q5, fun q h1 h2 => by rw [e1]; exact (hk1 q (Nat.lt_of_lt_of_le h1 hS.1) (fun z => h2 (hFc q z))).trans (hS.2.1 q h1 h2)⟩
    obtain ⟨r2, hq2, hs⟩ := sm_bd hs
    have hPc := hP.sub (ws' := []) [] rfl
    have hDc := hD.sub (ws' := []) [] (by decide) rfl
    have hKc := hK.sub (tys' := []) [] rfl
    have hFc := va_free (wc := []) hD hS hA [] rfl
    refine va_callv (va_runS (As := [.int s1i, .int s0i]) (rest := []) ⟨hx, hb, hml, hown, hts⟩ (c_LS_needBound l dC dI (s1i) (s0i) H.size r2 hq2) (wd_S 2 hts k_752 k_1 k_750 k_751 rfl rfl (by decide +kernel) ⟨Nat.le_of_ble_eq_true rfl, Nat.le_of_ble_eq_true rfl⟩) ⟨fun a U g mk q => by obtain ⟨q0, q1, qP, qK, qD, qN⟩ := q; exact ⟨q0, q1, qP, va_K.moved (u := U) (U := U.calling g mk a) (Vm.Alike.refl U.vm) qK, qD, nw_ok.same (s := U) (U := U.calling g mk a) rfl qN⟩, fun U hU hW => ⟨rfl, by rw [hU], by rw [hU]; exact hPc, va_K.moved hW.alike hKc, hDc.weaken (fun _ _ _ _ => trivial), nw_ok.warm hW hN⟩⟩ rfl rfl hl.1 rfl (lv_room (Nat.le_of_ble_eq_true rfl)) d_LS_work_30 ⟨Nat.le_of_ble_eq_true rfl, Nat.le_of_ble_eq_true rfl⟩) hS (fun q _ h => hFc q h) hFc (fun u t H1 locs ht hvm hr1 hB hz1 hk1 hS => ?_)
    obtain ⟨hP1, hK1, hD1⟩ := hB
    rw [ht] at hP1
    have hK1 := va_K.moved hvm.symm hK1
    obtain ⟨hP, hD⟩ := va_join (wr := [(a_ls, .inr (0, [.ref a_tx, .ref a_wo, .ref a_bu, .ref a_la, .ref a_se, .ref f_ls_lists, .ref a_ch, .ref f_ls_told, .ref f_ls_rest, .ref f_ls_taken, .ref f_ls_bestVector, .ref a_sy, .int v_ls_hasSystem, .int v_ls_hasSplit, .int v_ls_hasBest, .int v_ls_faultPlace]))]) (w1 := []) hP hD [] [0] rfl rfl (by decide) (by decide) hk1 hFc hP1 hD1
    have hK := (hK.sub (tys' := []) [] rfl).app hK1
    have hK : va_K (dC, dI) cls [] s := hK
    have hP : va_P (dC, dI) cls [(a_ls, .inr (0, [.ref a_tx, .ref a_wo, .ref a_bu, .ref a_la, .ref a_se, .ref f_ls_lists, .ref a_ch, .ref f_ls_told, .ref f_ls_rest, .ref f_ls_taken, .ref f_ls_bestVector, .ref a_sy, .int v_ls_hasSystem, .int v_ls_hasSplit, .int v_ls_hasBest, .int v_ls_faultPlace]))] H1 := hP
    have hD : va_D A [(a_ls, .inr (0, [.ref a_tx, .ref a_wo, .ref a_bu, .ref a_la, .ref a_se, .ref f_ls_lists, .ref a_ch, .ref f_ls_told, .ref f_ls_rest, .ref f_ls_taken, .ref f_ls_bestVector, .ref a_sy, .int v_ls_hasSystem, .int v_ls_hasSplit, .int v_ls_hasBest, .int v_ls_faultPlace]))] := hD
    refine lv_aload_n hx hb d_LS_work_33 rfl (lv_at hl 0 rfl) ?_
    cases hs
  · intro key
    cases k8 with
    | zero => cases hs
    | succ k9 =>
      rw [sm_it_succ, fx_LS_work0_A_q0] at hs
      unfold fx_LS_work0_A_b0 at hs
      refine lv_iload_n hx hb d_LS_work_0 rfl (lv_at hl 1 rfl) ?_
      refine lv_if_lt (tgt := 9) hx hb d_LS_work_1 (by decide) (fun h9 => absurd h9 (by decide)) (fun _ => ?_)
      refine lv_iload_n hx hb d_LS_work_4 rfl (lv_at hl 1 rfl) ?_
      refine lv_iconst (v := 2) hx hb d_LS_work_5 (by decide) ?_
      refine lv_icmp_le (tgt := 17) hx hb d_LS_work_6 (by decide) (fun _ => ?_) (fun h9 => absurd (by decide) h9)
      refine lv_iload_n hx hb d_LS_work_17 rfl (lv_at hl 2 rfl) ?_
      refine lv_iload_n hx hb d_LS_work_18 rfl (lv_at hl 1 rfl) ?_
      refine lv_iconst (v := 2) hx hb d_LS_work_19 (by decide) ?_
      refine lv_icmp_ne (tgt := 28) hx hb d_LS_work_20 (by decide) (fun _ => ?_) (fun h9 => absurd h9 (by decide))
      refine lv_bipush (v := 16) hx hb d_LS_work_28 (by decide) ?_
      exact (key k9) _ _ _ _ _ hs hP hD hS (lv_sub hl [0, 1, 2] rfl)

noncomputable def fx_LS_work0_S_b0 (a2 : Int32) (v_ls_hasSystem : Int32) (_z0 : Int32) (_z1 : Int32) (v_ls_hasSplit : Int32) : Option ((Nat × Int32 × Int32 × Int32) ⊕ (Int32)) := some (.inl (30, 16, a2, v_ls_hasSplit))
noncomputable def fx_LS_work0_S_b30 (a2 : Int32) (v_ls_hasSystem : Int32) (s0i : Int32) (s1i : Int32) (w_ls_hasSplit : Int32) : Option ((Nat × Int32 × Int32 × Int32) ⊕ (Int32)) := (sm_tot (fn_LS_needBound s1i s0i) 0).bind (fun r1 => sm_or (sm_tot (fx_LS_needSystem_S v_ls_hasSystem) 0) (fun _ => some (.inr w_ls_hasSplit)) ((sm_tot (fn_LS_needSystem v_ls_hasSystem) 0).bind (fun r3 => some (.inl (47, 0, 0, 0)))))
noncomputable def fx_LS_work0_S_b47 (a2 : Int32) (v_ls_hasSystem : Int32) (s0i : Int32) (s1i : Int32) (w_ls_hasSplit : Int32) : Option ((Nat × Int32 × Int32 × Int32) ⊕ (Int32)) := none
noncomputable def fx_LS_work0_S (a2 : Int32) (v_ls_hasSystem : Int32) : Nat × Int32 × Int32 × Int32 → Option ((Nat × Int32 × Int32 × Int32) ⊕ (Int32)) := fun st => match st with
  | (pc, s0i, s1i, w_ls_hasSplit) => if pc = 0 then fx_LS_work0_S_b0 a2 v_ls_hasSystem s0i s1i w_ls_hasSplit else if pc = 30 then fx_LS_work0_S_b30 a2 v_ls_hasSystem s0i s1i w_ls_hasSplit else if pc = 47 then fx_LS_work0_S_b47 a2 v_ls_hasSystem s0i s1i w_ls_hasSplit else none
theorem fx_LS_work0_S_q0 (a2 : Int32) (v_ls_hasSystem : Int32) (s0i : Int32) (s1i : Int32) (w_ls_hasSplit : Int32) : fx_LS_work0_S a2 v_ls_hasSystem (0, s0i, s1i, w_ls_hasSplit) = fx_LS_work0_S_b0 a2 v_ls_hasSystem s0i s1i w_ls_hasSplit := by simp [fx_LS_work0_S]
theorem fx_LS_work0_S_q30 (a2 : Int32) (v_ls_hasSystem : Int32) (s0i : Int32) (s1i : Int32) (w_ls_hasSplit : Int32) : fx_LS_work0_S a2 v_ls_hasSystem (30, s0i, s1i, w_ls_hasSplit) = fx_LS_work0_S_b30 a2 v_ls_hasSystem s0i s1i w_ls_hasSplit := by simp [fx_LS_work0_S]
theorem fx_LS_work0_S_q47 (a2 : Int32) (v_ls_hasSystem : Int32) (s0i : Int32) (s1i : Int32) (w_ls_hasSplit : Int32) : fx_LS_work0_S a2 v_ls_hasSystem (47, s0i, s1i, w_ls_hasSplit) = fx_LS_work0_S_b47 a2 v_ls_hasSystem s0i s1i w_ls_hasSplit := by simp [fx_LS_work0_S]
set_option maxHeartbeats 4000000 in
set_option maxRecDepth 100000 in
theorem x_LS_work0_S (l : Launch) (htr : l.stackTraces = false) (dC : Nat → ClassId) (dI : Nat → Nat → Nat) (a_ls : Nat) (a_tx : Nat) (a_wo : Nat) (a_bu : Nat) (a_la : Nat) (a_se : Nat) (f_ls_lists : Nat) (a_ch : Nat) (f_ls_told : Nat) (f_ls_rest : Nat) (f_ls_taken : Nat) (f_ls_bestVector : Nat) (a_sy : Nat) (v_ls_hasSystem : Int32) (v_ls_hasSplit : Int32) (v_ls_hasBest : Int32) (v_ls_faultPlace : Int32) (k_ls_lists : ClassId) (r_ls_lists : Nat → Nat) (a2 : Int32) (sz : Nat) (out : Int32) (hs : sm_tot (fx_LS_work0_S a2 v_ls_hasSystem) (0, 0, 0, v_ls_hasSplit) = some out) : xt_Met l y_LS_work (Cond.code y_LS_work b_LS_work 4 (Option.some Jvm.ClassFile.FieldType.int) :: wd) { frames := 7, cells := 1, slots := 6, locals := 120 } (va_Pc [.ref a_ls, .int 0, .int a2] (fun U => U.heap.size = sz ∧ va_P (dC, dI) cls [(a_ls, .inr (0, [.ref a_tx, .ref a_wo, .ref a_bu, .ref a_la, .ref a_se, .ref f_ls_lists, .ref a_ch, .ref f_ls_told, .ref f_ls_rest, .ref f_ls_taken, .ref f_ls_bestVector, .ref a_sy, .int v_ls_hasSystem, .int v_ls_hasSplit, .int v_ls_hasBest, .int v_ls_faultPlace])), (f_ls_lists, .inl (k_ls_lists, 3, .inr (.inr (.inr (.inr (fun i9 => some (r_ls_lists i9)))))))] U.heap ∧ va_K (dC, dI) cls [(k_ls_lists, .object "LeastSolutions$VectorList")] U ∧ va_D (fun _ => True) [(a_ls, .inr (0, [.ref a_tx, .ref a_wo, .ref a_bu, .ref a_la, .ref a_se, .ref f_ls_lists, .ref a_ch, .ref f_ls_told, .ref f_ls_rest, .ref f_ls_taken, .ref f_ls_bestVector, .ref a_sy, .int v_ls_hasSystem, .int v_ls_hasSplit, .int v_ls_hasBest, .int v_ls_faultPlace])), (f_ls_lists, .inl (k_ls_lists, 3, .inr (.inr (.inr (.inr (fun i9 => some (r_ls_lists i9)))))))] ∧ nw_ok U ∧ xs_ok U)) (fun _ st x t => xg_Q "java/lang/IllegalStateException" (va_A [(a_ls, .inr (0, [.ref a_tx, .ref a_wo, .ref a_bu, .ref a_la, .ref a_se, .ref f_ls_lists, .ref a_ch, .ref f_ls_told, .ref f_ls_rest, .ref f_ls_taken, .ref f_ls_bestVector, .ref a_sy, .int v_ls_hasSystem, .int v_ls_hasSplit, .int v_ls_hasBest, .int v_ls_faultPlace])), (f_ls_lists, .inl (k_ls_lists, 3, .inr (.inr (.inr (.inr (fun i9 => some (r_ls_lists i9)))))))] sz) (fun t => va_P (dC, dI) cls [(a_ls, .inr (0, [.ref a_tx, .ref a_wo, .ref a_bu, .ref a_la, .ref a_se, .ref f_ls_lists, .ref a_ch, .ref f_ls_told, .ref f_ls_rest, .ref f_ls_taken, .ref f_ls_bestVector, .ref a_sy, .int v_ls_hasSystem, .int out, .int v_ls_hasBest, .int v_ls_faultPlace])), (f_ls_lists, .inl (k_ls_lists, 3, .inr (.inr (.inr (.inr (fun i9 => some (r_ls_lists i9)))))))] t.heap ∧ va_K (dC, dI) cls [(k_ls_lists, .object "LeastSolutions$VectorList")] t ∧ va_D (va_A [(a_ls, .inr (0, [.ref a_tx, .ref a_wo, .ref a_bu, .ref a_la, .ref a_se, .ref f_ls_lists, .ref a_ch, .ref f_ls_told, .ref f_ls_rest, .ref f_ls_taken, .ref f_ls_bestVector, .ref a_sy, .int v_ls_hasSystem, .int v_ls_hasSplit, .int v_ls_hasBest, .int v_ls_faultPlace])), (f_ls_lists, .inl (k_ls_lists, 3, .inr (.inr (.inr (.inr (fun i9 => some (r_ls_lists i9)))))))] sz) [(a_ls, .inr (0, [.ref a_tx, .ref a_wo, .ref a_bu, .ref a_la, .ref a_se, .ref f_ls_lists, .ref a_ch, .ref f_ls_told, .ref f_ls_rest, .ref f_ls_taken, .ref f_ls_bestVector, .ref a_sy, .int v_ls_hasSystem, .int out, .int v_ls_hasBest, .int v_ls_faultPlace])), (f_ls_lists, .inl (k_ls_lists, 3, .inr (.inr (.inr (.inr (fun i9 => some (r_ls_lists i9)))))))]) st x t) 1 6 (va_A [(a_ls, .inr (0, [.ref a_tx, .ref a_wo, .ref a_bu, .ref a_la, .ref a_se, .ref f_ls_lists, .ref a_ch, .ref f_ls_told, .ref f_ls_rest, .ref f_ls_taken, .ref f_ls_bestVector, .ref a_sy, .int v_ls_hasSystem, .int v_ls_hasSplit, .int v_ls_hasBest, .int v_ls_faultPlace])), (f_ls_lists, .inl (k_ls_lists, 3, .inr (.inr (.inr (.inr (fun i9 => some (r_ls_lists i9)))))))] sz) := by
  refine xt_ofW (cc := b_LS_work) (maxL := 4) (ret := (Option.some Jvm.ClassFile.FieldType.int)) (by decide) rfl ?_
  intro p e s m args below meth c s₁ B hml hne hv
  obtain ⟨rfl, hsz, hP, hK, hD0, hN, hX⟩ := hv
  have hx := B.exec
  have hb := B.bytes
  have hr := B.returns
  have hlocks := B.notSynchronized
  have hts : ∀ w ∈ wd, w.before ([.ref a_ls, .int 0, .int a2] : List Value).toArray s = true := fun w hw => atoms_spec (ws := (Cond.code y_LS_work b_LS_work 4 (Option.some Jvm.ClassFile.FieldType.int) :: wd)) B.pre w (List.mem_cons_of_mem _ hw)
  have hpay := pay_in hts wd_gs
  have hown : s.vm.findClass "LeastSolutions" = some m.cls := findClass_of_methodNamed B.named
  subst hsz
  have hst := fun (q : Nat) (cell : Cell) (h1 : s.heap[q]? = some cell) (h2 : cell.vm.isStatics = true) => xg_st hP h1 h2
  have hD := hD0.self (sz := s.heap.size)
  generalize hAe : va_A [(a_ls, .inr (0, [.ref a_tx, .ref a_wo, .ref a_bu, .ref a_la, .ref a_se, .ref f_ls_lists, .ref a_ch, .ref f_ls_told, .ref f_ls_rest, .ref f_ls_taken, .ref f_ls_bestVector, .ref a_sy, .int v_ls_hasSystem, .int v_ls_hasSplit, .int v_ls_hasBest, .int v_ls_faultPlace])), (f_ls_lists, .inl (k_ls_lists, 3, .inr (.inr (.inr (.inr (fun i9 => some (r_ls_lists i9)))))))] s.heap.size = A at hD hst ⊢
  have hA : ∀ q : Nat, s.heap.size ≤ q → A q := fun q h => by rw [← hAe]; exact Or.inr h
  have hS : va_S A s.heap s.heap [] := va_S.rf
  have hl := lv_entry ([.ref a_ls, .int 0, .int a2]) (n := 4) (Nat.le_of_ble_eq_true rfl)
  rw [lg_entry_eq]
  generalize (lg_sl ([.ref a_ls, .int 0, .int a2]) ++ List.replicate (4 - (lg_sl ([.ref a_ls, .int 0, .int a2])).length) Slot.unset).toArray = ls at hl ⊢
  have hl : lv_has ls 4 [(0, .ref a_ls), (1, .int 0), (2, .int a2)] := hl
  obtain ⟨k8, hs⟩ := sm_of hs
  refine sm_key (fun R Q k9 => (∀ (H : Heap) (locs : List Loc) (ls : Array Slot) (s0i : Int32) (s1i : Int32) (w_ls_hasSplit : Int32), sm_it (fx_LS_work0_S a2 v_ls_hasSystem) k9 (30, s0i, s1i, w_ls_hasSplit) = some out → va_P (dC, dI) cls [(a_ls, .inr (0, [.ref a_tx, .ref a_wo, .ref a_bu, .ref a_la, .ref a_se, .ref f_ls_lists, .ref a_ch, .ref f_ls_told, .ref f_ls_rest, .ref f_ls_taken, .ref f_ls_bestVector, .ref a_sy, .int v_ls_hasSystem, .int w_ls_hasSplit, .int v_ls_hasBest, .int v_ls_faultPlace])), (f_ls_lists, .inl (k_ls_lists, 3, .inr (.inr (.inr (.inr (fun i9 => some (r_ls_lists i9)))))))] H → va_D A [(a_ls, .inr (0, [.ref a_tx, .ref a_wo, .ref a_bu, .ref a_la, .ref a_se, .ref f_ls_lists, .ref a_ch, .ref f_ls_told, .ref f_ls_rest, .ref f_ls_taken, .ref f_ls_bestVector, .ref a_sy, .int v_ls_hasSystem, .int w_ls_hasSplit, .int v_ls_hasBest, .int v_ls_faultPlace])), (f_ls_lists, .inl (k_ls_lists, 3, .inr (.inr (.inr (.inr (fun i9 => some (r_ls_lists i9)))))))] → va_S A s.heap H locs → lv_has ls 4 [(0, .ref a_ls), (1, .int 0), (2, .int a2)] → W p l e R s m ([.ref a_ls, .int 0, .int a2] : List Value).toArray below meth c H locs 0 0 Q (F0 m 30 ls [.int s0i, .int s1i])) ∧ (∀ (H : Heap) (locs : List Loc) (ls : Array Slot) (s0i : Int32) (s1i : Int32) (w_ls_hasSplit : Int32), sm_it (fx_LS_work0_S a2 v_ls_hasSystem) k9 (47, s0i, s1i, w_ls_hasSplit) = some out → va_P (dC, dI) cls [(a_ls, .inr (0, [.ref a_tx, .ref a_wo, .ref a_bu, .ref a_la, .ref a_se, .ref f_ls_lists, .ref a_ch, .ref f_ls_told, .ref f_ls_rest, .ref f_ls_taken, .ref f_ls_bestVector, .ref a_sy, .int v_ls_hasSystem, .int w_ls_hasSplit, .int v_ls_hasBest, .int v_ls_faultPlace])), (f_ls_lists, .inl (k_ls_lists, 3, .inr (.inr (.inr (.inr (fun i9 => some (r_ls_lists i9)))))))] H → va_D A [(a_ls, .inr (0, [.ref a_tx, .ref a_wo, .ref a_bu, .ref a_la, .ref a_se, .ref f_ls_lists, .ref a_ch, .ref f_ls_told, .ref f_ls_rest, .ref f_ls_taken, .ref f_ls_bestVector, .ref a_sy, .int v_ls_hasSystem, .int w_ls_hasSplit, .int v_ls_hasBest, .int v_ls_faultPlace])), (f_ls_lists, .inl (k_ls_lists, 3, .inr (.inr (.inr (.inr (fun i9 => some (r_ls_lists i9)))))))] → va_S A s.heap H locs → lv_has ls 4 [(0, .ref a_ls), (1, .int 0), (2, .int a2)] → W p l e R s m ([.ref a_ls, .int 0, .int a2] : List Value).toArray below meth c H locs 0 0 Q (F0 m 47 ls []))) ?_ ?_ ?_
  · exact ⟨(fun _ _ _ _ _ _ hs => by cases hs), (fun _ _ _ _ _ _ hs => by cases hs)⟩
  · intro k9 ih
    refine ⟨?_, ?_⟩
    · intro H locs ls s0i s1i w_ls_hasSplit hs hP hD hS hl
      rw [sm_it_succ, fx_LS_work0_S_q30] at hs
      unfold fx_LS_work0_S_b30 at hs
      obtain ⟨r1, hq1, hs⟩ := sm_bd hs
      have hPc := hP.sub (ws' := []) [] rfl
      have hDc := hD.sub (ws' := []) [] (by decide) rfl
      have hKc := hK.sub (tys' := []) [] rfl
      have hFc := va_free (wc := []) hD hS hA [] rfl
      refine va_callv (va_runS (As := [.int s1i, .int s0i]) (rest := []) ⟨hx, hb, hml, hown, hts⟩ (c_LS_needBound l dC dI (s1i) (s0i) H.size r1 hq1) (wd_S 2 hts k_752 k_1 k_750 k_751 rfl rfl (by decide +kernel) ⟨Nat.le_of_ble_eq_true rfl, Nat.le_of_ble_eq_true rfl⟩) ⟨fun a U g mk q => by obtain ⟨q0, q1, qP, qK, qD, qN⟩ := q; exact ⟨q0, q1, qP, va_K.moved (u := U) (U := U.calling g mk a) (Vm.Alike.refl U.vm) qK, qD, nw_ok.same (s := U) (U := U.calling g mk a) rfl qN⟩, fun U hU hW => ⟨rfl, by rw [hU], by rw [hU]; exact hPc, va_K.moved hW.alike hKc, hDc.weaken (fun _ _ _ _ => trivial), nw_ok.warm hW hN⟩⟩ rfl rfl hl.1 rfl (lv_room (Nat.le_of_ble_eq_true rfl)) d_LS_work_30 ⟨Nat.le_of_ble_eq_true rfl, Nat.le_of_ble_eq_true rfl⟩) hS (fun q _ h => hFc q h) hFc (fun u t H1 locs ht hvm hr1 hB hz1 hk1 hS => ?_)
      obtain ⟨hP1, hK1, hD1⟩ := hB
      rw [ht] at hP1
      have hK1 := va_K.moved hvm.symm hK1
      obtain ⟨hP, hD⟩ := va_join (wr := [(a_ls, .inr (0, [.ref a_tx, .ref a_wo, .ref a_bu, .ref a_la, .ref a_se, .ref f_ls_lists, .ref a_ch, .ref f_ls_told, .ref f_ls_rest, .ref f_ls_taken, .ref f_ls_bestVector, .ref a_sy, .int v_ls_hasSystem, .int w_ls_hasSplit, .int v_ls_hasBest, .int v_ls_faultPlace])), (f_ls_lists, .inl (k_ls_lists, 3, .inr (.inr (.inr (.inr (fun i9 => some (r_ls_lists i9)))))))]) (w1 := []) hP hD [] [0, 1] rfl rfl (by decide) (by decide) hk1 hFc hP1 hD1
      have hK := (hK.sub (tys' := [(k_ls_lists, .object "LeastSolutions$VectorList")]) [0] rfl).app hK1
      have hK : va_K (dC, dI) cls [(k_ls_lists, .object "LeastSolutions$VectorList")] s := hK
      have hP : va_P (dC, dI) cls [(a_ls, .inr (0, [.ref a_tx, .ref a_wo, .ref a_bu, .ref a_la, .ref a_se, .ref f_ls_lists, .ref a_ch, .ref f_ls_told, .ref f_ls_rest, .ref f_ls_taken, .ref f_ls_bestVector, .ref a_sy, .int v_ls_hasSystem, .int w_ls_hasSplit, .int v_ls_hasBest, .int v_ls_faultPlace])), (f_ls_lists, .inl (k_ls_lists, 3, .inr (.inr (.inr (.inr (fun i9 => some (r_ls_lists i9)))))))] H1 := hP
      have hD : va_D A [(a_ls, .inr (0, [.ref a_tx, .ref a_wo, .ref a_bu, .ref a_la, .ref a_se, .ref f_ls_lists, .ref a_ch, .ref f_ls_told, .ref f_ls_rest, .ref f_ls_taken, .ref f_ls_bestVector, .ref a_sy, .int v_ls_hasSystem, .int w_ls_hasSplit, .int v_ls_hasBest, .int v_ls_faultPlace])), (f_ls_lists, .inl (k_ls_lists, 3, .inr (.inr (.inr (.inr (fun i9 => some (r_ls_lists i9)))))))] := hD
      refine lv_aload_n hx hb d_LS_work_33 rfl (lv_at hl 0 rfl) ?_
      rcases sm_orc hs with ⟨r2, hq2, hs⟩ | ⟨hq2, hs⟩
      · have he := sm_end hs
        subst he
        have hPc := hP.sub (ws' := [(a_ls, .inr (0, [.ref a_tx, .ref a_wo, .ref a_bu, .ref a_la, .ref a_se, .ref f_ls_lists, .ref a_ch, .ref f_ls_told, .ref f_ls_rest, .ref f_ls_taken, .ref f_ls_bestVector, .ref a_sy, .int v_ls_hasSystem, .int w_ls_hasSplit, .int v_ls_hasBest, .int v_ls_faultPlace]))]) [0] rfl
        have hDc := hD.sub (ws' := [(a_ls, .inr (0, [.ref a_tx, .ref a_wo, .ref a_bu, .ref a_la, .ref a_se, .ref f_ls_lists, .ref a_ch, .ref f_ls_told, .ref f_ls_rest, .ref f_ls_taken, .ref f_ls_bestVector, .ref a_sy, .int v_ls_hasSystem, .int w_ls_hasSplit, .int v_ls_hasBest, .int v_ls_faultPlace]))]) [0] (by decide) rfl
        have hKc := hK.sub (tys' := []) [] rfl
        have hFc := va_free (wc := [(a_ls, .inr (0, [.ref a_tx, .ref a_wo, .ref a_bu, .ref a_la, .ref a_se, .ref f_ls_lists, .ref a_ch, .ref f_ls_told, .ref f_ls_rest, .ref f_ls_taken, .ref f_ls_bestVector, .ref a_sy, .int v_ls_hasSystem, .int w_ls_hasSplit, .int v_ls_hasBest, .int v_ls_faultPlace]))]) hD hS hA [0] rfl
        refine xg_out (xt_runV (As := []) (rest := []) ⟨hx, hb, hml, hown, hts⟩ (x_LS_needSystem_S l htr dC dI (a_ls) (a_tx) (a_wo) (a_bu) (a_la) (a_se) (f_ls_lists) (a_ch) (f_ls_told) (f_ls_rest) (f_ls_taken) (f_ls_bestVector) (a_sy) (v_ls_hasSystem) (w_ls_hasSplit) (v_ls_hasBest) (v_ls_faultPlace) H1.size r2 hq2) (wd_V (C := "LeastSolutions") 0 hts k_681 k_1 k_678 k_680 ks_LS_needSystem rfl rfl (by decide +kernel) ⟨Nat.le_of_ble_eq_true rfl, Nat.le_of_ble_eq_true rfl⟩) ⟨fun a U g mk q => by obtain ⟨q0, q1, qP, qK, qD, qN, qX⟩ := q; exact ⟨q0, q1, qP, va_K.moved (u := U) (U := U.calling g mk a) (Vm.Alike.refl U.vm) qK, qD, nw_ok.same (s := U) (U := U.calling g mk a) rfl qN, xs_ok.moved (s := U) (Vm.Alike.refl U.vm) (fun _ _ => rfl) qX⟩, va_recv (ci := 0) (q0 := 0) hK hP rfl rfl, fun U hU hW => ⟨rfl, by rw [hU], by rw [hU]; exact hPc, va_K.moved hW.alike hKc, hDc.weaken (fun _ _ _ _ => trivial), nw_ok.warm hW hN, xs_ok.grown hW.alike (fun q cell h1 h2 => by rw [hU, hS.2.1 q (Array.getElem?_eq_some_iff.mp h1).1 (hst q cell h1 h2)]; exact h1) hX⟩⟩ rfl rfl hl.1 rfl (lv_room (Nat.le_of_ble_eq_true rfl)) d_LS_work_34 ⟨Nat.le_of_ble_eq_true rfl, Nat.le_of_ble_eq_true rfl⟩) hne hlocks (fun q h => hFc q h) hS.2.2 (fun st x t U h0 hQ e1 e2 hW => ?_)
        obtain ⟨q1, ⟨ce, q2, q3, q4⟩, ⟨hP1, hK1, hD1⟩, q5, q6⟩ := hQ
        have hk1 : ∀ q : Nat, q < H1.size → ¬ va_A [(a_ls, .inr (0, [.ref a_tx, .ref a_wo, .ref a_bu, .ref a_la, .ref a_se, .ref f_ls_lists, .ref a_ch, .ref f_ls_told, .ref f_ls_rest, .ref f_ls_taken, .ref f_ls_bestVector, .ref a_sy, .int v_ls_hasSystem, .int w_ls_hasSplit, .int v_ls_hasBest, .int v_ls_faultPlace]))] H1.size q → t.heap[q]? = H1[q]? := fun q h1 h2 => by rw [← h0]; exact q6 q (by rw [h0]; exact h1) h2
        rw [h0] at q1 q5
        obtain ⟨hP, hD⟩ := va_join (wr := [(f_ls_lists, .inl (k_ls_lists, 3, .inr (.inr (.inr (.inr (fun i9 => some (r_ls_lists i9)))))))]) (w1 := [(a_ls, .inr (0, [.ref a_tx, .ref a_wo, .ref a_bu, .ref a_la, .ref a_se, .ref f_ls_lists, .ref a_ch, .ref f_ls_told, .ref f_ls_rest, .ref f_ls_taken, .ref f_ls_bestVector, .ref a_sy, .int v_ls_hasSystem, .int w_ls_hasSplit, .int v_ls_hasBest, .int v_ls_faultPlace]))]) hP hD [0] [1] rfl rfl (by decide) (by decide) hk1 hFc hP1 hD1
        have hP : va_P (dC, dI) cls [(f_ls_lists, .inl (k_ls_lists, 3, .inr (.inr (.inr (.inr (fun i9 => some (r_ls_lists i9))))))), (a_ls, .inr (0, [.ref a_tx, .ref a_wo, .ref a_bu, .ref a_la, .ref a_se, .ref f_ls_lists, .ref a_ch, .ref f_ls_told, .ref f_ls_rest, .ref f_ls_taken, .ref f_ls_bestVector, .ref a_sy, .int v_ls_hasSystem, .int w_ls_hasSplit, .int v_ls_hasBest, .int v_ls_faultPlace]))] t.heap := hP
        have hD : va_D A [(f_ls_lists, .inl (k_ls_lists, 3, .inr (.inr (.inr (.inr (fun i9 => some (r_ls_lists i9))))))), (a_ls, .inr (0, [.ref a_tx, .ref a_wo, .ref a_bu, .ref a_la, .ref a_se, .ref f_ls_lists, .ref a_ch, .ref f_ls_told, .ref f_ls_rest, .ref f_ls_taken, .ref f_ls_bestVector, .ref a_sy, .int v_ls_hasSystem, .int w_ls_hasSplit, .int v_ls_hasBest, .int v_ls_faultPlace]))] := hD
        have hP := hP.sub (ws' := [(a_ls, .inr (0, [.ref a_tx, .ref a_wo, .ref a_bu, .ref a_la, .ref a_se, .ref f_ls_lists, .ref a_ch, .ref f_ls_told, .ref f_ls_rest, .ref f_ls_taken, .ref f_ls_bestVector, .ref a_sy, .int v_ls_hasSystem, .int w_ls_hasSplit, .int v_ls_hasBest, .int v_ls_faultPlace])), (f_ls_lists, .inl (k_ls_lists, 3, .inr (.inr (.inr (.inr (fun i9 => some (r_ls_lists i9)))))))]) [1, 0] rfl
        have hD := hD.sub (ws' := [(a_ls, .inr (0, [.ref a_tx, .ref a_wo, .ref a_bu, .ref a_la, .ref a_se, .ref f_ls_lists, .ref a_ch, .ref f_ls_told, .ref f_ls_rest, .ref f_ls_taken, .ref f_ls_bestVector, .ref a_sy, .int v_ls_hasSystem, .int w_ls_hasSplit, .int v_ls_hasBest, .int v_ls_faultPlace])), (f_ls_lists, .inl (k_ls_lists, 3, .inr (.inr (.inr (.inr (fun i9 => some (r_ls_lists i9)))))))]) [1, 0] (by decide) rfl
        exact ⟨Nat.le_trans hS.1 q1, ⟨ce, by rw [e1]; exact q2, q3, by rw [e2]; exact q4⟩, ⟨by rw [e1]; exact hP, va_K.moved hW.alike hK, hD⟩, by rw [e1]; exact Nat.le_trans hS.1 q5, fun q h1 h2 => by rw [e1]; exact (hk1 q (Nat.lt_of_lt_of_le h1 hS.1) (fun z => h2 (hFc q z))).trans (hS.2.1 q h1 h2)⟩
      obtain ⟨r3, hq3, hs⟩ := sm_bd hs
      have hPc := hP.sub (ws' := [(a_ls, .inr (0, [.ref a_tx, .ref a_wo, .ref a_bu, .ref a_la, .ref a_se, .ref f_ls_lists, .ref a_ch, .ref f_ls_told, .ref f_ls_rest, .ref f_ls_taken, .ref f_ls_bestVector, .ref a_sy, .int v_ls_hasSystem, .int w_ls_hasSplit, .int v_ls_hasBest, .int v_ls_faultPlace]))]) [0] rfl
      have hDc := hD.sub (ws' := [(a_ls, .inr (0, [.ref a_tx, .ref a_wo, .ref a_bu, .ref a_la, .ref a_se, .ref f_ls_lists, .ref a_ch, .ref f_ls_told, .ref f_ls_rest, .ref f_ls_taken, .ref f_ls_bestVector, .ref a_sy, .int v_ls_hasSystem, .int w_ls_hasSplit, .int v_ls_hasBest, .int v_ls_faultPlace]))]) [0] (by decide) rfl
      have hKc := hK.sub (tys' := []) [] rfl
      have hFc := va_free (wc := [(a_ls, .inr (0, [.ref a_tx, .ref a_wo, .ref a_bu, .ref a_la, .ref a_se, .ref f_ls_lists, .ref a_ch, .ref f_ls_told, .ref f_ls_rest, .ref f_ls_taken, .ref f_ls_bestVector, .ref a_sy, .int v_ls_hasSystem, .int w_ls_hasSplit, .int v_ls_hasBest, .int v_ls_faultPlace]))]) hD hS hA [0] rfl
      refine va_callv (va_runV (As := []) (rest := []) ⟨hx, hb, hml, hown, hts⟩ (c_LS_needSystem l dC dI (a_ls) (a_tx) (a_wo) (a_bu) (a_la) (a_se) (f_ls_lists) (a_ch) (f_ls_told) (f_ls_rest) (f_ls_taken) (f_ls_bestVector) (a_sy) (v_ls_hasSystem) (w_ls_hasSplit) (v_ls_hasBest) (v_ls_faultPlace) H1.size r3 hq3) (wd_V (C := "LeastSolutions") 0 hts k_681 k_1 k_678 k_680 ks_LS_needSystem rfl rfl (by decide +kernel) ⟨Nat.le_of_ble_eq_true rfl, Nat.le_of_ble_eq_true rfl⟩) ⟨fun a U g mk q => by obtain ⟨q0, q1, qP, qK, qD, qN⟩ := q; exact ⟨q0, q1, qP, va_K.moved (u := U) (U := U.calling g mk a) (Vm.Alike.refl U.vm) qK, qD, nw_ok.same (s := U) (U := U.calling g mk a) rfl qN⟩, va_recv (ci := 0) (q0 := 0) hK hP rfl rfl, fun U hU hW => ⟨rfl, by rw [hU], by rw [hU]; exact hPc, va_K.moved hW.alike hKc, hDc.weaken (fun _ _ _ _ => trivial), nw_ok.warm hW hN⟩⟩ rfl rfl hl.1 rfl (lv_room (Nat.le_of_ble_eq_true rfl)) d_LS_work_34 ⟨Nat.le_of_ble_eq_true rfl, Nat.le_of_ble_eq_true rfl⟩) hS (fun q _ h => hFc q h) hFc (fun u t H2 locs ht hvm hr2 hB hz1 hk1 hS => ?_)
      obtain ⟨hP1, hK1, hD1⟩ := hB
      rw [ht] at hP1
      have hK1 := va_K.moved hvm.symm hK1
      obtain ⟨hP, hD⟩ := va_join (wr := [(f_ls_lists, .inl (k_ls_lists, 3, .inr (.inr (.inr (.inr (fun i9 => some (r_ls_lists i9)))))))]) (w1 := [(a_ls, .inr (0, [.ref a_tx, .ref a_wo, .ref a_bu, .ref a_la, .ref a_se, .ref f_ls_lists, .ref a_ch, .ref f_ls_told, .ref f_ls_rest, .ref f_ls_taken, .ref f_ls_bestVector, .ref a_sy, .int v_ls_hasSystem, .int w_ls_hasSplit, .int v_ls_hasBest, .int v_ls_faultPlace]))]) hP hD [0] [1] rfl rfl (by decide) (by decide) hk1 hFc hP1 hD1
      have hK := (hK.sub (tys' := [(k_ls_lists, .object "LeastSolutions$VectorList")]) [0] rfl).app hK1
      have hK : va_K (dC, dI) cls [(k_ls_lists, .object "LeastSolutions$VectorList")] s := hK
      have hP : va_P (dC, dI) cls [(f_ls_lists, .inl (k_ls_lists, 3, .inr (.inr (.inr (.inr (fun i9 => some (r_ls_lists i9))))))), (a_ls, .inr (0, [.ref a_tx, .ref a_wo, .ref a_bu, .ref a_la, .ref a_se, .ref f_ls_lists, .ref a_ch, .ref f_ls_told, .ref f_ls_rest, .ref f_ls_taken, .ref f_ls_bestVector, .ref a_sy, .int v_ls_hasSystem, .int w_ls_hasSplit, .int v_ls_hasBest, .int v_ls_faultPlace]))] H2 := hP
      have hD : va_D A [(f_ls_lists, .inl (k_ls_lists, 3, .inr (.inr (.inr (.inr (fun i9 => some (r_ls_lists i9))))))), (a_ls, .inr (0, [.ref a_tx, .ref a_wo, .ref a_bu, .ref a_la, .ref a_se, .ref f_ls_lists, .ref a_ch, .ref f_ls_told, .ref f_ls_rest, .ref f_ls_taken, .ref f_ls_bestVector, .ref a_sy, .int v_ls_hasSystem, .int w_ls_hasSplit, .int v_ls_hasBest, .int v_ls_faultPlace]))] := hD
      refine lv_iload_n hx hb d_LS_work_37 rfl (lv_at hl 1 rfl) ?_
      refine lv_iconst (v := 2) hx hb d_LS_work_38 (by decide) ?_
      refine lv_icmp_eq (tgt := 47) hx hb d_LS_work_39 (by decide) (fun h9 => absurd h9 (by decide)) (fun _ => ?_)
      refine lv_aload_n hx hb d_LS_work_42 rfl (lv_at hl 0 rfl) ?_
      refine lv_iconst (v := 0) hx hb d_LS_work_43 (by decide) ?_
      refine va_put (D := (dC, dI)) (ci := 0) (v := .int 0) (ty := .boolean) (C := R_LS) (T := T_LS) (N := 16) hx hb hts in_LS t_LS t_LS_ok n_LS hown hK hP hD hS 1 rfl rfl 13 (by decide) (hts _ k_302) (fun _ h9 => h9) rfl (by decide +kernel) (by decide +kernel) (by decide +kernel) (Nat.le_of_ble_eq_true rfl) d_LS_work_44 (fun H3 locs hP hD hS => ?_)
      have hP : va_P (dC, dI) cls [(f_ls_lists, .inl (k_ls_lists, 3, .inr (.inr (.inr (.inr (fun i9 => some (r_ls_lists i9))))))), (a_ls, .inr (0, [.ref a_tx, .ref a_wo, .ref a_bu, .ref a_la, .ref a_se, .ref f_ls_lists, .ref a_ch, .ref f_ls_told, .ref f_ls_rest, .ref f_ls_taken, .ref f_ls_bestVector, .ref a_sy, .int v_ls_hasSystem, .int 0, .int v_ls_hasBest, .int v_ls_faultPlace]))] H3 := hP
      have hD : va_D A [(f_ls_lists, .inl (k_ls_lists, 3, .inr (.inr (.inr (.inr (fun i9 => some (r_ls_lists i9))))))), (a_ls, .inr (0, [.ref a_tx, .ref a_wo, .ref a_bu, .ref a_la, .ref a_se, .ref f_ls_lists, .ref a_ch, .ref f_ls_told, .ref f_ls_rest, .ref f_ls_taken, .ref f_ls_bestVector, .ref a_sy, .int v_ls_hasSystem, .int 0, .int v_ls_hasBest, .int v_ls_faultPlace]))] := hD
      have hP := hP.sub (ws' := [(a_ls, .inr (0, [.ref a_tx, .ref a_wo, .ref a_bu, .ref a_la, .ref a_se, .ref f_ls_lists, .ref a_ch, .ref f_ls_told, .ref f_ls_rest, .ref f_ls_taken, .ref f_ls_bestVector, .ref a_sy, .int v_ls_hasSystem, .int 0, .int v_ls_hasBest, .int v_ls_faultPlace])), (f_ls_lists, .inl (k_ls_lists, 3, .inr (.inr (.inr (.inr (fun i9 => some (r_ls_lists i9)))))))]) [1, 0] rfl
      have hD := hD.sub (ws' := [(a_ls, .inr (0, [.ref a_tx, .ref a_wo, .ref a_bu, .ref a_la, .ref a_se, .ref f_ls_lists, .ref a_ch, .ref f_ls_told, .ref f_ls_rest, .ref f_ls_taken, .ref f_ls_bestVector, .ref a_sy, .int v_ls_hasSystem, .int 0, .int v_ls_hasBest, .int v_ls_faultPlace])), (f_ls_lists, .inl (k_ls_lists, 3, .inr (.inr (.inr (.inr (fun i9 => some (r_ls_lists i9)))))))]) [1, 0] (by decide) rfl
      exact ih.2 _ _ _ _ _ _ hs hP hD hS (lv_sub hl [0, 1, 2] rfl)
    · intro H locs ls s0i s1i w_ls_hasSplit hs hP hD hS hl
      rw [sm_it_succ, fx_LS_work0_S_q47] at hs
      unfold fx_LS_work0_S_b47 at hs
      refine lv_aload_n hx hb d_LS_work_47 rfl (lv_at hl 0 rfl) ?_
      refine va_get (D := (dC, dI)) (ci := 0) (v := .ref f_ls_lists) (C := R_LS) (T := T_LS) (N := 16) hx hb hts in_LS hown hK hP 0 rfl rfl 5 (by decide) (hts _ k_294) (fun _ h9 => h9) rfl d_LS_work_48 ?_
      refine lv_iload_n hx hb d_LS_work_51 rfl (lv_at hl 1 rfl) ?_
      refine ro_ald (Ra := r_ls_lists) (k := 0) hx hb hK hP 1 0 rfl rfl rfl (by decide) (show ¬ ((0 : Int32) < 0 ∨ 3 ≤ (0 : Int32).toNatClampNeg) from by decide) d_LS_work_52 ?_
      refine lv_astore_n hx hb d_LS_work_53 rfl hl (by decide) rfl (fun ls hl => ?_)
      have hl : lv_has ls 4 [(3, .ref (r_ls_lists 0)), (0, .ref a_ls), (1, .int 0), (2, .int a2)] := hl
      refine lv_aload_n hx hb d_LS_work_54 rfl (lv_at hl 0 rfl) ?_
      refine lv_aload_n hx hb d_LS_work_55 rfl (lv_at hl 1 rfl) ?_
      refine va_get (D := (dC, dI)) (ci := 0) (v := .ref a_sy) (C := R_LS) (T := T_LS) (N := 16) hx hb hts in_LS hown hK hP 0 rfl rfl 11 (by decide) (hts _ k_300) (fun _ h9 => h9) rfl d_LS_work_56 ?_
      cases hs
  · intro key
    cases k8 with
    | zero => cases hs
    | succ k9 =>
      rw [sm_it_succ, fx_LS_work0_S_q0] at hs
      unfold fx_LS_work0_S_b0 at hs
      refine lv_iload_n hx hb d_LS_work_0 rfl (lv_at hl 1 rfl) ?_
      refine lv_if_lt (tgt := 9) hx hb d_LS_work_1 (by decide) (fun h9 => absurd h9 (by decide)) (fun _ => ?_)
      refine lv_iload_n hx hb d_LS_work_4 rfl (lv_at hl 1 rfl) ?_
      refine lv_iconst (v := 2) hx hb d_LS_work_5 (by decide) ?_
      refine lv_icmp_le (tgt := 17) hx hb d_LS_work_6 (by decide) (fun _ => ?_) (fun h9 => absurd (by decide) h9)
      refine lv_iload_n hx hb d_LS_work_17 rfl (lv_at hl 2 rfl) ?_
      refine lv_iload_n hx hb d_LS_work_18 rfl (lv_at hl 1 rfl) ?_
      refine lv_iconst (v := 2) hx hb d_LS_work_19 (by decide) ?_
      refine lv_icmp_ne (tgt := 28) hx hb d_LS_work_20 (by decide) (fun _ => ?_) (fun h9 => absurd h9 (by decide))
      refine lv_bipush (v := 16) hx hb d_LS_work_28 (by decide) ?_
      exact (key k9).1 _ _ _ _ _ _ hs hP hD hS (lv_sub hl [0, 1, 2] rfl)

noncomputable def fx_LS_work1_A_b0 (a2 : Int32) (_z0 : Int32) (_z1 : Int32) : Option ((Nat × Int32 × Int32) ⊕ (Unit)) := some (.inl (30, 16, a2))
noncomputable def fx_LS_work1_A_b30 (a2 : Int32) (s0i : Int32) (s1i : Int32) : Option ((Nat × Int32 × Int32) ⊕ (Unit)) := sm_or (sm_tot (fx_LS_needBound_A s1i s0i) 0) (fun _ => some (.inr ())) ((sm_tot (fn_LS_needBound s1i s0i) 0).bind (fun r2 => none))
noncomputable def fx_LS_work1_A (a2 : Int32) : Nat × Int32 × Int32 → Option ((Nat × Int32 × Int32) ⊕ (Unit)) := fun st => match st with
  | (pc, s0i, s1i) => if pc = 0 then fx_LS_work1_A_b0 a2 s0i s1i else if pc = 30 then fx_LS_work1_A_b30 a2 s0i s1i else none
theorem fx_LS_work1_A_q0 (a2 : Int32) (s0i : Int32) (s1i : Int32) : fx_LS_work1_A a2 (0, s0i, s1i) = fx_LS_work1_A_b0 a2 s0i s1i := by simp [fx_LS_work1_A]
theorem fx_LS_work1_A_q30 (a2 : Int32) (s0i : Int32) (s1i : Int32) : fx_LS_work1_A a2 (30, s0i, s1i) = fx_LS_work1_A_b30 a2 s0i s1i := by simp [fx_LS_work1_A]
set_option maxHeartbeats 4000000 in
set_option maxRecDepth 100000 in
theorem x_LS_work1_A (l : Launch) (htr : l.stackTraces = false) (dC : Nat → ClassId) (dI : Nat → Nat → Nat) (a_ls : Nat) (a_tx : Nat) (a_wo : Nat) (a_bu : Nat) (a_la : Nat) (a_se : Nat) (f_ls_lists : Nat) (a_ch : Nat) (f_ls_told : Nat) (f_ls_rest : Nat) (f_ls_taken : Nat) (f_ls_bestVector : Nat) (a_sy : Nat) (v_ls_hasSystem : Int32) (v_ls_hasSplit : Int32) (v_ls_hasBest : Int32) (v_ls_faultPlace : Int32) (a2 : Int32) (sz : Nat) (out : Unit) (hs : sm_tot (fx_LS_work1_A a2) (0, 0, 0) = some out) : xt_Met l y_LS_work (Cond.code y_LS_work b_LS_work 4 (Option.some Jvm.ClassFile.FieldType.int) :: wd) { frames := 7, cells := 1, slots := 6, locals := 121 } (va_Pc [.ref a_ls, .int 1, .int a2] (fun U => U.heap.size = sz ∧ va_P (dC, dI) cls [(a_ls, .inr (0, [.ref a_tx, .ref a_wo, .ref a_bu, .ref a_la, .ref a_se, .ref f_ls_lists, .ref a_ch, .ref f_ls_told, .ref f_ls_rest, .ref f_ls_taken, .ref f_ls_bestVector, .ref a_sy, .int v_ls_hasSystem, .int v_ls_hasSplit, .int v_ls_hasBest, .int v_ls_faultPlace]))] U.heap ∧ va_K (dC, dI) cls [] U ∧ va_D (fun _ => True) [(a_ls, .inr (0, [.ref a_tx, .ref a_wo, .ref a_bu, .ref a_la, .ref a_se, .ref f_ls_lists, .ref a_ch, .ref f_ls_told, .ref f_ls_rest, .ref f_ls_taken, .ref f_ls_bestVector, .ref a_sy, .int v_ls_hasSystem, .int v_ls_hasSplit, .int v_ls_hasBest, .int v_ls_faultPlace]))] ∧ nw_ok U ∧ xs_ok U)) (fun _ st x t => xg_Q "java/lang/IllegalArgumentException" (va_A [(a_ls, .inr (0, [.ref a_tx, .ref a_wo, .ref a_bu, .ref a_la, .ref a_se, .ref f_ls_lists, .ref a_ch, .ref f_ls_told, .ref f_ls_rest, .ref f_ls_taken, .ref f_ls_bestVector, .ref a_sy, .int v_ls_hasSystem, .int v_ls_hasSplit, .int v_ls_hasBest, .int v_ls_faultPlace]))] sz) (fun t => va_P (dC, dI) cls [(a_ls, .inr (0, [.ref a_tx, .ref a_wo, .ref a_bu, .ref a_la, .ref a_se, .ref f_ls_lists, .ref a_ch, .ref f_ls_told, .ref f_ls_rest, .ref f_ls_taken, .ref f_ls_bestVector, .ref a_sy, .int v_ls_hasSystem, .int v_ls_hasSplit, .int v_ls_hasBest, .int v_ls_faultPlace]))] t.heap ∧ va_K (dC, dI) cls [] t ∧ va_D (va_A [(a_ls, .inr (0, [.ref a_tx, .ref a_wo, .ref a_bu, .ref a_la, .ref a_se, .ref f_ls_lists, .ref a_ch, .ref f_ls_told, .ref f_ls_rest, .ref f_ls_taken, .ref f_ls_bestVector, .ref a_sy, .int v_ls_hasSystem, .int v_ls_hasSplit, .int v_ls_hasBest, .int v_ls_faultPlace]))] sz) [(a_ls, .inr (0, [.ref a_tx, .ref a_wo, .ref a_bu, .ref a_la, .ref a_se, .ref f_ls_lists, .ref a_ch, .ref f_ls_told, .ref f_ls_rest, .ref f_ls_taken, .ref f_ls_bestVector, .ref a_sy, .int v_ls_hasSystem, .int v_ls_hasSplit, .int v_ls_hasBest, .int v_ls_faultPlace]))]) st x t) 1 6 (va_A [(a_ls, .inr (0, [.ref a_tx, .ref a_wo, .ref a_bu, .ref a_la, .ref a_se, .ref f_ls_lists, .ref a_ch, .ref f_ls_told, .ref f_ls_rest, .ref f_ls_taken, .ref f_ls_bestVector, .ref a_sy, .int v_ls_hasSystem, .int v_ls_hasSplit, .int v_ls_hasBest, .int v_ls_faultPlace]))] sz) := by
  refine xt_ofW (cc := b_LS_work) (maxL := 4) (ret := (Option.some Jvm.ClassFile.FieldType.int)) (by decide) rfl ?_
  intro p e s m args below meth c s₁ B hml hne hv
  obtain ⟨rfl, hsz, hP, hK, hD0, hN, hX⟩ := hv
  have hx := B.exec
  have hb := B.bytes
  have hr := B.returns
  have hlocks := B.notSynchronized
  have hts : ∀ w ∈ wd, w.before ([.ref a_ls, .int 1, .int a2] : List Value).toArray s = true := fun w hw => atoms_spec (ws := (Cond.code y_LS_work b_LS_work 4 (Option.some Jvm.ClassFile.FieldType.int) :: wd)) B.pre w (List.mem_cons_of_mem _ hw)
  have hpay := pay_in hts wd_gs
  have hown : s.vm.findClass "LeastSolutions" = some m.cls := findClass_of_methodNamed B.named
  subst hsz
  have hst := fun (q : Nat) (cell : Cell) (h1 : s.heap[q]? = some cell) (h2 : cell.vm.isStatics = true) => xg_st hP h1 h2
  have hD := hD0.self (sz := s.heap.size)
  generalize hAe : va_A [(a_ls, .inr (0, [.ref a_tx, .ref a_wo, .ref a_bu, .ref a_la, .ref a_se, .ref f_ls_lists, .ref a_ch, .ref f_ls_told, .ref f_ls_rest, .ref f_ls_taken, .ref f_ls_bestVector, .ref a_sy, .int v_ls_hasSystem, .int v_ls_hasSplit, .int v_ls_hasBest, .int v_ls_faultPlace]))] s.heap.size = A at hD hst ⊢
  have hA : ∀ q : Nat, s.heap.size ≤ q → A q := fun q h => by rw [← hAe]; exact Or.inr h
  have hS : va_S A s.heap s.heap [] := va_S.rf
  have hl := lv_entry ([.ref a_ls, .int 1, .int a2]) (n := 4) (Nat.le_of_ble_eq_true rfl)
  rw [lg_entry_eq]
  generalize (lg_sl ([.ref a_ls, .int 1, .int a2]) ++ List.replicate (4 - (lg_sl ([.ref a_ls, .int 1, .int a2])).length) Slot.unset).toArray = ls at hl ⊢
  have hl : lv_has ls 4 [(0, .ref a_ls), (1, .int 1), (2, .int a2)] := hl
  obtain ⟨k8, hs⟩ := sm_of hs
  refine sm_key (fun R Q k9 => (∀ (H : Heap) (locs : List Loc) (ls : Array Slot) (s0i : Int32) (s1i : Int32), sm_it (fx_LS_work1_A a2) k9 (30, s0i, s1i) = some out → va_P (dC, dI) cls [(a_ls, .inr (0, [.ref a_tx, .ref a_wo, .ref a_bu, .ref a_la, .ref a_se, .ref f_ls_lists, .ref a_ch, .ref f_ls_told, .ref f_ls_rest, .ref f_ls_taken, .ref f_ls_bestVector, .ref a_sy, .int v_ls_hasSystem, .int v_ls_hasSplit, .int v_ls_hasBest, .int v_ls_faultPlace]))] H → va_D A [(a_ls, .inr (0, [.ref a_tx, .ref a_wo, .ref a_bu, .ref a_la, .ref a_se, .ref f_ls_lists, .ref a_ch, .ref f_ls_told, .ref f_ls_rest, .ref f_ls_taken, .ref f_ls_bestVector, .ref a_sy, .int v_ls_hasSystem, .int v_ls_hasSplit, .int v_ls_hasBest, .int v_ls_faultPlace]))] → va_S A s.heap H locs → lv_has ls 4 [(0, .ref a_ls), (1, .int 1), (2, .int a2)] → W p l e R s m ([.ref a_ls, .int 1, .int a2] : List Value).toArray below meth c H locs 0 0 Q (F0 m 30 ls [.int s0i, .int s1i]))) ?_ ?_ ?_
  · exact fun _ _ _ _ _ hs => by cases hs
  · intro k9 ih
    skip
    intro H locs ls s0i s1i hs hP hD hS hl
    rw [sm_it_succ, fx_LS_work1_A_q30] at hs
    unfold fx_LS_work1_A_b30 at hs
    rcases sm_orc hs with ⟨r1, hq1, hs⟩ | ⟨hq1, hs⟩
    · have he := sm_end hs
      subst he
      have hPc := hP.sub (ws' := []) [] rfl
      have hDc := hD.sub (ws' := []) [] (by decide) rfl
      have hKc := hK.sub (tys' := []) [] rfl
      have hFc := va_free (wc := []) hD hS hA [] rfl
      refine xg_out (xt_runS (As := [.int s1i, .int s0i]) (rest := []) ⟨hx, hb, hml, hown, hts⟩ (x_LS_needBound_A l htr dC dI (s1i) (s0i) H.size r1 hq1) (wd_S 2 hts k_752 k_1 k_750 k_751 rfl rfl (by decide +kernel) ⟨Nat.le_of_ble_eq_true rfl, Nat.le_of_ble_eq_true rfl⟩) ⟨fun a U g mk q => by obtain ⟨q0, q1, qP, qK, qD, qN, qX⟩ := q; exact ⟨q0, q1, qP, va_K.moved (u := U) (U := U.calling g mk a) (Vm.Alike.refl U.vm) qK, qD, nw_ok.same (s := U) (U := U.calling g mk a) rfl qN, xs_ok.moved (s := U) (Vm.Alike.refl U.vm) (fun _ _ => rfl) qX⟩, fun U hU hW => ⟨rfl, by rw [hU], by rw [hU]; exact hPc, va_K.moved hW.alike hKc, hDc.weaken (fun _ _ _ _ => trivial), nw_ok.warm hW hN, xs_ok.grown hW.alike (fun q cell h1 h2 => by rw [hU, hS.2.1 q (Array.getElem?_eq_some_iff.mp h1).1 (hst q cell h1 h2)]; exact h1) hX⟩⟩ rfl rfl hl.1 rfl (lv_room (Nat.le_of_ble_eq_true rfl)) d_LS_work_30 ⟨Nat.le_of_ble_eq_true rfl, Nat.le_of_ble_eq_true rfl⟩) hne hlocks (fun q h => hFc q h) hS.2.2 (fun st x t U h0 hQ e1 e2 hW => ?_)
      obtain ⟨q1, ⟨ce, q2, q3, q4⟩, ⟨hP1, hK1, hD1⟩, q5, q6⟩ := hQ
      have hk1 : ∀ q : Nat, q < H.size → ¬ va_A [] H.size q → t.heap[q]? = H[q]? := fun q h1 h2 => by rw [← h0]; exact q6 q (by rw [h0]; exact h1) h2
      rw [h0] at q1 q5
      obtain ⟨hP, hD⟩ := va_join (wr := [(a_ls, .inr (0, [.ref a_tx, .ref a_wo, .ref a_bu, .ref a_la, .ref a_se, .ref f_ls_lists, .ref a_ch, .ref f_ls_told, .ref f_ls_rest, .ref f_ls_taken, .ref f_ls_bestVector, .ref a_sy, .int v_ls_hasSystem, .int v_ls_hasSplit, .int v_ls_hasBest, .int v_ls_faultPlace]))]) (w1 := []) hP hD [] [0] rfl rfl (by decide) (by decide) hk1 hFc hP1 hD1
      have hP : va_P (dC, dI) cls [(a_ls, .inr (0, [.ref a_tx, .ref a_wo, .ref a_bu, .ref a_la, .ref a_se, .ref f_ls_lists, .ref a_ch, .ref f_ls_told, .ref f_ls_rest, .ref f_ls_taken, .ref f_ls_bestVector, .ref a_sy, .int v_ls_hasSystem, .int v_ls_hasSplit, .int v_ls_hasBest, .int v_ls_faultPlace]))] t.heap := hP
      have hD : va_D A [(a_ls, .inr (0, [.ref a_tx, .ref a_wo, .ref a_bu, .ref a_la, .ref a_se, .ref f_ls_lists, .ref a_ch, .ref f_ls_told, .ref f_ls_rest, .ref f_ls_taken, .ref f_ls_bestVector, .ref a_sy, .int v_ls_hasSystem, .int v_ls_hasSplit, .int v_ls_hasBest, .int v_ls_faultPlace]))] := hD
      exact ⟨Nat.le_trans hS.1 q1, ⟨ce, by rw [e1]; exact q2, q3, by rw [e2]; exact q4⟩, ⟨by rw [e1]; exact hP, va_K.moved hW.alike hK, hD⟩, by rw [e1]; exact Nat.le_trans hS.1 q5, fun q h1 h2 => by rw [e1]; exact (hk1 q (Nat.lt_of_lt_of_le h1 hS.1) (fun z => h2 (hFc q z))).trans (hS.2.1 q h1 h2)⟩
    obtain ⟨r2, hq2, hs⟩ := sm_bd hs
    have hPc := hP.sub (ws' := []) [] rfl
    have hDc := hD.sub (ws' := []) [] (by decide) rfl
    have hKc := hK.sub (tys' := []) [] rfl
    have hFc := va_free (wc := []) hD hS hA [] rfl
    refine va_callv (va_runS (As := [.int s1i, .int s0i]) (rest := []) ⟨hx, hb, hml, hown, hts⟩ (c_LS_needBound l dC dI (s1i) (s0i) H.size r2 hq2) (wd_S 2 hts k_752 k_1 k_750 k_751 rfl rfl (by decide +kernel) ⟨Nat.le_of_ble_eq_true rfl, Nat.le_of_ble_eq_true rfl⟩) ⟨fun a U g mk q => by obtain ⟨q0, q1, qP, qK, qD, qN⟩ := q; exact ⟨q0, q1, qP, va_K.moved (u := U) (U := U.calling g mk a) (Vm.Alike.refl U.vm) qK, qD, nw_ok.same (s := U) (U := U.calling g mk a) rfl qN⟩, fun U hU hW => ⟨rfl, by rw [hU], by rw [hU]; exact hPc, va_K.moved hW.alike hKc, hDc.weaken (fun _ _ _ _ => trivial), nw_ok.warm hW hN⟩⟩ rfl rfl hl.1 rfl (lv_room (Nat.le_of_ble_eq_true rfl)) d_LS_work_30 ⟨Nat.le_of_ble_eq_true rfl, Nat.le_of_ble_eq_true rfl⟩) hS (fun q _ h => hFc q h) hFc (fun u t H1 locs ht hvm hr1 hB hz1 hk1 hS => ?_)
    obtain ⟨hP1, hK1, hD1⟩ := hB
    rw [ht] at hP1
    have hK1 := va_K.moved hvm.symm hK1
    obtain ⟨hP, hD⟩ := va_join (wr := [(a_ls, .inr (0, [.ref a_tx, .ref a_wo, .ref a_bu, .ref a_la, .ref a_se, .ref f_ls_lists, .ref a_ch, .ref f_ls_told, .ref f_ls_rest, .ref f_ls_taken, .ref f_ls_bestVector, .ref a_sy, .int v_ls_hasSystem, .int v_ls_hasSplit, .int v_ls_hasBest, .int v_ls_faultPlace]))]) (w1 := []) hP hD [] [0] rfl rfl (by decide) (by decide) hk1 hFc hP1 hD1
    have hK := (hK.sub (tys' := []) [] rfl).app hK1
    have hK : va_K (dC, dI) cls [] s := hK
    have hP : va_P (dC, dI) cls [(a_ls, .inr (0, [.ref a_tx, .ref a_wo, .ref a_bu, .ref a_la, .ref a_se, .ref f_ls_lists, .ref a_ch, .ref f_ls_told, .ref f_ls_rest, .ref f_ls_taken, .ref f_ls_bestVector, .ref a_sy, .int v_ls_hasSystem, .int v_ls_hasSplit, .int v_ls_hasBest, .int v_ls_faultPlace]))] H1 := hP
    have hD : va_D A [(a_ls, .inr (0, [.ref a_tx, .ref a_wo, .ref a_bu, .ref a_la, .ref a_se, .ref f_ls_lists, .ref a_ch, .ref f_ls_told, .ref f_ls_rest, .ref f_ls_taken, .ref f_ls_bestVector, .ref a_sy, .int v_ls_hasSystem, .int v_ls_hasSplit, .int v_ls_hasBest, .int v_ls_faultPlace]))] := hD
    refine lv_aload_n hx hb d_LS_work_33 rfl (lv_at hl 0 rfl) ?_
    cases hs
  · intro key
    cases k8 with
    | zero => cases hs
    | succ k9 =>
      rw [sm_it_succ, fx_LS_work1_A_q0] at hs
      unfold fx_LS_work1_A_b0 at hs
      refine lv_iload_n hx hb d_LS_work_0 rfl (lv_at hl 1 rfl) ?_
      refine lv_if_lt (tgt := 9) hx hb d_LS_work_1 (by decide) (fun h9 => absurd h9 (by decide)) (fun _ => ?_)
      refine lv_iload_n hx hb d_LS_work_4 rfl (lv_at hl 1 rfl) ?_
      refine lv_iconst (v := 2) hx hb d_LS_work_5 (by decide) ?_
      refine lv_icmp_le (tgt := 17) hx hb d_LS_work_6 (by decide) (fun _ => ?_) (fun h9 => absurd (by decide) h9)
      refine lv_iload_n hx hb d_LS_work_17 rfl (lv_at hl 2 rfl) ?_
      refine lv_iload_n hx hb d_LS_work_18 rfl (lv_at hl 1 rfl) ?_
      refine lv_iconst (v := 2) hx hb d_LS_work_19 (by decide) ?_
      refine lv_icmp_ne (tgt := 28) hx hb d_LS_work_20 (by decide) (fun _ => ?_) (fun h9 => absurd h9 (by decide))
      refine lv_bipush (v := 16) hx hb d_LS_work_28 (by decide) ?_
      exact (key k9) _ _ _ _ _ hs hP hD hS (lv_sub hl [0, 1, 2] rfl)

noncomputable def fx_LS_work1_S_b0 (a2 : Int32) (v_ls_hasSystem : Int32) (_z0 : Int32) (_z1 : Int32) (v_ls_hasSplit : Int32) : Option ((Nat × Int32 × Int32 × Int32) ⊕ (Int32)) := some (.inl (30, 16, a2, v_ls_hasSplit))
noncomputable def fx_LS_work1_S_b30 (a2 : Int32) (v_ls_hasSystem : Int32) (s0i : Int32) (s1i : Int32) (w_ls_hasSplit : Int32) : Option ((Nat × Int32 × Int32 × Int32) ⊕ (Int32)) := (sm_tot (fn_LS_needBound s1i s0i) 0).bind (fun r1 => sm_or (sm_tot (fx_LS_needSystem_S v_ls_hasSystem) 0) (fun _ => some (.inr w_ls_hasSplit)) ((sm_tot (fn_LS_needSystem v_ls_hasSystem) 0).bind (fun r3 => some (.inl (47, 0, 0, 0)))))
noncomputable def fx_LS_work1_S_b47 (a2 : Int32) (v_ls_hasSystem : Int32) (s0i : Int32) (s1i : Int32) (w_ls_hasSplit : Int32) : Option ((Nat × Int32 × Int32 × Int32) ⊕ (Int32)) := none
noncomputable def fx_LS_work1_S (a2 : Int32) (v_ls_hasSystem : Int32) : Nat × Int32 × Int32 × Int32 → Option ((Nat × Int32 × Int32 × Int32) ⊕ (Int32)) := fun st => match st with
  | (pc, s0i, s1i, w_ls_hasSplit) => if pc = 0 then fx_LS_work1_S_b0 a2 v_ls_hasSystem s0i s1i w_ls_hasSplit else if pc = 30 then fx_LS_work1_S_b30 a2 v_ls_hasSystem s0i s1i w_ls_hasSplit else if pc = 47 then fx_LS_work1_S_b47 a2 v_ls_hasSystem s0i s1i w_ls_hasSplit else none
theorem fx_LS_work1_S_q0 (a2 : Int32) (v_ls_hasSystem : Int32) (s0i : Int32) (s1i : Int32) (w_ls_hasSplit : Int32) : fx_LS_work1_S a2 v_ls_hasSystem (0, s0i, s1i, w_ls_hasSplit) = fx_LS_work1_S_b0 a2 v_ls_hasSystem s0i s1i w_ls_hasSplit := by simp [fx_LS_work1_S]
theorem fx_LS_work1_S_q30 (a2 : Int32) (v_ls_hasSystem : Int32) (s0i : Int32) (s1i : Int32) (w_ls_hasSplit : Int32) : fx_LS_work1_S a2 v_ls_hasSystem (30, s0i, s1i, w_ls_hasSplit) = fx_LS_work1_S_b30 a2 v_ls_hasSystem s0i s1i w_ls_hasSplit := by simp [fx_LS_work1_S]
theorem fx_LS_work1_S_q47 (a2 : Int32) (v_ls_hasSystem : Int32) (s0i : Int32) (s1i : Int32) (w_ls_hasSplit : Int32) : fx_LS_work1_S a2 v_ls_hasSystem (47, s0i, s1i, w_ls_hasSplit) = fx_LS_work1_S_b47 a2 v_ls_hasSystem s0i s1i w_ls_hasSplit := by simp [fx_LS_work1_S]
set_option maxHeartbeats 4000000 in
set_option maxRecDepth 100000 in
theorem x_LS_work1_S (l : Launch) (htr : l.stackTraces = false) (dC : Nat → ClassId) (dI : Nat → Nat → Nat) (a_ls : Nat) (a_tx : Nat) (a_wo : Nat) (a_bu : Nat) (a_la : Nat) (a_se : Nat) (f_ls_lists : Nat) (a_ch : Nat) (f_ls_told : Nat) (f_ls_rest : Nat) (f_ls_taken : Nat) (f_ls_bestVector : Nat) (a_sy : Nat) (v_ls_hasSystem : Int32) (v_ls_hasSplit : Int32) (v_ls_hasBest : Int32) (v_ls_faultPlace : Int32) (k_ls_lists : ClassId) (r_ls_lists : Nat → Nat) (a2 : Int32) (sz : Nat) (out : Int32) (hs : sm_tot (fx_LS_work1_S a2 v_ls_hasSystem) (0, 0, 0, v_ls_hasSplit) = some out) : xt_Met l y_LS_work (Cond.code y_LS_work b_LS_work 4 (Option.some Jvm.ClassFile.FieldType.int) :: wd) { frames := 7, cells := 1, slots := 6, locals := 120 } (va_Pc [.ref a_ls, .int 1, .int a2] (fun U => U.heap.size = sz ∧ va_P (dC, dI) cls [(a_ls, .inr (0, [.ref a_tx, .ref a_wo, .ref a_bu, .ref a_la, .ref a_se, .ref f_ls_lists, .ref a_ch, .ref f_ls_told, .ref f_ls_rest, .ref f_ls_taken, .ref f_ls_bestVector, .ref a_sy, .int v_ls_hasSystem, .int v_ls_hasSplit, .int v_ls_hasBest, .int v_ls_faultPlace])), (f_ls_lists, .inl (k_ls_lists, 3, .inr (.inr (.inr (.inr (fun i9 => some (r_ls_lists i9)))))))] U.heap ∧ va_K (dC, dI) cls [(k_ls_lists, .object "LeastSolutions$VectorList")] U ∧ va_D (fun _ => True) [(a_ls, .inr (0, [.ref a_tx, .ref a_wo, .ref a_bu, .ref a_la, .ref a_se, .ref f_ls_lists, .ref a_ch, .ref f_ls_told, .ref f_ls_rest, .ref f_ls_taken, .ref f_ls_bestVector, .ref a_sy, .int v_ls_hasSystem, .int v_ls_hasSplit, .int v_ls_hasBest, .int v_ls_faultPlace])), (f_ls_lists, .inl (k_ls_lists, 3, .inr (.inr (.inr (.inr (fun i9 => some (r_ls_lists i9)))))))] ∧ nw_ok U ∧ xs_ok U)) (fun _ st x t => xg_Q "java/lang/IllegalStateException" (va_A [(a_ls, .inr (0, [.ref a_tx, .ref a_wo, .ref a_bu, .ref a_la, .ref a_se, .ref f_ls_lists, .ref a_ch, .ref f_ls_told, .ref f_ls_rest, .ref f_ls_taken, .ref f_ls_bestVector, .ref a_sy, .int v_ls_hasSystem, .int v_ls_hasSplit, .int v_ls_hasBest, .int v_ls_faultPlace])), (f_ls_lists, .inl (k_ls_lists, 3, .inr (.inr (.inr (.inr (fun i9 => some (r_ls_lists i9)))))))] sz) (fun t => va_P (dC, dI) cls [(a_ls, .inr (0, [.ref a_tx, .ref a_wo, .ref a_bu, .ref a_la, .ref a_se, .ref f_ls_lists, .ref a_ch, .ref f_ls_told, .ref f_ls_rest, .ref f_ls_taken, .ref f_ls_bestVector, .ref a_sy, .int v_ls_hasSystem, .int out, .int v_ls_hasBest, .int v_ls_faultPlace])), (f_ls_lists, .inl (k_ls_lists, 3, .inr (.inr (.inr (.inr (fun i9 => some (r_ls_lists i9)))))))] t.heap ∧ va_K (dC, dI) cls [(k_ls_lists, .object "LeastSolutions$VectorList")] t ∧ va_D (va_A [(a_ls, .inr (0, [.ref a_tx, .ref a_wo, .ref a_bu, .ref a_la, .ref a_se, .ref f_ls_lists, .ref a_ch, .ref f_ls_told, .ref f_ls_rest, .ref f_ls_taken, .ref f_ls_bestVector, .ref a_sy, .int v_ls_hasSystem, .int v_ls_hasSplit, .int v_ls_hasBest, .int v_ls_faultPlace])), (f_ls_lists, .inl (k_ls_lists, 3, .inr (.inr (.inr (.inr (fun i9 => some (r_ls_lists i9)))))))] sz) [(a_ls, .inr (0, [.ref a_tx, .ref a_wo, .ref a_bu, .ref a_la, .ref a_se, .ref f_ls_lists, .ref a_ch, .ref f_ls_told, .ref f_ls_rest, .ref f_ls_taken, .ref f_ls_bestVector, .ref a_sy, .int v_ls_hasSystem, .int out, .int v_ls_hasBest, .int v_ls_faultPlace])), (f_ls_lists, .inl (k_ls_lists, 3, .inr (.inr (.inr (.inr (fun i9 => some (r_ls_lists i9)))))))]) st x t) 1 6 (va_A [(a_ls, .inr (0, [.ref a_tx, .ref a_wo, .ref a_bu, .ref a_la, .ref a_se, .ref f_ls_lists, .ref a_ch, .ref f_ls_told, .ref f_ls_rest, .ref f_ls_taken, .ref f_ls_bestVector, .ref a_sy, .int v_ls_hasSystem, .int v_ls_hasSplit, .int v_ls_hasBest, .int v_ls_faultPlace])), (f_ls_lists, .inl (k_ls_lists, 3, .inr (.inr (.inr (.inr (fun i9 => some (r_ls_lists i9)))))))] sz) := by
  refine xt_ofW (cc := b_LS_work) (maxL := 4) (ret := (Option.some Jvm.ClassFile.FieldType.int)) (by decide) rfl ?_
  intro p e s m args below meth c s₁ B hml hne hv
  obtain ⟨rfl, hsz, hP, hK, hD0, hN, hX⟩ := hv
  have hx := B.exec
  have hb := B.bytes
  have hr := B.returns
  have hlocks := B.notSynchronized
  have hts : ∀ w ∈ wd, w.before ([.ref a_ls, .int 1, .int a2] : List Value).toArray s = true := fun w hw => atoms_spec (ws := (Cond.code y_LS_work b_LS_work 4 (Option.some Jvm.ClassFile.FieldType.int) :: wd)) B.pre w (List.mem_cons_of_mem _ hw)
  have hpay := pay_in hts wd_gs
  have hown : s.vm.findClass "LeastSolutions" = some m.cls := findClass_of_methodNamed B.named
  subst hsz
  have hst := fun (q : Nat) (cell : Cell) (h1 : s.heap[q]? = some cell) (h2 : cell.vm.isStatics = true) => xg_st hP h1 h2
  have hD := hD0.self (sz := s.heap.size)
  generalize hAe : va_A [(a_ls, .inr (0, [.ref a_tx, .ref a_wo, .ref a_bu, .ref a_la, .ref a_se, .ref f_ls_lists, .ref a_ch, .ref f_ls_told, .ref f_ls_rest, .ref f_ls_taken, .ref f_ls_bestVector, .ref a_sy, .int v_ls_hasSystem, .int v_ls_hasSplit, .int v_ls_hasBest, .int v_ls_faultPlace])), (f_ls_lists, .inl (k_ls_lists, 3, .inr (.inr (.inr (.inr (fun i9 => some (r_ls_lists i9)))))))] s.heap.size = A at hD hst ⊢
  have hA : ∀ q : Nat, s.heap.size ≤ q → A q := fun q h => by rw [← hAe]; exact Or.inr h
  have hS : va_S A s.heap s.heap [] := va_S.rf
  have hl := lv_entry ([.ref a_ls, .int 1, .int a2]) (n := 4) (Nat.le_of_ble_eq_true rfl)
  rw [lg_entry_eq]
  generalize (lg_sl ([.ref a_ls, .int 1, .int a2]) ++ List.replicate (4 - (lg_sl ([.ref a_ls, .int 1, .int a2])).length) Slot.unset).toArray = ls at hl ⊢
  have hl : lv_has ls 4 [(0, .ref a_ls), (1, .int 1), (2, .int a2)] := hl
  obtain ⟨k8, hs⟩ := sm_of hs
  refine sm_key (fun R Q k9 => (∀ (H : Heap) (locs : List Loc) (ls : Array Slot) (s0i : Int32) (s1i : Int32) (w_ls_hasSplit : Int32), sm_it (fx_LS_work1_S a2 v_ls_hasSystem) k9 (30, s0i, s1i, w_ls_hasSplit) = some out → va_P (dC, dI) cls [(a_ls, .inr (0, [.ref a_tx, .ref a_wo, .ref a_bu, .ref a_la, .ref a_se, .ref f_ls_lists, .ref a_ch, .ref f_ls_told, .ref f_ls_rest, .ref f_ls_taken, .ref f_ls_bestVector, .ref a_sy, .int v_ls_hasSystem, .int w_ls_hasSplit, .int v_ls_hasBest, .int v_ls_faultPlace])), (f_ls_lists, .inl (k_ls_lists, 3, .inr (.inr (.inr (.inr (fun i9 => some (r_ls_lists i9)))))))] H → va_D A [(a_ls, .inr (0, [.ref a_tx, .ref a_wo, .ref a_bu, .ref a_la, .ref a_se, .ref f_ls_lists, .ref a_ch, .ref f_ls_told, .ref f_ls_rest, .ref f_ls_taken, .ref f_ls_bestVector, .ref a_sy, .int v_ls_hasSystem, .int w_ls_hasSplit, .int v_ls_hasBest, .int v_ls_faultPlace])), (f_ls_lists, .inl (k_ls_lists, 3, .inr (.inr (.inr (.inr (fun i9 => some (r_ls_lists i9)))))))] → va_S A s.heap H locs → lv_has ls 4 [(0, .ref a_ls), (1, .int 1), (2, .int a2)] → W p l e R s m ([.ref a_ls, .int 1, .int a2] : List Value).toArray below meth c H locs 0 0 Q (F0 m 30 ls [.int s0i, .int s1i])) ∧ (∀ (H : Heap) (locs : List Loc) (ls : Array Slot) (s0i : Int32) (s1i : Int32) (w_ls_hasSplit : Int32), sm_it (fx_LS_work1_S a2 v_ls_hasSystem) k9 (47, s0i, s1i, w_ls_hasSplit) = some out → va_P (dC, dI) cls [(a_ls, .inr (0, [.ref a_tx, .ref a_wo, .ref a_bu, .ref a_la, .ref a_se, .ref f_ls_lists, .ref a_ch, .ref f_ls_told, .ref f_ls_rest, .ref f_ls_taken, .ref f_ls_bestVector, .ref a_sy, .int v_ls_hasSystem, .int w_ls_hasSplit, .int v_ls_hasBest, .int v_ls_faultPlace])), (f_ls_lists, .inl (k_ls_lists, 3, .inr (.inr (.inr (.inr (fun i9 => some (r_ls_lists i9)))))))] H → va_D A [(a_ls, .inr (0, [.ref a_tx, .ref a_wo, .ref a_bu, .ref a_la, .ref a_se, .ref f_ls_lists, .ref a_ch, .ref f_ls_told, .ref f_ls_rest, .ref f_ls_taken, .ref f_ls_bestVector, .ref a_sy, .int v_ls_hasSystem, .int w_ls_hasSplit, .int v_ls_hasBest, .int v_ls_faultPlace])), (f_ls_lists, .inl (k_ls_lists, 3, .inr (.inr (.inr (.inr (fun i9 => some (r_ls_lists i9)))))))] → va_S A s.heap H locs → lv_has ls 4 [(0, .ref a_ls), (1, .int 1), (2, .int a2)] → W p l e R s m ([.ref a_ls, .int 1, .int a2] : List Value).toArray below meth c H locs 0 0 Q (F0 m 47 ls []))) ?_ ?_ ?_
  · exact ⟨(fun _ _ _ _ _ _ hs => by cases hs), (fun _ _ _ _ _ _ hs => by cases hs)⟩
  · intro k9 ih
    refine ⟨?_, ?_⟩
    · intro H locs ls s0i s1i w_ls_hasSplit hs hP hD hS hl
      rw [sm_it_succ, fx_LS_work1_S_q30] at hs
      unfold fx_LS_work1_S_b30 at hs
      obtain ⟨r1, hq1, hs⟩ := sm_bd hs
      have hPc := hP.sub (ws' := []) [] rfl
      have hDc := hD.sub (ws' := []) [] (by decide) rfl
      have hKc := hK.sub (tys' := []) [] rfl
      have hFc := va_free (wc := []) hD hS hA [] rfl
      refine va_callv (va_runS (As := [.int s1i, .int s0i]) (rest := []) ⟨hx, hb, hml, hown, hts⟩ (c_LS_needBound l dC dI (s1i) (s0i) H.size r1 hq1) (wd_S 2 hts k_752 k_1 k_750 k_751 rfl rfl (by decide +kernel) ⟨Nat.le_of_ble_eq_true rfl, Nat.le_of_ble_eq_true rfl⟩) ⟨fun a U g mk q => by obtain ⟨q0, q1, qP, qK, qD, qN⟩ := q; exact ⟨q0, q1, qP, va_K.moved (u := U) (U := U.calling g mk a) (Vm.Alike.refl U.vm) qK, qD, nw_ok.same (s := U) (U := U.calling g mk a) rfl qN⟩, fun U hU hW => ⟨rfl, by rw [hU], by rw [hU]; exact hPc, va_K.moved hW.alike hKc, hDc.weaken (fun _ _ _ _ => trivial), nw_ok.warm hW hN⟩⟩ rfl rfl hl.1 rfl (lv_room (Nat.le_of_ble_eq_true rfl)) d_LS_work_30 ⟨Nat.le_of_ble_eq_true rfl, Nat.le_of_ble_eq_true rfl⟩) hS (fun q _ h => hFc q h) hFc (fun u t H1 locs ht hvm hr1 hB hz1 hk1 hS => ?_)
      obtain ⟨hP1, hK1, hD1⟩ := hB
      rw [ht] at hP1
      have hK1 := va_K.moved hvm.symm hK1
      obtain ⟨hP, hD⟩ := va_join (wr := [(a_ls, .inr (0, [.ref a_tx, .ref a_wo, .ref a_bu, .ref a_la, .ref a_se, .ref f_ls_lists, .ref a_ch, .ref f_ls_told, .ref f_ls_rest, .ref f_ls_taken, .ref f_ls_bestVector, .ref a_sy, .int v_ls_hasSystem, .int w_ls_hasSplit, .int v_ls_hasBest, .int v_ls_faultPlace])), (f_ls_lists, .inl (k_ls_lists, 3, .inr (.inr (.inr (.inr (fun i9 => some (r_ls_lists i9)))))))]) (w1 := []) hP hD [] [0, 1] rfl rfl (by decide) (by decide) hk1 hFc hP1 hD1
      have hK := (hK.sub (tys' := [(k_ls_lists, .object "LeastSolutions$VectorList")]) [0] rfl).app hK1
      have hK : va_K (dC, dI) cls [(k_ls_lists, .object "LeastSolutions$VectorList")] s := hK
      have hP : va_P (dC, dI) cls [(a_ls, .inr (0, [.ref a_tx, .ref a_wo, .ref a_bu, .ref a_la, .ref a_se, .ref f_ls_lists, .ref a_ch, .ref f_ls_told, .ref f_ls_rest, .ref f_ls_taken, .ref f_ls_bestVector, .ref a_sy, .int v_ls_hasSystem, .int w_ls_hasSplit, .int v_ls_hasBest, .int v_ls_faultPlace])), (f_ls_lists, .inl (k_ls_lists, 3, .inr (.inr (.inr (.inr (fun i9 => some (r_ls_lists i9)))))))] H1 := hP
      have hD : va_D A [(a_ls, .inr (0, [.ref a_tx, .ref a_wo, .ref a_bu, .ref a_la, .ref a_se, .ref f_ls_lists, .ref a_ch, .ref f_ls_told, .ref f_ls_rest, .ref f_ls_taken, .ref f_ls_bestVector, .ref a_sy, .int v_ls_hasSystem, .int w_ls_hasSplit, .int v_ls_hasBest, .int v_ls_faultPlace])), (f_ls_lists, .inl (k_ls_lists, 3, .inr (.inr (.inr (.inr (fun i9 => some (r_ls_lists i9)))))))] := hD
      refine lv_aload_n hx hb d_LS_work_33 rfl (lv_at hl 0 rfl) ?_
      rcases sm_orc hs with ⟨r2, hq2, hs⟩ | ⟨hq2, hs⟩
      · have he := sm_end hs
        subst he
        have hPc := hP.sub (ws' := [(a_ls, .inr (0, [.ref a_tx, .ref a_wo, .ref a_bu, .ref a_la, .ref a_se, .ref f_ls_lists, .ref a_ch, .ref f_ls_told, .ref f_ls_rest, .ref f_ls_taken, .ref f_ls_bestVector, .ref a_sy, .int v_ls_hasSystem, .int w_ls_hasSplit, .int v_ls_hasBest, .int v_ls_faultPlace]))]) [0] rfl
        have hDc := hD.sub (ws' := [(a_ls, .inr (0, [.ref a_tx, .ref a_wo, .ref a_bu, .ref a_la, .ref a_se, .ref f_ls_lists, .ref a_ch, .ref f_ls_told, .ref f_ls_rest, .ref f_ls_taken, .ref f_ls_bestVector, .ref a_sy, .int v_ls_hasSystem, .int w_ls_hasSplit, .int v_ls_hasBest, .int v_ls_faultPlace]))]) [0] (by decide) rfl
        have hKc := hK.sub (tys' := []) [] rfl
        have hFc := va_free (wc := [(a_ls, .inr (0, [.ref a_tx, .ref a_wo, .ref a_bu, .ref a_la, .ref a_se, .ref f_ls_lists, .ref a_ch, .ref f_ls_told, .ref f_ls_rest, .ref f_ls_taken, .ref f_ls_bestVector, .ref a_sy, .int v_ls_hasSystem, .int w_ls_hasSplit, .int v_ls_hasBest, .int v_ls_faultPlace]))]) hD hS hA [0] rfl
        refine xg_out (xt_runV (As := []) (rest := []) ⟨hx, hb, hml, hown, hts⟩ (x_LS_needSystem_S l htr dC dI (a_ls) (a_tx) (a_wo) (a_bu) (a_la) (a_se) (f_ls_lists) (a_ch) (f_ls_told) (f_ls_rest) (f_ls_taken) (f_ls_bestVector) (a_sy) (v_ls_hasSystem) (w_ls_hasSplit) (v_ls_hasBest) (v_ls_faultPlace) H1.size r2 hq2) (wd_V (C := "LeastSolutions") 0 hts k_681 k_1 k_678 k_680 ks_LS_needSystem rfl rfl (by decide +kernel) ⟨Nat.le_of_ble_eq_true rfl, Nat.le_of_ble_eq_true rfl⟩) ⟨fun a U g mk q => by obtain ⟨q0, q1, qP, qK, qD, qN, qX⟩ := q; exact ⟨q0, q1, qP, va_K.moved (u := U) (U := U.calling g mk a) (Vm.Alike.refl U.vm) qK, qD, nw_ok.same (s := U) (U := U.calling g mk a) rfl qN, xs_ok.moved (s := U) (Vm.Alike.refl U.vm) (fun _ _ => rfl) qX⟩, va_recv (ci := 0) (q0 := 0) hK hP rfl rfl, fun U hU hW => ⟨rfl, by rw [hU], by rw [hU]; exact hPc, va_K.moved hW.alike hKc, hDc.weaken (fun _ _ _ _ => trivial), nw_ok.warm hW hN, xs_ok.grown hW.alike (fun q cell h1 h2 => by rw [hU, hS.2.1 q (Array.getElem?_eq_some_iff.mp h1).1 (hst q cell h1 h2)]; exact h1) hX⟩⟩ rfl rfl hl.1 rfl (lv_room (Nat.le_of_ble_eq_true rfl)) d_LS_work_34 ⟨Nat.le_of_ble_eq_true rfl, Nat.le_of_ble_eq_true rfl⟩) hne hlocks (fun q h => hFc q h) hS.2.2 (fun st x t U h0 hQ e1 e2 hW => ?_)
        obtain ⟨q1, ⟨ce, q2, q3, q4⟩, ⟨hP1, hK1, hD1⟩, q5, q6⟩ := hQ
        have hk1 : ∀ q : Nat, q < H1.size → ¬ va_A [(a_ls, .inr (0, [.ref a_tx, .ref a_wo, .ref a_bu, .ref a_la, .ref a_se, .ref f_ls_lists, .ref a_ch, .ref f_ls_told, .ref f_ls_rest, .ref f_ls_taken, .ref f_ls_bestVector, .ref a_sy, .int v_ls_hasSystem, .int w_ls_hasSplit, .int v_ls_hasBest, .int v_ls_faultPlace]))] H1.size q → t.heap[q]? = H1[q]? := fun q h1 h2 => by rw [← h0]; exact q6 q (by rw [h0]; exact h1) h2
        rw [h0] at q1 q5
        obtain ⟨hP, hD⟩ := va_join (wr := [(f_ls_lists, .inl (k_ls_lists, 3, .inr (.inr (.inr (.inr (fun i9 => some (r_ls_lists i9)))))))]) (w1 := [(a_ls, .inr (0, [.ref a_tx, .ref a_wo, .ref a_bu, .ref a_la, .ref a_se, .ref f_ls_lists, .ref a_ch, .ref f_ls_told, .ref f_ls_rest, .ref f_ls_taken, .ref f_ls_bestVector, .ref a_sy, .int v_ls_hasSystem, .int w_ls_hasSplit, .int v_ls_hasBest, .int v_ls_faultPlace]))]) hP hD [0] [1] rfl rfl (by decide) (by decide) hk1 hFc hP1 hD1
        have hP : va_P (dC, dI) cls [(f_ls_lists, .inl (k_ls_lists, 3, .inr (.inr (.inr (.inr (fun i9 => some (r_ls_lists i9))))))), (a_ls, .inr (0, [.ref a_tx, .ref a_wo, .ref a_bu, .ref a_la, .ref a_se, .ref f_ls_lists, .ref a_ch, .ref f_ls_told, .ref f_ls_rest, .ref f_ls_taken, .ref f_ls_bestVector, .ref a_sy, .int v_ls_hasSystem, .int w_ls_hasSplit, .int v_ls_hasBest, .int v_ls_faultPlace]))] t.heap := hP
        have hD : va_D A [(f_ls_lists, .inl (k_ls_lists, 3, .inr (.inr (.inr (.inr (fun i9 => some (r_ls_lists i9))))))), (a_ls, .inr (0, [.ref a_tx, .ref a_wo, .ref a_bu, .ref a_la, .ref a_se, .ref f_ls_lists, .ref a_ch, .ref f_ls_told, .ref f_ls_rest, .ref f_ls_taken, .ref f_ls_bestVector, .ref a_sy, .int v_ls_hasSystem, .int w_ls_hasSplit, .int v_ls_hasBest, .int v_ls_faultPlace]))] := hD
        have hP := hP.sub (ws' := [(a_ls, .inr (0, [.ref a_tx, .ref a_wo, .ref a_bu, .ref a_la, .ref a_se, .ref f_ls_lists, .ref a_ch, .ref f_ls_told, .ref f_ls_rest, .ref f_ls_taken, .ref f_ls_bestVector, .ref a_sy, .int v_ls_hasSystem, .int w_ls_hasSplit, .int v_ls_hasBest, .int v_ls_faultPlace])), (f_ls_lists, .inl (k_ls_lists, 3, .inr (.inr (.inr (.inr (fun i9 => some (r_ls_lists i9)))))))]) [1, 0] rfl
        have hD := hD.sub (ws' := [(a_ls, .inr (0, [.ref a_tx, .ref a_wo, .ref a_bu, .ref a_la, .ref a_se, .ref f_ls_lists, .ref a_ch, .ref f_ls_told, .ref f_ls_rest, .ref f_ls_taken, .ref f_ls_bestVector, .ref a_sy, .int v_ls_hasSystem, .int w_ls_hasSplit, .int v_ls_hasBest, .int v_ls_faultPlace])), (f_ls_lists, .inl (k_ls_lists, 3, .inr (.inr (.inr (.inr (fun i9 => some (r_ls_lists i9)))))))]) [1, 0] (by decide) rfl
        exact ⟨Nat.le_trans hS.1 q1, ⟨ce, by rw [e1]; exact q2, q3, by rw [e2]; exact q4⟩, ⟨by rw [e1]; exact hP, va_K.moved hW.alike hK, hD⟩, by rw [e1]; exact Nat.le_trans hS.1 q5, fun q h1 h2 => by rw [e1]; exact (hk1 q (Nat.lt_of_lt_of_le h1 hS.1) (fun z => h2 (hFc q z))).trans (hS.2.1 q h1 h2)⟩
      obtain ⟨r3, hq3, hs⟩ := sm_bd hs
      have hPc := hP.sub (ws' := [(a_ls, .inr (0, [.ref a_tx, .ref a_wo, .ref a_bu, .ref a_la, .ref a_se, .ref f_ls_lists, .ref a_ch, .ref f_ls_told, .ref f_ls_rest, .ref f_ls_taken, .ref f_ls_bestVector, .ref a_sy, .int v_ls_hasSystem, .int w_ls_hasSplit, .int v_ls_hasBest, .int v_ls_faultPlace]))]) [0] rfl
      have hDc := hD.sub (ws' := [(a_ls, .inr (0, [.ref a_tx, .ref a_wo, .ref a_bu, .ref a_la, .ref a_se, .ref f_ls_lists, .ref a_ch, .ref f_ls_told, .ref f_ls_rest, .ref f_ls_taken, .ref f_ls_bestVector, .ref a_sy, .int v_ls_hasSystem, .int w_ls_hasSplit, .int v_ls_hasBest, .int v_ls_faultPlace]))]) [0] (by decide) rfl
      have hKc := hK.sub (tys' := []) [] rfl
      have hFc := va_free (wc := [(a_ls, .inr (0, [.ref a_tx, .ref a_wo, .ref a_bu, .ref a_la, .ref a_se, .ref f_ls_lists, .ref a_ch, .ref f_ls_told, .ref f_ls_rest, .ref f_ls_taken, .ref f_ls_bestVector, .ref a_sy, .int v_ls_hasSystem, .int w_ls_hasSplit, .int v_ls_hasBest, .int v_ls_faultPlace]))]) hD hS hA [0] rfl
      refine va_callv (va_runV (As := []) (rest := []) ⟨hx, hb, hml, hown, hts⟩ (c_LS_needSystem l dC dI (a_ls) (a_tx) (a_wo) (a_bu) (a_la) (a_se) (f_ls_lists) (a_ch) (f_ls_told) (f_ls_rest) (f_ls_taken) (f_ls_bestVector) (a_sy) (v_ls_hasSystem) (w_ls_hasSplit) (v_ls_hasBest) (v_ls_faultPlace) H1.size r3 hq3) (wd_V (C := "LeastSolutions") 0 hts k_681 k_1 k_678 k_680 ks_LS_needSystem rfl rfl (by decide +kernel) ⟨Nat.le_of_ble_eq_true rfl, Nat.le_of_ble_eq_true rfl⟩) ⟨fun a U g mk q => by obtain ⟨q0, q1, qP, qK, qD, qN⟩ := q; exact ⟨q0, q1, qP, va_K.moved (u := U) (U := U.calling g mk a) (Vm.Alike.refl U.vm) qK, qD, nw_ok.same (s := U) (U := U.calling g mk a) rfl qN⟩, va_recv (ci := 0) (q0 := 0) hK hP rfl rfl, fun U hU hW => ⟨rfl, by rw [hU], by rw [hU]; exact hPc, va_K.moved hW.alike hKc, hDc.weaken (fun _ _ _ _ => trivial), nw_ok.warm hW hN⟩⟩ rfl rfl hl.1 rfl (lv_room (Nat.le_of_ble_eq_true rfl)) d_LS_work_34 ⟨Nat.le_of_ble_eq_true rfl, Nat.le_of_ble_eq_true rfl⟩) hS (fun q _ h => hFc q h) hFc (fun u t H2 locs ht hvm hr2 hB hz1 hk1 hS => ?_)
      obtain ⟨hP1, hK1, hD1⟩ := hB
      rw [ht] at hP1
      have hK1 := va_K.moved hvm.symm hK1
      obtain ⟨hP, hD⟩ := va_join (wr := [(f_ls_lists, .inl (k_ls_lists, 3, .inr (.inr (.inr (.inr (fun i9 => some (r_ls_lists i9)))))))]) (w1 := [(a_ls, .inr (0, [.ref a_tx, .ref a_wo, .ref a_bu, .ref a_la, .ref a_se, .ref f_ls_lists, .ref a_ch, .ref f_ls_told, .ref f_ls_rest, .ref f_ls_taken, .ref f_ls_bestVector, .ref a_sy, .int v_ls_hasSystem, .int w_ls_hasSplit, .int v_ls_hasBest, .int v_ls_faultPlace]))]) hP hD [0] [1] rfl rfl (by decide) (by decide) hk1 hFc hP1 hD1
      have hK := (hK.sub (tys' := [(k_ls_lists, .object "LeastSolutions$VectorList")]) [0] rfl).app hK1
      have hK : va_K (dC, dI) cls [(k_ls_lists, .object "LeastSolutions$VectorList")] s := hK
      have hP : va_P (dC, dI) cls [(f_ls_lists, .inl (k_ls_lists, 3, .inr (.inr (.inr (.inr (fun i9 => some (r_ls_lists i9))))))), (a_ls, .inr (0, [.ref a_tx, .ref a_wo, .ref a_bu, .ref a_la, .ref a_se, .ref f_ls_lists, .ref a_ch, .ref f_ls_told, .ref f_ls_rest, .ref f_ls_taken, .ref f_ls_bestVector, .ref a_sy, .int v_ls_hasSystem, .int w_ls_hasSplit, .int v_ls_hasBest, .int v_ls_faultPlace]))] H2 := hP
      have hD : va_D A [(f_ls_lists, .inl (k_ls_lists, 3, .inr (.inr (.inr (.inr (fun i9 => some (r_ls_lists i9))))))), (a_ls, .inr (0, [.ref a_tx, .ref a_wo, .ref a_bu, .ref a_la, .ref a_se, .ref f_ls_lists, .ref a_ch, .ref f_ls_told, .ref f_ls_rest, .ref f_ls_taken, .ref f_ls_bestVector, .ref a_sy, .int v_ls_hasSystem, .int w_ls_hasSplit, .int v_ls_hasBest, .int v_ls_faultPlace]))] := hD
      refine lv_iload_n hx hb d_LS_work_37 rfl (lv_at hl 1 rfl) ?_
      refine lv_iconst (v := 2) hx hb d_LS_work_38 (by decide) ?_
      refine lv_icmp_eq (tgt := 47) hx hb d_LS_work_39 (by decide) (fun h9 => absurd h9 (by decide)) (fun _ => ?_)
      refine lv_aload_n hx hb d_LS_work_42 rfl (lv_at hl 0 rfl) ?_
      refine lv_iconst (v := 0) hx hb d_LS_work_43 (by decide) ?_
      refine va_put (D := (dC, dI)) (ci := 0) (v := .int 0) (ty := .boolean) (C := R_LS) (T := T_LS) (N := 16) hx hb hts in_LS t_LS t_LS_ok n_LS hown hK hP hD hS 1 rfl rfl 13 (by decide) (hts _ k_302) (fun _ h9 => h9) rfl (by decide +kernel) (by decide +kernel) (by decide +kernel) (Nat.le_of_ble_eq_true rfl) d_LS_work_44 (fun H3 locs hP hD hS => ?_)
      have hP : va_P (dC, dI) cls [(f_ls_lists, .inl (k_ls_lists, 3, .inr (.inr (.inr (.inr (fun i9 => some (r_ls_lists i9))))))), (a_ls, .inr (0, [.ref a_tx, .ref a_wo, .ref a_bu, .ref a_la, .ref a_se, .ref f_ls_lists, .ref a_ch, .ref f_ls_told, .ref f_ls_rest, .ref f_ls_taken, .ref f_ls_bestVector, .ref a_sy, .int v_ls_hasSystem, .int 0, .int v_ls_hasBest, .int v_ls_faultPlace]))] H3 := hP
      have hD : va_D A [(f_ls_lists, .inl (k_ls_lists, 3, .inr (.inr (.inr (.inr (fun i9 => some (r_ls_lists i9))))))), (a_ls, .inr (0, [.ref a_tx, .ref a_wo, .ref a_bu, .ref a_la, .ref a_se, .ref f_ls_lists, .ref a_ch, .ref f_ls_told, .ref f_ls_rest, .ref f_ls_taken, .ref f_ls_bestVector, .ref a_sy, .int v_ls_hasSystem, .int 0, .int v_ls_hasBest, .int v_ls_faultPlace]))] := hD
      have hP := hP.sub (ws' := [(a_ls, .inr (0, [.ref a_tx, .ref a_wo, .ref a_bu, .ref a_la, .ref a_se, .ref f_ls_lists, .ref a_ch, .ref f_ls_told, .ref f_ls_rest, .ref f_ls_taken, .ref f_ls_bestVector, .ref a_sy, .int v_ls_hasSystem, .int 0, .int v_ls_hasBest, .int v_ls_faultPlace])), (f_ls_lists, .inl (k_ls_lists, 3, .inr (.inr (.inr (.inr (fun i9 => some (r_ls_lists i9)))))))]) [1, 0] rfl
      have hD := hD.sub (ws' := [(a_ls, .inr (0, [.ref a_tx, .ref a_wo, .ref a_bu, .ref a_la, .ref a_se, .ref f_ls_lists, .ref a_ch, .ref f_ls_told, .ref f_ls_rest, .ref f_ls_taken, .ref f_ls_bestVector, .ref a_sy, .int v_ls_hasSystem, .int 0, .int v_ls_hasBest, .int v_ls_faultPlace])), (f_ls_lists, .inl (k_ls_lists, 3, .inr (.inr (.inr (.inr (fun i9 => some (r_ls_lists i9)))))))]) [1, 0] (by decide) rfl
      exact ih.2 _ _ _ _ _ _ hs hP hD hS (lv_sub hl [0, 1, 2] rfl)
    · intro H locs ls s0i s1i w_ls_hasSplit hs hP hD hS hl
      rw [sm_it_succ, fx_LS_work1_S_q47] at hs
      unfold fx_LS_work1_S_b47 at hs
      refine lv_aload_n hx hb d_LS_work_47 rfl (lv_at hl 0 rfl) ?_
      refine va_get (D := (dC, dI)) (ci := 0) (v := .ref f_ls_lists) (C := R_LS) (T := T_LS) (N := 16) hx hb hts in_LS hown hK hP 0 rfl rfl 5 (by decide) (hts _ k_294) (fun _ h9 => h9) rfl d_LS_work_48 ?_
      refine lv_iload_n hx hb d_LS_work_51 rfl (lv_at hl 1 rfl) ?_
      refine ro_ald (Ra := r_ls_lists) (k := 1) hx hb hK hP 1 0 rfl rfl rfl (by decide) (show ¬ ((1 : Int32) < 0 ∨ 3 ≤ (1 : Int32).toNatClampNeg) from by decide) d_LS_work_52 ?_
      refine lv_astore_n hx hb d_LS_work_53 rfl hl (by decide) rfl (fun ls hl => ?_)
      have hl : lv_has ls 4 [(3, .ref (r_ls_lists 1)), (0, .ref a_ls), (1, .int 1), (2, .int a2)] := hl
      refine lv_aload_n hx hb d_LS_work_54 rfl (lv_at hl 0 rfl) ?_
      refine lv_aload_n hx hb d_LS_work_55 rfl (lv_at hl 1 rfl) ?_
      refine va_get (D := (dC, dI)) (ci := 0) (v := .ref a_sy) (C := R_LS) (T := T_LS) (N := 16) hx hb hts in_LS hown hK hP 0 rfl rfl 11 (by decide) (hts _ k_300) (fun _ h9 => h9) rfl d_LS_work_56 ?_
      cases hs
  · intro key
    cases k8 with
    | zero => cases hs
    | succ k9 =>
      rw [sm_it_succ, fx_LS_work1_S_q0] at hs
      unfold fx_LS_work1_S_b0 at hs
      refine lv_iload_n hx hb d_LS_work_0 rfl (lv_at hl 1 rfl) ?_
      refine lv_if_lt (tgt := 9) hx hb d_LS_work_1 (by decide) (fun h9 => absurd h9 (by decide)) (fun _ => ?_)
      refine lv_iload_n hx hb d_LS_work_4 rfl (lv_at hl 1 rfl) ?_
      refine lv_iconst (v := 2) hx hb d_LS_work_5 (by decide) ?_
      refine lv_icmp_le (tgt := 17) hx hb d_LS_work_6 (by decide) (fun _ => ?_) (fun h9 => absurd (by decide) h9)
      refine lv_iload_n hx hb d_LS_work_17 rfl (lv_at hl 2 rfl) ?_
      refine lv_iload_n hx hb d_LS_work_18 rfl (lv_at hl 1 rfl) ?_
      refine lv_iconst (v := 2) hx hb d_LS_work_19 (by decide) ?_
      refine lv_icmp_ne (tgt := 28) hx hb d_LS_work_20 (by decide) (fun _ => ?_) (fun h9 => absurd h9 (by decide))
      refine lv_bipush (v := 16) hx hb d_LS_work_28 (by decide) ?_
      exact (key k9).1 _ _ _ _ _ _ hs hP hD hS (lv_sub hl [0, 1, 2] rfl)

noncomputable def fx_LS_work2_A_b0 (a2 : Int32) (_z0 : Int32) (_z1 : Int32) : Option ((Nat × Int32 × Int32) ⊕ (Unit)) := some (.inl (30, 10, a2))
noncomputable def fx_LS_work2_A_b30 (a2 : Int32) (s0i : Int32) (s1i : Int32) : Option ((Nat × Int32 × Int32) ⊕ (Unit)) := sm_or (sm_tot (fx_LS_needBound_A s1i s0i) 0) (fun _ => some (.inr ())) ((sm_tot (fn_LS_needBound s1i s0i) 0).bind (fun r2 => none))
noncomputable def fx_LS_work2_A (a2 : Int32) : Nat × Int32 × Int32 → Option ((Nat × Int32 × Int32) ⊕ (Unit)) := fun st => match st with
  | (pc, s0i, s1i) => if pc = 0 then fx_LS_work2_A_b0 a2 s0i s1i else if pc = 30 then fx_LS_work2_A_b30 a2 s0i s1i else none
theorem fx_LS_work2_A_q0 (a2 : Int32) (s0i : Int32) (s1i : Int32) : fx_LS_work2_A a2 (0, s0i, s1i) = fx_LS_work2_A_b0 a2 s0i s1i := by simp [fx_LS_work2_A]
theorem fx_LS_work2_A_q30 (a2 : Int32) (s0i : Int32) (s1i : Int32) : fx_LS_work2_A a2 (30, s0i, s1i) = fx_LS_work2_A_b30 a2 s0i s1i := by simp [fx_LS_work2_A]
set_option maxHeartbeats 4000000 in
set_option maxRecDepth 100000 in
theorem x_LS_work2_A (l : Launch) (htr : l.stackTraces = false) (dC : Nat → ClassId) (dI : Nat → Nat → Nat) (a_ls : Nat) (a_tx : Nat) (a_wo : Nat) (a_bu : Nat) (a_la : Nat) (a_se : Nat) (f_ls_lists : Nat) (a_ch : Nat) (f_ls_told : Nat) (f_ls_rest : Nat) (f_ls_taken : Nat) (f_ls_bestVector : Nat) (a_sy : Nat) (v_ls_hasSystem : Int32) (v_ls_hasSplit : Int32) (v_ls_hasBest : Int32) (v_ls_faultPlace : Int32) (a2 : Int32) (sz : Nat) (out : Unit) (hs : sm_tot (fx_LS_work2_A a2) (0, 0, 0) = some out) : xt_Met l y_LS_work (Cond.code y_LS_work b_LS_work 4 (Option.some Jvm.ClassFile.FieldType.int) :: wd) { frames := 7, cells := 1, slots := 6, locals := 121 } (va_Pc [.ref a_ls, .int 2, .int a2] (fun U => U.heap.size = sz ∧ va_P (dC, dI) cls [(a_ls, .inr (0, [.ref a_tx, .ref a_wo, .ref a_bu, .ref a_la, .ref a_se, .ref f_ls_lists, .ref a_ch, .ref f_ls_told, .ref f_ls_rest, .ref f_ls_taken, .ref f_ls_bestVector, .ref a_sy, .int v_ls_hasSystem, .int v_ls_hasSplit, .int v_ls_hasBest, .int v_ls_faultPlace]))] U.heap ∧ va_K (dC, dI) cls [] U ∧ va_D (fun _ => True) [(a_ls, .inr (0, [.ref a_tx, .ref a_wo, .ref a_bu, .ref a_la, .ref a_se, .ref f_ls_lists, .ref a_ch, .ref f_ls_told, .ref f_ls_rest, .ref f_ls_taken, .ref f_ls_bestVector, .ref a_sy, .int v_ls_hasSystem, .int v_ls_hasSplit, .int v_ls_hasBest, .int v_ls_faultPlace]))] ∧ nw_ok U ∧ xs_ok U)) (fun _ st x t => xg_Q "java/lang/IllegalArgumentException" (va_A [(a_ls, .inr (0, [.ref a_tx, .ref a_wo, .ref a_bu, .ref a_la, .ref a_se, .ref f_ls_lists, .ref a_ch, .ref f_ls_told, .ref f_ls_rest, .ref f_ls_taken, .ref f_ls_bestVector, .ref a_sy, .int v_ls_hasSystem, .int v_ls_hasSplit, .int v_ls_hasBest, .int v_ls_faultPlace]))] sz) (fun t => va_P (dC, dI) cls [(a_ls, .inr (0, [.ref a_tx, .ref a_wo, .ref a_bu, .ref a_la, .ref a_se, .ref f_ls_lists, .ref a_ch, .ref f_ls_told, .ref f_ls_rest, .ref f_ls_taken, .ref f_ls_bestVector, .ref a_sy, .int v_ls_hasSystem, .int v_ls_hasSplit, .int v_ls_hasBest, .int v_ls_faultPlace]))] t.heap ∧ va_K (dC, dI) cls [] t ∧ va_D (va_A [(a_ls, .inr (0, [.ref a_tx, .ref a_wo, .ref a_bu, .ref a_la, .ref a_se, .ref f_ls_lists, .ref a_ch, .ref f_ls_told, .ref f_ls_rest, .ref f_ls_taken, .ref f_ls_bestVector, .ref a_sy, .int v_ls_hasSystem, .int v_ls_hasSplit, .int v_ls_hasBest, .int v_ls_faultPlace]))] sz) [(a_ls, .inr (0, [.ref a_tx, .ref a_wo, .ref a_bu, .ref a_la, .ref a_se, .ref f_ls_lists, .ref a_ch, .ref f_ls_told, .ref f_ls_rest, .ref f_ls_taken, .ref f_ls_bestVector, .ref a_sy, .int v_ls_hasSystem, .int v_ls_hasSplit, .int v_ls_hasBest, .int v_ls_faultPlace]))]) st x t) 1 6 (va_A [(a_ls, .inr (0, [.ref a_tx, .ref a_wo, .ref a_bu, .ref a_la, .ref a_se, .ref f_ls_lists, .ref a_ch, .ref f_ls_told, .ref f_ls_rest, .ref f_ls_taken, .ref f_ls_bestVector, .ref a_sy, .int v_ls_hasSystem, .int v_ls_hasSplit, .int v_ls_hasBest, .int v_ls_faultPlace]))] sz) := by
  refine xt_ofW (cc := b_LS_work) (maxL := 4) (ret := (Option.some Jvm.ClassFile.FieldType.int)) (by decide) rfl ?_
  intro p e s m args below meth c s₁ B hml hne hv
  obtain ⟨rfl, hsz, hP, hK, hD0, hN, hX⟩ := hv
  have hx := B.exec
  have hb := B.bytes
  have hr := B.returns
  have hlocks := B.notSynchronized
  have hts : ∀ w ∈ wd, w.before ([.ref a_ls, .int 2, .int a2] : List Value).toArray s = true := fun w hw => atoms_spec (ws := (Cond.code y_LS_work b_LS_work 4 (Option.some Jvm.ClassFile.FieldType.int) :: wd)) B.pre w (List.mem_cons_of_mem _ hw)
  have hpay := pay_in hts wd_gs
  have hown : s.vm.findClass "LeastSolutions" = some m.cls := findClass_of_methodNamed B.named
  subst hsz
  have hst := fun (q : Nat) (cell : Cell) (h1 : s.heap[q]? = some cell) (h2 : cell.vm.isStatics = true) => xg_st hP h1 h2
  have hD := hD0.self (sz := s.heap.size)
  generalize hAe : va_A [(a_ls, .inr (0, [.ref a_tx, .ref a_wo, .ref a_bu, .ref a_la, .ref a_se, .ref f_ls_lists, .ref a_ch, .ref f_ls_told, .ref f_ls_rest, .ref f_ls_taken, .ref f_ls_bestVector, .ref a_sy, .int v_ls_hasSystem, .int v_ls_hasSplit, .int v_ls_hasBest, .int v_ls_faultPlace]))] s.heap.size = A at hD hst ⊢
  have hA : ∀ q : Nat, s.heap.size ≤ q → A q := fun q h => by rw [← hAe]; exact Or.inr h
  have hS : va_S A s.heap s.heap [] := va_S.rf
  have hl := lv_entry ([.ref a_ls, .int 2, .int a2]) (n := 4) (Nat.le_of_ble_eq_true rfl)
  rw [lg_entry_eq]
  generalize (lg_sl ([.ref a_ls, .int 2, .int a2]) ++ List.replicate (4 - (lg_sl ([.ref a_ls, .int 2, .int a2])).length) Slot.unset).toArray = ls at hl ⊢
  have hl : lv_has ls 4 [(0, .ref a_ls), (1, .int 2), (2, .int a2)] := hl
  obtain ⟨k8, hs⟩ := sm_of hs
  refine sm_key (fun R Q k9 => (∀ (H : Heap) (locs : List Loc) (ls : Array Slot) (s0i : Int32) (s1i : Int32), sm_it (fx_LS_work2_A a2) k9 (30, s0i, s1i) = some out → va_P (dC, dI) cls [(a_ls, .inr (0, [.ref a_tx, .ref a_wo, .ref a_bu, .ref a_la, .ref a_se, .ref f_ls_lists, .ref a_ch, .ref f_ls_told, .ref f_ls_rest, .ref f_ls_taken, .ref f_ls_bestVector, .ref a_sy, .int v_ls_hasSystem, .int v_ls_hasSplit, .int v_ls_hasBest, .int v_ls_faultPlace]))] H → va_D A [(a_ls, .inr (0, [.ref a_tx, .ref a_wo, .ref a_bu, .ref a_la, .ref a_se, .ref f_ls_lists, .ref a_ch, .ref f_ls_told, .ref f_ls_rest, .ref f_ls_taken, .ref f_ls_bestVector, .ref a_sy, .int v_ls_hasSystem, .int v_ls_hasSplit, .int v_ls_hasBest, .int v_ls_faultPlace]))] → va_S A s.heap H locs → lv_has ls 4 [(0, .ref a_ls), (1, .int 2), (2, .int a2)] → W p l e R s m ([.ref a_ls, .int 2, .int a2] : List Value).toArray below meth c H locs 0 0 Q (F0 m 30 ls [.int s0i, .int s1i]))) ?_ ?_ ?_
  · exact fun _ _ _ _ _ hs => by cases hs
  · intro k9 ih
    skip
    intro H locs ls s0i s1i hs hP hD hS hl
    rw [sm_it_succ, fx_LS_work2_A_q30] at hs
    unfold fx_LS_work2_A_b30 at hs
    rcases sm_orc hs with ⟨r1, hq1, hs⟩ | ⟨hq1, hs⟩
    · have he := sm_end hs
      subst he
      have hPc := hP.sub (ws' := []) [] rfl
      have hDc := hD.sub (ws' := []) [] (by decide) rfl
      have hKc := hK.sub (tys' := []) [] rfl
      have hFc := va_free (wc := []) hD hS hA [] rfl
      refine xg_out (xt_runS (As := [.int s1i, .int s0i]) (rest := []) ⟨hx, hb, hml, hown, hts⟩ (x_LS_needBound_A l htr dC dI (s1i) (s0i) H.size r1 hq1) (wd_S 2 hts k_752 k_1 k_750 k_751 rfl rfl (by decide +kernel) ⟨Nat.le_of_ble_eq_true rfl, Nat.le_of_ble_eq_true rfl⟩) ⟨fun a U g mk q => by obtain ⟨q0, q1, qP, qK, qD, qN, qX⟩ := q; exact ⟨q0, q1, qP, va_K.moved (u := U) (U := U.calling g mk a) (Vm.Alike.refl U.vm) qK, qD, nw_ok.same (s := U) (U := U.calling g mk a) rfl qN, xs_ok.moved (s := U) (Vm.Alike.refl U.vm) (fun _ _ => rfl) qX⟩, fun U hU hW => ⟨rfl, by rw [hU], by rw [hU]; exact hPc, va_K.moved hW.alike hKc, hDc.weaken (fun _ _ _ _ => trivial), nw_ok.warm hW hN, xs_ok.grown hW.alike (fun q cell h1 h2 => by rw [hU, hS.2.1 q (Array.getElem?_eq_some_iff.mp h1).1 (hst q cell h1 h2)]; exact h1) hX⟩⟩ rfl rfl hl.1 rfl (lv_room (Nat.le_of_ble_eq_true rfl)) d_LS_work_30 ⟨Nat.le_of_ble_eq_true rfl, Nat.le_of_ble_eq_true rfl⟩) hne hlocks (fun q h => hFc q h) hS.2.2 (fun st x t U h0 hQ e1 e2 hW => ?_)
      obtain ⟨q1, ⟨ce, q2, q3, q4⟩, ⟨hP1, hK1, hD1⟩, q5, q6⟩ := hQ
      have hk1 : ∀ q : Nat, q < H.size → ¬ va_A [] H.size q → t.heap[q]? = H[q]? := fun q h1 h2 => by rw [← h0]; exact q6 q (by rw [h0]; exact h1) h2
      rw [h0] at q1 q5
      obtain ⟨hP, hD⟩ := va_join (wr := [(a_ls, .inr (0, [.ref a_tx, .ref a_wo, .ref a_bu, .ref a_la, .ref a_se, .ref f_ls_lists, .ref a_ch, .ref f_ls_told, .ref f_ls_rest, .ref f_ls_taken, .ref f_ls_bestVector, .ref a_sy, .int v_ls_hasSystem, .int v_ls_hasSplit, .int v_ls_hasBest, .int v_ls_faultPlace]))]) (w1 := []) hP hD [] [0] rfl rfl (by decide) (by decide) hk1 hFc hP1 hD1
      have hP : va_P (dC, dI) cls [(a_ls, .inr (0, [.ref a_tx, .ref a_wo, .ref a_bu, .ref a_la, .ref a_se, .ref f_ls_lists, .ref a_ch, .ref f_ls_told, .ref f_ls_rest, .ref f_ls_taken, .ref f_ls_bestVector, .ref a_sy, .int v_ls_hasSystem, .int v_ls_hasSplit, .int v_ls_hasBest, .int v_ls_faultPlace]))] t.heap := hP
      have hD : va_D A [(a_ls, .inr (0, [.ref a_tx, .ref a_wo, .ref a_bu, .ref a_la, .ref a_se, .ref f_ls_lists, .ref a_ch, .ref f_ls_told, .ref f_ls_rest, .ref f_ls_taken, .ref f_ls_bestVector, .ref a_sy, .int v_ls_hasSystem, .int v_ls_hasSplit, .int v_ls_hasBest, .int v_ls_faultPlace]))] := hD
      exact ⟨Nat.le_trans hS.1 q1, ⟨ce, by rw [e1]; exact q2, q3, by rw [e2]; exact q4⟩, ⟨by rw [e1]; exact hP, va_K.moved hW.alike hK, hD⟩, by rw [e1]; exact Nat.le_trans hS.1 q5, fun q h1 h2 => by rw [e1]; exact (hk1 q (Nat.lt_of_lt_of_le h1 hS.1) (fun z => h2 (hFc q z))).trans (hS.2.1 q h1 h2)⟩
    obtain ⟨r2, hq2, hs⟩ := sm_bd hs
    have hPc := hP.sub (ws' := []) [] rfl
    have hDc := hD.sub (ws' := []) [] (by decide) rfl
    have hKc := hK.sub (tys' := []) [] rfl
    have hFc := va_free (wc := []) hD hS hA [] rfl
    refine va_callv (va_runS (As := [.int s1i, .int s0i]) (rest := []) ⟨hx, hb, hml, hown, hts⟩ (c_LS_needBound l dC dI (s1i) (s0i) H.size r2 hq2) (wd_S 2 hts k_752 k_1 k_750 k_751 rfl rfl (by decide +kernel) ⟨Nat.le_of_ble_eq_true rfl, Nat.le_of_ble_eq_true rfl⟩) ⟨fun a U g mk q => by obtain ⟨q0, q1, qP, qK, qD, qN⟩ := q; exact ⟨q0, q1, qP, va_K.moved (u := U) (U := U.calling g mk a) (Vm.Alike.refl U.vm) qK, qD, nw_ok.same (s := U) (U := U.calling g mk a) rfl qN⟩, fun U hU hW => ⟨rfl, by rw [hU], by rw [hU]; exact hPc, va_K.moved hW.alike hKc, hDc.weaken (fun _ _ _ _ => trivial), nw_ok.warm hW hN⟩⟩ rfl rfl hl.1 rfl (lv_room (Nat.le_of_ble_eq_true rfl)) d_LS_work_30 ⟨Nat.le_of_ble_eq_true rfl, Nat.le_of_ble_eq_true rfl⟩) hS (fun q _ h => hFc q h) hFc (fun u t H1 locs ht hvm hr1 hB hz1 hk1 hS => ?_)
    obtain ⟨hP1, hK1, hD1⟩ := hB
    rw [ht] at hP1
    have hK1 := va_K.moved hvm.symm hK1
    obtain ⟨hP, hD⟩ := va_join (wr := [(a_ls, .inr (0, [.ref a_tx, .ref a_wo, .ref a_bu, .ref a_la, .ref a_se, .ref f_ls_lists, .ref a_ch, .ref f_ls_told, .ref f_ls_rest, .ref f_ls_taken, .ref f_ls_bestVector, .ref a_sy, .int v_ls_hasSystem, .int v_ls_hasSplit, .int v_ls_hasBest, .int v_ls_faultPlace]))]) (w1 := []) hP hD [] [0] rfl rfl (by decide) (by decide) hk1 hFc hP1 hD1
    have hK := (hK.sub (tys' := []) [] rfl).app hK1
    have hK : va_K (dC, dI) cls [] s := hK
    have hP : va_P (dC, dI) cls [(a_ls, .inr (0, [.ref a_tx, .ref a_wo, .ref a_bu, .ref a_la, .ref a_se, .ref f_ls_lists, .ref a_ch, .ref f_ls_told, .ref f_ls_rest, .ref f_ls_taken, .ref f_ls_bestVector, .ref a_sy, .int v_ls_hasSystem, .int v_ls_hasSplit, .int v_ls_hasBest, .int v_ls_faultPlace]))] H1 := hP
    have hD : va_D A [(a_ls, .inr (0, [.ref a_tx, .ref a_wo, .ref a_bu, .ref a_la, .ref a_se, .ref f_ls_lists, .ref a_ch, .ref f_ls_told, .ref f_ls_rest, .ref f_ls_taken, .ref f_ls_bestVector, .ref a_sy, .int v_ls_hasSystem, .int v_ls_hasSplit, .int v_ls_hasBest, .int v_ls_faultPlace]))] := hD
    refine lv_aload_n hx hb d_LS_work_33 rfl (lv_at hl 0 rfl) ?_
    cases hs
  · intro key
    cases k8 with
    | zero => cases hs
    | succ k9 =>
      rw [sm_it_succ, fx_LS_work2_A_q0] at hs
      unfold fx_LS_work2_A_b0 at hs
      refine lv_iload_n hx hb d_LS_work_0 rfl (lv_at hl 1 rfl) ?_
      refine lv_if_lt (tgt := 9) hx hb d_LS_work_1 (by decide) (fun h9 => absurd h9 (by decide)) (fun _ => ?_)
      refine lv_iload_n hx hb d_LS_work_4 rfl (lv_at hl 1 rfl) ?_
      refine lv_iconst (v := 2) hx hb d_LS_work_5 (by decide) ?_
      refine lv_icmp_le (tgt := 17) hx hb d_LS_work_6 (by decide) (fun _ => ?_) (fun h9 => absurd (by decide) h9)
      refine lv_iload_n hx hb d_LS_work_17 rfl (lv_at hl 2 rfl) ?_
      refine lv_iload_n hx hb d_LS_work_18 rfl (lv_at hl 1 rfl) ?_
      refine lv_iconst (v := 2) hx hb d_LS_work_19 (by decide) ?_
      refine lv_icmp_ne (tgt := 28) hx hb d_LS_work_20 (by decide) (fun h9 => absurd (by decide) h9) (fun _ => ?_)
      refine lv_bipush (v := 10) hx hb d_LS_work_23 (by decide) ?_
      refine lv_goto (tgt := 30) hx hb d_LS_work_25 (by decide) ?_
      exact (key k9) _ _ _ _ _ hs hP hD hS (lv_sub hl [0, 1, 2] rfl)

noncomputable def fx_LS_work2_S_b0 (a2 : Int32) (v_ls_hasSystem : Int32) (_z0 : Int32) (_z1 : Int32) : Option ((Nat × Int32 × Int32) ⊕ (Unit)) := some (.inl (30, 10, a2))
noncomputable def fx_LS_work2_S_b30 (a2 : Int32) (v_ls_hasSystem : Int32) (s0i : Int32) (s1i : Int32) : Option ((Nat × Int32 × Int32) ⊕ (Unit)) := (sm_tot (fn_LS_needBound s1i s0i) 0).bind (fun r1 => sm_or (sm_tot (fx_LS_needSystem_S v_ls_hasSystem) 0) (fun _ => some (.inr ())) ((sm_tot (fn_LS_needSystem v_ls_hasSystem) 0).bind (fun r3 => some (.inl (47, 0, 0)))))
noncomputable def fx_LS_work2_S_b47 (a2 : Int32) (v_ls_hasSystem : Int32) (s0i : Int32) (s1i : Int32) : Option ((Nat × Int32 × Int32) ⊕ (Unit)) := none
noncomputable def fx_LS_work2_S (a2 : Int32) (v_ls_hasSystem : Int32) : Nat × Int32 × Int32 → Option ((Nat × Int32 × Int32) ⊕ (Unit)) := fun st => match st with
  | (pc, s0i, s1i) => if pc = 0 then fx_LS_work2_S_b0 a2 v_ls_hasSystem s0i s1i else if pc = 30 then fx_LS_work2_S_b30 a2 v_ls_hasSystem s0i s1i else if pc = 47 then fx_LS_work2_S_b47 a2 v_ls_hasSystem s0i s1i else none
theorem fx_LS_work2_S_q0 (a2 : Int32) (v_ls_hasSystem : Int32) (s0i : Int32) (s1i : Int32) : fx_LS_work2_S a2 v_ls_hasSystem (0, s0i, s1i) = fx_LS_work2_S_b0 a2 v_ls_hasSystem s0i s1i := by simp [fx_LS_work2_S]
theorem fx_LS_work2_S_q30 (a2 : Int32) (v_ls_hasSystem : Int32) (s0i : Int32) (s1i : Int32) : fx_LS_work2_S a2 v_ls_hasSystem (30, s0i, s1i) = fx_LS_work2_S_b30 a2 v_ls_hasSystem s0i s1i := by simp [fx_LS_work2_S]
theorem fx_LS_work2_S_q47 (a2 : Int32) (v_ls_hasSystem : Int32) (s0i : Int32) (s1i : Int32) : fx_LS_work2_S a2 v_ls_hasSystem (47, s0i, s1i) = fx_LS_work2_S_b47 a2 v_ls_hasSystem s0i s1i := by simp [fx_LS_work2_S]
set_option maxHeartbeats 4000000 in
set_option maxRecDepth 100000 in
theorem x_LS_work2_S (l : Launch) (htr : l.stackTraces = false) (dC : Nat → ClassId) (dI : Nat → Nat → Nat) (a_ls : Nat) (a_tx : Nat) (a_wo : Nat) (a_bu : Nat) (a_la : Nat) (a_se : Nat) (f_ls_lists : Nat) (a_ch : Nat) (f_ls_told : Nat) (f_ls_rest : Nat) (f_ls_taken : Nat) (f_ls_bestVector : Nat) (a_sy : Nat) (v_ls_hasSystem : Int32) (v_ls_hasSplit : Int32) (v_ls_hasBest : Int32) (v_ls_faultPlace : Int32) (k_ls_lists : ClassId) (r_ls_lists : Nat → Nat) (a2 : Int32) (sz : Nat) (out : Unit) (hs : sm_tot (fx_LS_work2_S a2 v_ls_hasSystem) (0, 0, 0) = some out) : xt_Met l y_LS_work (Cond.code y_LS_work b_LS_work 4 (Option.some Jvm.ClassFile.FieldType.int) :: wd) { frames := 7, cells := 1, slots := 6, locals := 120 } (va_Pc [.ref a_ls, .int 2, .int a2] (fun U => U.heap.size = sz ∧ va_P (dC, dI) cls [(a_ls, .inr (0, [.ref a_tx, .ref a_wo, .ref a_bu, .ref a_la, .ref a_se, .ref f_ls_lists, .ref a_ch, .ref f_ls_told, .ref f_ls_rest, .ref f_ls_taken, .ref f_ls_bestVector, .ref a_sy, .int v_ls_hasSystem, .int v_ls_hasSplit, .int v_ls_hasBest, .int v_ls_faultPlace])), (f_ls_lists, .inl (k_ls_lists, 3, .inr (.inr (.inr (.inr (fun i9 => some (r_ls_lists i9)))))))] U.heap ∧ va_K (dC, dI) cls [(k_ls_lists, .object "LeastSolutions$VectorList")] U ∧ va_D (fun _ => True) [(a_ls, .inr (0, [.ref a_tx, .ref a_wo, .ref a_bu, .ref a_la, .ref a_se, .ref f_ls_lists, .ref a_ch, .ref f_ls_told, .ref f_ls_rest, .ref f_ls_taken, .ref f_ls_bestVector, .ref a_sy, .int v_ls_hasSystem, .int v_ls_hasSplit, .int v_ls_hasBest, .int v_ls_faultPlace])), (f_ls_lists, .inl (k_ls_lists, 3, .inr (.inr (.inr (.inr (fun i9 => some (r_ls_lists i9)))))))] ∧ nw_ok U ∧ xs_ok U)) (fun _ st x t => xg_Q "java/lang/IllegalStateException" (va_A [(a_ls, .inr (0, [.ref a_tx, .ref a_wo, .ref a_bu, .ref a_la, .ref a_se, .ref f_ls_lists, .ref a_ch, .ref f_ls_told, .ref f_ls_rest, .ref f_ls_taken, .ref f_ls_bestVector, .ref a_sy, .int v_ls_hasSystem, .int v_ls_hasSplit, .int v_ls_hasBest, .int v_ls_faultPlace])), (f_ls_lists, .inl (k_ls_lists, 3, .inr (.inr (.inr (.inr (fun i9 => some (r_ls_lists i9)))))))] sz) (fun t => va_P (dC, dI) cls [(a_ls, .inr (0, [.ref a_tx, .ref a_wo, .ref a_bu, .ref a_la, .ref a_se, .ref f_ls_lists, .ref a_ch, .ref f_ls_told, .ref f_ls_rest, .ref f_ls_taken, .ref f_ls_bestVector, .ref a_sy, .int v_ls_hasSystem, .int v_ls_hasSplit, .int v_ls_hasBest, .int v_ls_faultPlace])), (f_ls_lists, .inl (k_ls_lists, 3, .inr (.inr (.inr (.inr (fun i9 => some (r_ls_lists i9)))))))] t.heap ∧ va_K (dC, dI) cls [(k_ls_lists, .object "LeastSolutions$VectorList")] t ∧ va_D (va_A [(a_ls, .inr (0, [.ref a_tx, .ref a_wo, .ref a_bu, .ref a_la, .ref a_se, .ref f_ls_lists, .ref a_ch, .ref f_ls_told, .ref f_ls_rest, .ref f_ls_taken, .ref f_ls_bestVector, .ref a_sy, .int v_ls_hasSystem, .int v_ls_hasSplit, .int v_ls_hasBest, .int v_ls_faultPlace])), (f_ls_lists, .inl (k_ls_lists, 3, .inr (.inr (.inr (.inr (fun i9 => some (r_ls_lists i9)))))))] sz) [(a_ls, .inr (0, [.ref a_tx, .ref a_wo, .ref a_bu, .ref a_la, .ref a_se, .ref f_ls_lists, .ref a_ch, .ref f_ls_told, .ref f_ls_rest, .ref f_ls_taken, .ref f_ls_bestVector, .ref a_sy, .int v_ls_hasSystem, .int v_ls_hasSplit, .int v_ls_hasBest, .int v_ls_faultPlace])), (f_ls_lists, .inl (k_ls_lists, 3, .inr (.inr (.inr (.inr (fun i9 => some (r_ls_lists i9)))))))]) st x t) 1 6 (va_A [(a_ls, .inr (0, [.ref a_tx, .ref a_wo, .ref a_bu, .ref a_la, .ref a_se, .ref f_ls_lists, .ref a_ch, .ref f_ls_told, .ref f_ls_rest, .ref f_ls_taken, .ref f_ls_bestVector, .ref a_sy, .int v_ls_hasSystem, .int v_ls_hasSplit, .int v_ls_hasBest, .int v_ls_faultPlace])), (f_ls_lists, .inl (k_ls_lists, 3, .inr (.inr (.inr (.inr (fun i9 => some (r_ls_lists i9)))))))] sz) := by
  refine xt_ofW (cc := b_LS_work) (maxL := 4) (ret := (Option.some Jvm.ClassFile.FieldType.int)) (by decide) rfl ?_
  intro p e s m args below meth c s₁ B hml hne hv
  obtain ⟨rfl, hsz, hP, hK, hD0, hN, hX⟩ := hv
  have hx := B.exec
  have hb := B.bytes
  have hr := B.returns
  have hlocks := B.notSynchronized
  have hts : ∀ w ∈ wd, w.before ([.ref a_ls, .int 2, .int a2] : List Value).toArray s = true := fun w hw => atoms_spec (ws := (Cond.code y_LS_work b_LS_work 4 (Option.some Jvm.ClassFile.FieldType.int) :: wd)) B.pre w (List.mem_cons_of_mem _ hw)
  have hpay := pay_in hts wd_gs
  have hown : s.vm.findClass "LeastSolutions" = some m.cls := findClass_of_methodNamed B.named
  subst hsz
  have hst := fun (q : Nat) (cell : Cell) (h1 : s.heap[q]? = some cell) (h2 : cell.vm.isStatics = true) => xg_st hP h1 h2
  have hD := hD0.self (sz := s.heap.size)
  generalize hAe : va_A [(a_ls, .inr (0, [.ref a_tx, .ref a_wo, .ref a_bu, .ref a_la, .ref a_se, .ref f_ls_lists, .ref a_ch, .ref f_ls_told, .ref f_ls_rest, .ref f_ls_taken, .ref f_ls_bestVector, .ref a_sy, .int v_ls_hasSystem, .int v_ls_hasSplit, .int v_ls_hasBest, .int v_ls_faultPlace])), (f_ls_lists, .inl (k_ls_lists, 3, .inr (.inr (.inr (.inr (fun i9 => some (r_ls_lists i9)))))))] s.heap.size = A at hD hst ⊢
  have hA : ∀ q : Nat, s.heap.size ≤ q → A q := fun q h => by rw [← hAe]; exact Or.inr h
  have hS : va_S A s.heap s.heap [] := va_S.rf
  have hl := lv_entry ([.ref a_ls, .int 2, .int a2]) (n := 4) (Nat.le_of_ble_eq_true rfl)
  rw [lg_entry_eq]
  generalize (lg_sl ([.ref a_ls, .int 2, .int a2]) ++ List.replicate (4 - (lg_sl ([.ref a_ls, .int 2, .int a2])).length) Slot.unset).toArray = ls at hl ⊢
  have hl : lv_has ls 4 [(0, .ref a_ls), (1, .int 2), (2, .int a2)] := hl
  obtain ⟨k8, hs⟩ := sm_of hs
  refine sm_key (fun R Q k9 => (∀ (H : Heap) (locs : List Loc) (ls : Array Slot) (s0i : Int32) (s1i : Int32), sm_it (fx_LS_work2_S a2 v_ls_hasSystem) k9 (30, s0i, s1i) = some out → va_P (dC, dI) cls [(a_ls, .inr (0, [.ref a_tx, .ref a_wo, .ref a_bu, .ref a_la, .ref a_se, .ref f_ls_lists, .ref a_ch, .ref f_ls_told, .ref f_ls_rest, .ref f_ls_taken, .ref f_ls_bestVector, .ref a_sy, .int v_ls_hasSystem, .int v_ls_hasSplit, .int v_ls_hasBest, .int v_ls_faultPlace])), (f_ls_lists, .inl (k_ls_lists, 3, .inr (.inr (.inr (.inr (fun i9 => some (r_ls_lists i9)))))))] H → va_D A [(a_ls, .inr (0, [.ref a_tx, .ref a_wo, .ref a_bu, .ref a_la, .ref a_se, .ref f_ls_lists, .ref a_ch, .ref f_ls_told, .ref f_ls_rest, .ref f_ls_taken, .ref f_ls_bestVector, .ref a_sy, .int v_ls_hasSystem, .int v_ls_hasSplit, .int v_ls_hasBest, .int v_ls_faultPlace])), (f_ls_lists, .inl (k_ls_lists, 3, .inr (.inr (.inr (.inr (fun i9 => some (r_ls_lists i9)))))))] → va_S A s.heap H locs → lv_has ls 4 [(0, .ref a_ls), (1, .int 2), (2, .int a2)] → W p l e R s m ([.ref a_ls, .int 2, .int a2] : List Value).toArray below meth c H locs 0 0 Q (F0 m 30 ls [.int s0i, .int s1i])) ∧ (∀ (H : Heap) (locs : List Loc) (ls : Array Slot) (s0i : Int32) (s1i : Int32), sm_it (fx_LS_work2_S a2 v_ls_hasSystem) k9 (47, s0i, s1i) = some out → va_P (dC, dI) cls [(a_ls, .inr (0, [.ref a_tx, .ref a_wo, .ref a_bu, .ref a_la, .ref a_se, .ref f_ls_lists, .ref a_ch, .ref f_ls_told, .ref f_ls_rest, .ref f_ls_taken, .ref f_ls_bestVector, .ref a_sy, .int v_ls_hasSystem, .int v_ls_hasSplit, .int v_ls_hasBest, .int v_ls_faultPlace])), (f_ls_lists, .inl (k_ls_lists, 3, .inr (.inr (.inr (.inr (fun i9 => some (r_ls_lists i9)))))))] H → va_D A [(a_ls, .inr (0, [.ref a_tx, .ref a_wo, .ref a_bu, .ref a_la, .ref a_se, .ref f_ls_lists, .ref a_ch, .ref f_ls_told, .ref f_ls_rest, .ref f_ls_taken, .ref f_ls_bestVector, .ref a_sy, .int v_ls_hasSystem, .int v_ls_hasSplit, .int v_ls_hasBest, .int v_ls_faultPlace])), (f_ls_lists, .inl (k_ls_lists, 3, .inr (.inr (.inr (.inr (fun i9 => some (r_ls_lists i9)))))))] → va_S A s.heap H locs → lv_has ls 4 [(0, .ref a_ls), (1, .int 2), (2, .int a2)] → W p l e R s m ([.ref a_ls, .int 2, .int a2] : List Value).toArray below meth c H locs 0 0 Q (F0 m 47 ls []))) ?_ ?_ ?_
  · exact ⟨(fun _ _ _ _ _ hs => by cases hs), (fun _ _ _ _ _ hs => by cases hs)⟩
  · intro k9 ih
    refine ⟨?_, ?_⟩
    · intro H locs ls s0i s1i hs hP hD hS hl
      rw [sm_it_succ, fx_LS_work2_S_q30] at hs
      unfold fx_LS_work2_S_b30 at hs
      obtain ⟨r1, hq1, hs⟩ := sm_bd hs
      have hPc := hP.sub (ws' := []) [] rfl
      have hDc := hD.sub (ws' := []) [] (by decide) rfl
      have hKc := hK.sub (tys' := []) [] rfl
      have hFc := va_free (wc := []) hD hS hA [] rfl
      refine va_callv (va_runS (As := [.int s1i, .int s0i]) (rest := []) ⟨hx, hb, hml, hown, hts⟩ (c_LS_needBound l dC dI (s1i) (s0i) H.size r1 hq1) (wd_S 2 hts k_752 k_1 k_750 k_751 rfl rfl (by decide +kernel) ⟨Nat.le_of_ble_eq_true rfl, Nat.le_of_ble_eq_true rfl⟩) ⟨fun a U g mk q => by obtain ⟨q0, q1, qP, qK, qD, qN⟩ := q; exact ⟨q0, q1, qP, va_K.moved (u := U) (U := U.calling g mk a) (Vm.Alike.refl U.vm) qK, qD, nw_ok.same (s := U) (U := U.calling g mk a) rfl qN⟩, fun U hU hW => ⟨rfl, by rw [hU], by rw [hU]; exact hPc, va_K.moved hW.alike hKc, hDc.weaken (fun _ _ _ _ => trivial), nw_ok.warm hW hN⟩⟩ rfl rfl hl.1 rfl (lv_room (Nat.le_of_ble_eq_true rfl)) d_LS_work_30 ⟨Nat.le_of_ble_eq_true rfl, Nat.le_of_ble_eq_true rfl⟩) hS (fun q _ h => hFc q h) hFc (fun u t H1 locs ht hvm hr1 hB hz1 hk1 hS => ?_)
      obtain ⟨hP1, hK1, hD1⟩ := hB
      rw [ht] at hP1
      have hK1 := va_K.moved hvm.symm hK1
      obtain ⟨hP, hD⟩ := va_join (wr := [(a_ls, .inr (0, [.ref a_tx, .ref a_wo, .ref a_bu, .ref a_la, .ref a_se, .ref f_ls_lists, .ref a_ch, .ref f_ls_told, .ref f_ls_rest, .ref f_ls_taken, .ref f_ls_bestVector, .ref a_sy, .int v_ls_hasSystem, .int v_ls_hasSplit, .int v_ls_hasBest, .int v_ls_faultPlace])), (f_ls_lists, .inl (k_ls_lists, 3, .inr (.inr (.inr (.inr (fun i9 => some (r_ls_lists i9)))))))]) (w1 := []) hP hD [] [0, 1] rfl rfl (by decide) (by decide) hk1 hFc hP1 hD1
      have hK := (hK.sub (tys' := [(k_ls_lists, .object "LeastSolutions$VectorList")]) [0] rfl).app hK1
      have hK : va_K (dC, dI) cls [(k_ls_lists, .object "LeastSolutions$VectorList")] s := hK
      have hP : va_P (dC, dI) cls [(a_ls, .inr (0, [.ref a_tx, .ref a_wo, .ref a_bu, .ref a_la, .ref a_se, .ref f_ls_lists, .ref a_ch, .ref f_ls_told, .ref f_ls_rest, .ref f_ls_taken, .ref f_ls_bestVector, .ref a_sy, .int v_ls_hasSystem, .int v_ls_hasSplit, .int v_ls_hasBest, .int v_ls_faultPlace])), (f_ls_lists, .inl (k_ls_lists, 3, .inr (.inr (.inr (.inr (fun i9 => some (r_ls_lists i9)))))))] H1 := hP
      have hD : va_D A [(a_ls, .inr (0, [.ref a_tx, .ref a_wo, .ref a_bu, .ref a_la, .ref a_se, .ref f_ls_lists, .ref a_ch, .ref f_ls_told, .ref f_ls_rest, .ref f_ls_taken, .ref f_ls_bestVector, .ref a_sy, .int v_ls_hasSystem, .int v_ls_hasSplit, .int v_ls_hasBest, .int v_ls_faultPlace])), (f_ls_lists, .inl (k_ls_lists, 3, .inr (.inr (.inr (.inr (fun i9 => some (r_ls_lists i9)))))))] := hD
      refine lv_aload_n hx hb d_LS_work_33 rfl (lv_at hl 0 rfl) ?_
      rcases sm_orc hs with ⟨r2, hq2, hs⟩ | ⟨hq2, hs⟩
      · have he := sm_end hs
        subst he
        have hPc := hP.sub (ws' := [(a_ls, .inr (0, [.ref a_tx, .ref a_wo, .ref a_bu, .ref a_la, .ref a_se, .ref f_ls_lists, .ref a_ch, .ref f_ls_told, .ref f_ls_rest, .ref f_ls_taken, .ref f_ls_bestVector, .ref a_sy, .int v_ls_hasSystem, .int v_ls_hasSplit, .int v_ls_hasBest, .int v_ls_faultPlace]))]) [0] rfl
        have hDc := hD.sub (ws' := [(a_ls, .inr (0, [.ref a_tx, .ref a_wo, .ref a_bu, .ref a_la, .ref a_se, .ref f_ls_lists, .ref a_ch, .ref f_ls_told, .ref f_ls_rest, .ref f_ls_taken, .ref f_ls_bestVector, .ref a_sy, .int v_ls_hasSystem, .int v_ls_hasSplit, .int v_ls_hasBest, .int v_ls_faultPlace]))]) [0] (by decide) rfl
        have hKc := hK.sub (tys' := []) [] rfl
        have hFc := va_free (wc := [(a_ls, .inr (0, [.ref a_tx, .ref a_wo, .ref a_bu, .ref a_la, .ref a_se, .ref f_ls_lists, .ref a_ch, .ref f_ls_told, .ref f_ls_rest, .ref f_ls_taken, .ref f_ls_bestVector, .ref a_sy, .int v_ls_hasSystem, .int v_ls_hasSplit, .int v_ls_hasBest, .int v_ls_faultPlace]))]) hD hS hA [0] rfl
        refine xg_out (xt_runV (As := []) (rest := []) ⟨hx, hb, hml, hown, hts⟩ (x_LS_needSystem_S l htr dC dI (a_ls) (a_tx) (a_wo) (a_bu) (a_la) (a_se) (f_ls_lists) (a_ch) (f_ls_told) (f_ls_rest) (f_ls_taken) (f_ls_bestVector) (a_sy) (v_ls_hasSystem) (v_ls_hasSplit) (v_ls_hasBest) (v_ls_faultPlace) H1.size r2 hq2) (wd_V (C := "LeastSolutions") 0 hts k_681 k_1 k_678 k_680 ks_LS_needSystem rfl rfl (by decide +kernel) ⟨Nat.le_of_ble_eq_true rfl, Nat.le_of_ble_eq_true rfl⟩) ⟨fun a U g mk q => by obtain ⟨q0, q1, qP, qK, qD, qN, qX⟩ := q; exact ⟨q0, q1, qP, va_K.moved (u := U) (U := U.calling g mk a) (Vm.Alike.refl U.vm) qK, qD, nw_ok.same (s := U) (U := U.calling g mk a) rfl qN, xs_ok.moved (s := U) (Vm.Alike.refl U.vm) (fun _ _ => rfl) qX⟩, va_recv (ci := 0) (q0 := 0) hK hP rfl rfl, fun U hU hW => ⟨rfl, by rw [hU], by rw [hU]; exact hPc, va_K.moved hW.alike hKc, hDc.weaken (fun _ _ _ _ => trivial), nw_ok.warm hW hN, xs_ok.grown hW.alike (fun q cell h1 h2 => by rw [hU, hS.2.1 q (Array.getElem?_eq_some_iff.mp h1).1 (hst q cell h1 h2)]; exact h1) hX⟩⟩ rfl rfl hl.1 rfl (lv_room (Nat.le_of_ble_eq_true rfl)) d_LS_work_34 ⟨Nat.le_of_ble_eq_true rfl, Nat.le_of_ble_eq_true rfl⟩) hne hlocks (fun q h => hFc q h) hS.2.2 (fun st x t U h0 hQ e1 e2 hW => ?_)
        obtain ⟨q1, ⟨ce, q2, q3, q4⟩, ⟨hP1, hK1, hD1⟩, q5, q6⟩ := hQ
        have hk1 : ∀ q : Nat, q < H1.size → ¬ va_A [(a_ls, .inr (0, [.ref a_tx, .ref a_wo, .ref a_bu, .ref a_la, .ref a_se, .ref f_ls_lists, .ref a_ch, .ref f_ls_told, .ref f_ls_rest, .ref f_ls_taken, .ref f_ls_bestVector, .ref a_sy, .int v_ls_hasSystem, .int v_ls_hasSplit, .int v_ls_hasBest, .int v_ls_faultPlace]))] H1.size q → t.heap[q]? = H1[q]? := fun q h1 h2 => by rw [← h0]; exact q6 q (by rw [h0]; exact h1) h2
        rw [h0] at q1 q5
        obtain ⟨hP, hD⟩ := va_join (wr := [(f_ls_lists, .inl (k_ls_lists, 3, .inr (.inr (.inr (.inr (fun i9 => some (r_ls_lists i9)))))))]) (w1 := [(a_ls, .inr (0, [.ref a_tx, .ref a_wo, .ref a_bu, .ref a_la, .ref a_se, .ref f_ls_lists, .ref a_ch, .ref f_ls_told, .ref f_ls_rest, .ref f_ls_taken, .ref f_ls_bestVector, .ref a_sy, .int v_ls_hasSystem, .int v_ls_hasSplit, .int v_ls_hasBest, .int v_ls_faultPlace]))]) hP hD [0] [1] rfl rfl (by decide) (by decide) hk1 hFc hP1 hD1
        have hP : va_P (dC, dI) cls [(f_ls_lists, .inl (k_ls_lists, 3, .inr (.inr (.inr (.inr (fun i9 => some (r_ls_lists i9))))))), (a_ls, .inr (0, [.ref a_tx, .ref a_wo, .ref a_bu, .ref a_la, .ref a_se, .ref f_ls_lists, .ref a_ch, .ref f_ls_told, .ref f_ls_rest, .ref f_ls_taken, .ref f_ls_bestVector, .ref a_sy, .int v_ls_hasSystem, .int v_ls_hasSplit, .int v_ls_hasBest, .int v_ls_faultPlace]))] t.heap := hP
        have hD : va_D A [(f_ls_lists, .inl (k_ls_lists, 3, .inr (.inr (.inr (.inr (fun i9 => some (r_ls_lists i9))))))), (a_ls, .inr (0, [.ref a_tx, .ref a_wo, .ref a_bu, .ref a_la, .ref a_se, .ref f_ls_lists, .ref a_ch, .ref f_ls_told, .ref f_ls_rest, .ref f_ls_taken, .ref f_ls_bestVector, .ref a_sy, .int v_ls_hasSystem, .int v_ls_hasSplit, .int v_ls_hasBest, .int v_ls_faultPlace]))] := hD
        have hP := hP.sub (ws' := [(a_ls, .inr (0, [.ref a_tx, .ref a_wo, .ref a_bu, .ref a_la, .ref a_se, .ref f_ls_lists, .ref a_ch, .ref f_ls_told, .ref f_ls_rest, .ref f_ls_taken, .ref f_ls_bestVector, .ref a_sy, .int v_ls_hasSystem, .int v_ls_hasSplit, .int v_ls_hasBest, .int v_ls_faultPlace])), (f_ls_lists, .inl (k_ls_lists, 3, .inr (.inr (.inr (.inr (fun i9 => some (r_ls_lists i9)))))))]) [1, 0] rfl
        have hD := hD.sub (ws' := [(a_ls, .inr (0, [.ref a_tx, .ref a_wo, .ref a_bu, .ref a_la, .ref a_se, .ref f_ls_lists, .ref a_ch, .ref f_ls_told, .ref f_ls_rest, .ref f_ls_taken, .ref f_ls_bestVector, .ref a_sy, .int v_ls_hasSystem, .int v_ls_hasSplit, .int v_ls_hasBest, .int v_ls_faultPlace])), (f_ls_lists, .inl (k_ls_lists, 3, .inr (.inr (.inr (.inr (fun i9 => some (r_ls_lists i9)))))))]) [1, 0] (by decide) rfl
        exact ⟨Nat.le_trans hS.1 q1, ⟨ce, by rw [e1]; exact q2, q3, by rw [e2]; exact q4⟩, ⟨by rw [e1]; exact hP, va_K.moved hW.alike hK, hD⟩, by rw [e1]; exact Nat.le_trans hS.1 q5, fun q h1 h2 => by rw [e1]; exact (hk1 q (Nat.lt_of_lt_of_le h1 hS.1) (fun z => h2 (hFc q z))).trans (hS.2.1 q h1 h2)⟩
      obtain ⟨r3, hq3, hs⟩ := sm_bd hs
      have hPc := hP.sub (ws' := [(a_ls, .inr (0, [.ref a_tx, .ref a_wo, .ref a_bu, .ref a_la, .ref a_se, .ref f_ls_lists, .ref a_ch, .ref f_ls_told, .ref f_ls_rest, .ref f_ls_taken, .ref f_ls_bestVector, .ref a_sy, .int v_ls_hasSystem, .int v_ls_hasSplit, .int v_ls_hasBest, .int v_ls_faultPlace]))]) [0] rfl
      have hDc := hD.sub (ws' := [(a_ls, .inr (0, [.ref a_tx, .ref a_wo, .ref a_bu, .ref a_la, .ref a_se, .ref f_ls_lists, .ref a_ch, .ref f_ls_told, .ref f_ls_rest, .ref f_ls_taken, .ref f_ls_bestVector, .ref a_sy, .int v_ls_hasSystem, .int v_ls_hasSplit, .int v_ls_hasBest, .int v_ls_faultPlace]))]) [0] (by decide) rfl
      have hKc := hK.sub (tys' := []) [] rfl
      have hFc := va_free (wc := [(a_ls, .inr (0, [.ref a_tx, .ref a_wo, .ref a_bu, .ref a_la, .ref a_se, .ref f_ls_lists, .ref a_ch, .ref f_ls_told, .ref f_ls_rest, .ref f_ls_taken, .ref f_ls_bestVector, .ref a_sy, .int v_ls_hasSystem, .int v_ls_hasSplit, .int v_ls_hasBest, .int v_ls_faultPlace]))]) hD hS hA [0] rfl
      refine va_callv (va_runV (As := []) (rest := []) ⟨hx, hb, hml, hown, hts⟩ (c_LS_needSystem l dC dI (a_ls) (a_tx) (a_wo) (a_bu) (a_la) (a_se) (f_ls_lists) (a_ch) (f_ls_told) (f_ls_rest) (f_ls_taken) (f_ls_bestVector) (a_sy) (v_ls_hasSystem) (v_ls_hasSplit) (v_ls_hasBest) (v_ls_faultPlace) H1.size r3 hq3) (wd_V (C := "LeastSolutions") 0 hts k_681 k_1 k_678 k_680 ks_LS_needSystem rfl rfl (by decide +kernel) ⟨Nat.le_of_ble_eq_true rfl, Nat.le_of_ble_eq_true rfl⟩) ⟨fun a U g mk q => by obtain ⟨q0, q1, qP, qK, qD, qN⟩ := q; exact ⟨q0, q1, qP, va_K.moved (u := U) (U := U.calling g mk a) (Vm.Alike.refl U.vm) qK, qD, nw_ok.same (s := U) (U := U.calling g mk a) rfl qN⟩, va_recv (ci := 0) (q0 := 0) hK hP rfl rfl, fun U hU hW => ⟨rfl, by rw [hU], by rw [hU]; exact hPc, va_K.moved hW.alike hKc, hDc.weaken (fun _ _ _ _ => trivial), nw_ok.warm hW hN⟩⟩ rfl rfl hl.1 rfl (lv_room (Nat.le_of_ble_eq_true rfl)) d_LS_work_34 ⟨Nat.le_of_ble_eq_true rfl, Nat.le_of_ble_eq_true rfl⟩) hS (fun q _ h => hFc q h) hFc (fun u t H2 locs ht hvm hr2 hB hz1 hk1 hS => ?_)
      obtain ⟨hP1, hK1, hD1⟩ := hB
      rw [ht] at hP1
      have hK1 := va_K.moved hvm.symm hK1
      obtain ⟨hP, hD⟩ := va_join (wr := [(f_ls_lists, .inl (k_ls_lists, 3, .inr (.inr (.inr (.inr (fun i9 => some (r_ls_lists i9)))))))]) (w1 := [(a_ls, .inr (0, [.ref a_tx, .ref a_wo, .ref a_bu, .ref a_la, .ref a_se, .ref f_ls_lists, .ref a_ch, .ref f_ls_told, .ref f_ls_rest, .ref f_ls_taken, .ref f_ls_bestVector, .ref a_sy, .int v_ls_hasSystem, .int v_ls_hasSplit, .int v_ls_hasBest, .int v_ls_faultPlace]))]) hP hD [0] [1] rfl rfl (by decide) (by decide) hk1 hFc hP1 hD1
      have hK := (hK.sub (tys' := [(k_ls_lists, .object "LeastSolutions$VectorList")]) [0] rfl).app hK1
      have hK : va_K (dC, dI) cls [(k_ls_lists, .object "LeastSolutions$VectorList")] s := hK
      have hP : va_P (dC, dI) cls [(f_ls_lists, .inl (k_ls_lists, 3, .inr (.inr (.inr (.inr (fun i9 => some (r_ls_lists i9))))))), (a_ls, .inr (0, [.ref a_tx, .ref a_wo, .ref a_bu, .ref a_la, .ref a_se, .ref f_ls_lists, .ref a_ch, .ref f_ls_told, .ref f_ls_rest, .ref f_ls_taken, .ref f_ls_bestVector, .ref a_sy, .int v_ls_hasSystem, .int v_ls_hasSplit, .int v_ls_hasBest, .int v_ls_faultPlace]))] H2 := hP
      have hD : va_D A [(f_ls_lists, .inl (k_ls_lists, 3, .inr (.inr (.inr (.inr (fun i9 => some (r_ls_lists i9))))))), (a_ls, .inr (0, [.ref a_tx, .ref a_wo, .ref a_bu, .ref a_la, .ref a_se, .ref f_ls_lists, .ref a_ch, .ref f_ls_told, .ref f_ls_rest, .ref f_ls_taken, .ref f_ls_bestVector, .ref a_sy, .int v_ls_hasSystem, .int v_ls_hasSplit, .int v_ls_hasBest, .int v_ls_faultPlace]))] := hD
      refine lv_iload_n hx hb d_LS_work_37 rfl (lv_at hl 1 rfl) ?_
      refine lv_iconst (v := 2) hx hb d_LS_work_38 (by decide) ?_
      refine lv_icmp_eq (tgt := 47) hx hb d_LS_work_39 (by decide) (fun _ => ?_) (fun h9 => absurd (by decide) h9)
      have hP := hP.sub (ws' := [(a_ls, .inr (0, [.ref a_tx, .ref a_wo, .ref a_bu, .ref a_la, .ref a_se, .ref f_ls_lists, .ref a_ch, .ref f_ls_told, .ref f_ls_rest, .ref f_ls_taken, .ref f_ls_bestVector, .ref a_sy, .int v_ls_hasSystem, .int v_ls_hasSplit, .int v_ls_hasBest, .int v_ls_faultPlace])), (f_ls_lists, .inl (k_ls_lists, 3, .inr (.inr (.inr (.inr (fun i9 => some (r_ls_lists i9)))))))]) [1, 0] rfl
      have hD := hD.sub (ws' := [(a_ls, .inr (0, [.ref a_tx, .ref a_wo, .ref a_bu, .ref a_la, .ref a_se, .ref f_ls_lists, .ref a_ch, .ref f_ls_told, .ref f_ls_rest, .ref f_ls_taken, .ref f_ls_bestVector, .ref a_sy, .int v_ls_hasSystem, .int v_ls_hasSplit, .int v_ls_hasBest, .int v_ls_faultPlace])), (f_ls_lists, .inl (k_ls_lists, 3, .inr (.inr (.inr (.inr (fun i9 => some (r_ls_lists i9)))))))]) [1, 0] (by decide) rfl
      exact ih.2 _ _ _ _ _ hs hP hD hS (lv_sub hl [0, 1, 2] rfl)
    · intro H locs ls s0i s1i hs hP hD hS hl
      rw [sm_it_succ, fx_LS_work2_S_q47] at hs
      unfold fx_LS_work2_S_b47 at hs
      refine lv_aload_n hx hb d_LS_work_47 rfl (lv_at hl 0 rfl) ?_
      refine va_get (D := (dC, dI)) (ci := 0) (v := .ref f_ls_lists) (C := R_LS) (T := T_LS) (N := 16) hx hb hts in_LS hown hK hP 0 rfl rfl 5 (by decide) (hts _ k_294) (fun _ h9 => h9) rfl d_LS_work_48 ?_
      refine lv_iload_n hx hb d_LS_work_51 rfl (lv_at hl 1 rfl) ?_
      refine ro_ald (Ra := r_ls_lists) (k := 2) hx hb hK hP 1 0 rfl rfl rfl (by decide) (show ¬ ((2 : Int32) < 0 ∨ 3 ≤ (2 : Int32).toNatClampNeg) from by decide) d_LS_work_52 ?_
      refine lv_astore_n hx hb d_LS_work_53 rfl hl (by decide) rfl (fun ls hl => ?_)
      have hl : lv_has ls 4 [(3, .ref (r_ls_lists 2)), (0, .ref a_ls), (1, .int 2), (2, .int a2)] := hl
      refine lv_aload_n hx hb d_LS_work_54 rfl (lv_at hl 0 rfl) ?_
      refine lv_aload_n hx hb d_LS_work_55 rfl (lv_at hl 1 rfl) ?_
      refine va_get (D := (dC, dI)) (ci := 0) (v := .ref a_sy) (C := R_LS) (T := T_LS) (N := 16) hx hb hts in_LS hown hK hP 0 rfl rfl 11 (by decide) (hts _ k_300) (fun _ h9 => h9) rfl d_LS_work_56 ?_
      cases hs
  · intro key
    cases k8 with
    | zero => cases hs
    | succ k9 =>
      rw [sm_it_succ, fx_LS_work2_S_q0] at hs
      unfold fx_LS_work2_S_b0 at hs
      refine lv_iload_n hx hb d_LS_work_0 rfl (lv_at hl 1 rfl) ?_
      refine lv_if_lt (tgt := 9) hx hb d_LS_work_1 (by decide) (fun h9 => absurd h9 (by decide)) (fun _ => ?_)
      refine lv_iload_n hx hb d_LS_work_4 rfl (lv_at hl 1 rfl) ?_
      refine lv_iconst (v := 2) hx hb d_LS_work_5 (by decide) ?_
      refine lv_icmp_le (tgt := 17) hx hb d_LS_work_6 (by decide) (fun _ => ?_) (fun h9 => absurd (by decide) h9)
      refine lv_iload_n hx hb d_LS_work_17 rfl (lv_at hl 2 rfl) ?_
      refine lv_iload_n hx hb d_LS_work_18 rfl (lv_at hl 1 rfl) ?_
      refine lv_iconst (v := 2) hx hb d_LS_work_19 (by decide) ?_
      refine lv_icmp_ne (tgt := 28) hx hb d_LS_work_20 (by decide) (fun h9 => absurd (by decide) h9) (fun _ => ?_)
      refine lv_bipush (v := 10) hx hb d_LS_work_23 (by decide) ?_
      refine lv_goto (tgt := 30) hx hb d_LS_work_25 (by decide) ?_
      exact (key k9).1 _ _ _ _ _ hs hP hD hS (lv_sub hl [0, 1, 2] rfl)

noncomputable def fx_LS_best_A_b0 (a1 : Int32)  : Option ((Nat) ⊕ (Unit)) := sm_or (sm_tot (fx_LS_needBound_A a1 16) 0) (fun _ => some (.inr ())) ((sm_tot (fn_LS_needBound a1 16) 0).bind (fun r2 => none))
noncomputable def fx_LS_best_A (a1 : Int32) : Nat → Option ((Nat) ⊕ (Unit)) := fun st => match st with
  | pc => if pc = 0 then fx_LS_best_A_b0 a1 else none
theorem fx_LS_best_A_q0 (a1 : Int32)  : fx_LS_best_A a1 (0) = fx_LS_best_A_b0 a1 := by simp [fx_LS_best_A]
set_option maxHeartbeats 4000000 in
set_option maxRecDepth 100000 in
theorem x_LS_best_A (l : Launch) (htr : l.stackTraces = false) (dC : Nat → ClassId) (dI : Nat → Nat → Nat) (a_ls : Nat) (a_tx : Nat) (a_wo : Nat) (a_bu : Nat) (a_la : Nat) (a_se : Nat) (f_ls_lists : Nat) (a_ch : Nat) (f_ls_told : Nat) (f_ls_rest : Nat) (f_ls_taken : Nat) (f_ls_bestVector : Nat) (a_sy : Nat) (v_ls_hasSystem : Int32) (v_ls_hasSplit : Int32) (v_ls_hasBest : Int32) (v_ls_faultPlace : Int32) (a1 : Int32) (sz : Nat) (out : Unit) (hs : sm_tot (fx_LS_best_A a1) 0 = some out) : xt_Met l y_LS_best (Cond.code y_LS_best b_LS_best 2 (Option.some Jvm.ClassFile.FieldType.int) :: wd) { frames := 7, cells := 1, slots := 6, locals := 121 } (va_Pc [.ref a_ls, .int a1] (fun U => U.heap.size = sz ∧ va_P (dC, dI) cls [(a_ls, .inr (0, [.ref a_tx, .ref a_wo, .ref a_bu, .ref a_la, .ref a_se, .ref f_ls_lists, .ref a_ch, .ref f_ls_told, .ref f_ls_rest, .ref f_ls_taken, .ref f_ls_bestVector, .ref a_sy, .int v_ls_hasSystem, .int v_ls_hasSplit, .int v_ls_hasBest, .int v_ls_faultPlace]))] U.heap ∧ va_K (dC, dI) cls [] U ∧ va_D (fun _ => True) [(a_ls, .inr (0, [.ref a_tx, .ref a_wo, .ref a_bu, .ref a_la, .ref a_se, .ref f_ls_lists, .ref a_ch, .ref f_ls_told, .ref f_ls_rest, .ref f_ls_taken, .ref f_ls_bestVector, .ref a_sy, .int v_ls_hasSystem, .int v_ls_hasSplit, .int v_ls_hasBest, .int v_ls_faultPlace]))] ∧ nw_ok U ∧ xs_ok U)) (fun _ st x t => xg_Q "java/lang/IllegalArgumentException" (va_A [(a_ls, .inr (0, [.ref a_tx, .ref a_wo, .ref a_bu, .ref a_la, .ref a_se, .ref f_ls_lists, .ref a_ch, .ref f_ls_told, .ref f_ls_rest, .ref f_ls_taken, .ref f_ls_bestVector, .ref a_sy, .int v_ls_hasSystem, .int v_ls_hasSplit, .int v_ls_hasBest, .int v_ls_faultPlace]))] sz) (fun t => va_P (dC, dI) cls [(a_ls, .inr (0, [.ref a_tx, .ref a_wo, .ref a_bu, .ref a_la, .ref a_se, .ref f_ls_lists, .ref a_ch, .ref f_ls_told, .ref f_ls_rest, .ref f_ls_taken, .ref f_ls_bestVector, .ref a_sy, .int v_ls_hasSystem, .int v_ls_hasSplit, .int v_ls_hasBest, .int v_ls_faultPlace]))] t.heap ∧ va_K (dC, dI) cls [] t ∧ va_D (va_A [(a_ls, .inr (0, [.ref a_tx, .ref a_wo, .ref a_bu, .ref a_la, .ref a_se, .ref f_ls_lists, .ref a_ch, .ref f_ls_told, .ref f_ls_rest, .ref f_ls_taken, .ref f_ls_bestVector, .ref a_sy, .int v_ls_hasSystem, .int v_ls_hasSplit, .int v_ls_hasBest, .int v_ls_faultPlace]))] sz) [(a_ls, .inr (0, [.ref a_tx, .ref a_wo, .ref a_bu, .ref a_la, .ref a_se, .ref f_ls_lists, .ref a_ch, .ref f_ls_told, .ref f_ls_rest, .ref f_ls_taken, .ref f_ls_bestVector, .ref a_sy, .int v_ls_hasSystem, .int v_ls_hasSplit, .int v_ls_hasBest, .int v_ls_faultPlace]))]) st x t) 1 6 (va_A [(a_ls, .inr (0, [.ref a_tx, .ref a_wo, .ref a_bu, .ref a_la, .ref a_se, .ref f_ls_lists, .ref a_ch, .ref f_ls_told, .ref f_ls_rest, .ref f_ls_taken, .ref f_ls_bestVector, .ref a_sy, .int v_ls_hasSystem, .int v_ls_hasSplit, .int v_ls_hasBest, .int v_ls_faultPlace]))] sz) := by
  refine xt_ofW (cc := b_LS_best) (maxL := 2) (ret := (Option.some Jvm.ClassFile.FieldType.int)) (by decide) rfl ?_
  intro p e s m args below meth c s₁ B hml hne hv
  obtain ⟨rfl, hsz, hP, hK, hD0, hN, hX⟩ := hv
  have hx := B.exec
  have hb := B.bytes
  have hr := B.returns
  have hlocks := B.notSynchronized
  have hts : ∀ w ∈ wd, w.before ([.ref a_ls, .int a1] : List Value).toArray s = true := fun w hw => atoms_spec (ws := (Cond.code y_LS_best b_LS_best 2 (Option.some Jvm.ClassFile.FieldType.int) :: wd)) B.pre w (List.mem_cons_of_mem _ hw)
  have hpay := pay_in hts wd_gs
  have hown : s.vm.findClass "LeastSolutions" = some m.cls := findClass_of_methodNamed B.named
  subst hsz
  have hst := fun (q : Nat) (cell : Cell) (h1 : s.heap[q]? = some cell) (h2 : cell.vm.isStatics = true) => xg_st hP h1 h2
  have hD := hD0.self (sz := s.heap.size)
  generalize hAe : va_A [(a_ls, .inr (0, [.ref a_tx, .ref a_wo, .ref a_bu, .ref a_la, .ref a_se, .ref f_ls_lists, .ref a_ch, .ref f_ls_told, .ref f_ls_rest, .ref f_ls_taken, .ref f_ls_bestVector, .ref a_sy, .int v_ls_hasSystem, .int v_ls_hasSplit, .int v_ls_hasBest, .int v_ls_faultPlace]))] s.heap.size = A at hD hst ⊢
  have hA : ∀ q : Nat, s.heap.size ≤ q → A q := fun q h => by rw [← hAe]; exact Or.inr h
  have hS : va_S A s.heap s.heap [] := va_S.rf
  have hl := lv_entry ([.ref a_ls, .int a1]) (n := 2) (Nat.le_of_ble_eq_true rfl)
  rw [lg_entry_eq]
  generalize (lg_sl ([.ref a_ls, .int a1]) ++ List.replicate (2 - (lg_sl ([.ref a_ls, .int a1])).length) Slot.unset).toArray = ls at hl ⊢
  have hl : lv_has ls 2 [(0, .ref a_ls), (1, .int a1)] := hl
  obtain ⟨k8, hs⟩ := sm_of hs
  cases k8 with
  | zero => cases hs
  | succ k9 =>
    rw [sm_it_succ, fx_LS_best_A_q0] at hs
    unfold fx_LS_best_A_b0 at hs
    refine lv_iload_n hx hb d_LS_best_0 rfl (lv_at hl 1 rfl) ?_
    refine lv_bipush (v := 16) hx hb d_LS_best_1 (by decide) ?_
    rcases sm_orc hs with ⟨r1, hq1, hs⟩ | ⟨hq1, hs⟩
    · have he := sm_end hs
      subst he
      have hPc := hP.sub (ws' := []) [] rfl
      have hDc := hD.sub (ws' := []) [] (by decide) rfl
      have hKc := hK.sub (tys' := []) [] rfl
      have hFc := va_free (wc := []) hD hS hA [] rfl
      refine xg_out (xt_runS (As := [.int a1, .int 16]) (rest := []) ⟨hx, hb, hml, hown, hts⟩ (x_LS_needBound_A l htr dC dI (a1) (16) s.heap.size r1 hq1) (wd_S 2 hts k_752 k_1 k_750 k_751 rfl rfl (by decide +kernel) ⟨Nat.le_of_ble_eq_true rfl, Nat.le_of_ble_eq_true rfl⟩) ⟨fun a U g mk q => by obtain ⟨q0, q1, qP, qK, qD, qN, qX⟩ := q; exact ⟨q0, q1, qP, va_K.moved (u := U) (U := U.calling g mk a) (Vm.Alike.refl U.vm) qK, qD, nw_ok.same (s := U) (U := U.calling g mk a) rfl qN, xs_ok.moved (s := U) (Vm.Alike.refl U.vm) (fun _ _ => rfl) qX⟩, fun U hU hW => ⟨rfl, by rw [hU], by rw [hU]; exact hPc, va_K.moved hW.alike hKc, hDc.weaken (fun _ _ _ _ => trivial), nw_ok.warm hW hN, xs_ok.grown hW.alike (fun q cell h1 h2 => by rw [hU, hS.2.1 q (Array.getElem?_eq_some_iff.mp h1).1 (hst q cell h1 h2)]; exact h1) hX⟩⟩ rfl rfl hl.1 rfl (lv_room (Nat.le_of_ble_eq_true rfl)) d_LS_best_3 ⟨Nat.le_of_ble_eq_true rfl, Nat.le_of_ble_eq_true rfl⟩) hne hlocks (fun q h => hFc q h) hS.2.2 (fun st x t U h0 hQ e1 e2 hW => ?_)
      obtain ⟨q1, ⟨ce, q2, q3, q4⟩, ⟨hP1, hK1, hD1⟩, q5, q6⟩ := hQ
      have hk1 : ∀ q : Nat, q < s.heap.size → ¬ va_A [] s.heap.size q → t.heap[q]? = s.heap[q]? := fun q h1 h2 => by rw [← h0]; exact q6 q (by rw [h0]; exact h1) h2
      rw [h0] at q1 q5
      obtain ⟨hP, hD⟩ := va_join (wr := [(a_ls, .inr (0, [.ref a_tx, .ref a_wo, .ref a_bu, .ref a_la, .ref a_se, .ref f_ls_lists, .ref a_ch, .ref f_ls_told, .ref f_ls_rest, .ref f_ls_taken, .ref f_ls_bestVector, .ref a_sy, .int v_ls_hasSystem, .int v_ls_hasSplit, .int v_ls_hasBest, .int v_ls_faultPlace]))]) (w1 := []) hP hD [] [0] rfl rfl (by decide) (by decide) hk1 hFc hP1 hD1
      have hP : va_P (dC, dI) cls [(a_ls, .inr (0, [.ref a_tx, .ref a_wo, .ref a_bu, .ref a_la, .ref a_se, .ref f_ls_lists, .ref a_ch, .ref f_ls_told, .ref f_ls_rest, .ref f_ls_taken, .ref f_ls_bestVector, .ref a_sy, .int v_ls_hasSystem, .int v_ls_hasSplit, .int v_ls_hasBest, .int v_ls_faultPlace]))] t.heap := hP
      have hD : va_D A [(a_ls, .inr (0, [.ref a_tx, .ref a_wo, .ref a_bu, .ref a_la, .ref a_se, .ref f_ls_lists, .ref a_ch, .ref f_ls_told, .ref f_ls_rest, .ref f_ls_taken, .ref f_ls_bestVector, .ref a_sy, .int v_ls_hasSystem, .int v_ls_hasSplit, .int v_ls_hasBest, .int v_ls_faultPlace]))] := hD
      exact ⟨Nat.le_trans hS.1 q1, ⟨ce, by rw [e1]; exact q2, q3, by rw [e2]; exact q4⟩, ⟨by rw [e1]; exact hP, va_K.moved hW.alike hK, hD⟩, by rw [e1]; exact Nat.le_trans hS.1 q5, fun q h1 h2 => by rw [e1]; exact (hk1 q (Nat.lt_of_lt_of_le h1 hS.1) (fun z => h2 (hFc q z))).trans (hS.2.1 q h1 h2)⟩
    obtain ⟨r2, hq2, hs⟩ := sm_bd hs
    have hPc := hP.sub (ws' := []) [] rfl
    have hDc := hD.sub (ws' := []) [] (by decide) rfl
    have hKc := hK.sub (tys' := []) [] rfl
    have hFc := va_free (wc := []) hD hS hA [] rfl
    refine va_callv (va_runS (As := [.int a1, .int 16]) (rest := []) ⟨hx, hb, hml, hown, hts⟩ (c_LS_needBound l dC dI (a1) (16) s.heap.size r2 hq2) (wd_S 2 hts k_752 k_1 k_750 k_751 rfl rfl (by decide +kernel) ⟨Nat.le_of_ble_eq_true rfl, Nat.le_of_ble_eq_true rfl⟩) ⟨fun a U g mk q => by obtain ⟨q0, q1, qP, qK, qD, qN⟩ := q; exact ⟨q0, q1, qP, va_K.moved (u := U) (U := U.calling g mk a) (Vm.Alike.refl U.vm) qK, qD, nw_ok.same (s := U) (U := U.calling g mk a) rfl qN⟩, fun U hU hW => ⟨rfl, by rw [hU], by rw [hU]; exact hPc, va_K.moved hW.alike hKc, hDc.weaken (fun _ _ _ _ => trivial), nw_ok.warm hW hN⟩⟩ rfl rfl hl.1 rfl (lv_room (Nat.le_of_ble_eq_true rfl)) d_LS_best_3 ⟨Nat.le_of_ble_eq_true rfl, Nat.le_of_ble_eq_true rfl⟩) hS (fun q _ h => hFc q h) hFc (fun u t H1 locs ht hvm hr1 hB hz1 hk1 hS => ?_)
    obtain ⟨hP1, hK1, hD1⟩ := hB
    rw [ht] at hP1
    have hK1 := va_K.moved hvm.symm hK1
    obtain ⟨hP, hD⟩ := va_join (wr := [(a_ls, .inr (0, [.ref a_tx, .ref a_wo, .ref a_bu, .ref a_la, .ref a_se, .ref f_ls_lists, .ref a_ch, .ref f_ls_told, .ref f_ls_rest, .ref f_ls_taken, .ref f_ls_bestVector, .ref a_sy, .int v_ls_hasSystem, .int v_ls_hasSplit, .int v_ls_hasBest, .int v_ls_faultPlace]))]) (w1 := []) hP hD [] [0] rfl rfl (by decide) (by decide) hk1 hFc hP1 hD1
    have hK := (hK.sub (tys' := []) [] rfl).app hK1
    have hK : va_K (dC, dI) cls [] s := hK
    have hP : va_P (dC, dI) cls [(a_ls, .inr (0, [.ref a_tx, .ref a_wo, .ref a_bu, .ref a_la, .ref a_se, .ref f_ls_lists, .ref a_ch, .ref f_ls_told, .ref f_ls_rest, .ref f_ls_taken, .ref f_ls_bestVector, .ref a_sy, .int v_ls_hasSystem, .int v_ls_hasSplit, .int v_ls_hasBest, .int v_ls_faultPlace]))] H1 := hP
    have hD : va_D A [(a_ls, .inr (0, [.ref a_tx, .ref a_wo, .ref a_bu, .ref a_la, .ref a_se, .ref f_ls_lists, .ref a_ch, .ref f_ls_told, .ref f_ls_rest, .ref f_ls_taken, .ref f_ls_bestVector, .ref a_sy, .int v_ls_hasSystem, .int v_ls_hasSplit, .int v_ls_hasBest, .int v_ls_faultPlace]))] := hD
    refine lv_aload_n hx hb d_LS_best_6 rfl (lv_at hl 0 rfl) ?_
    cases hs

noncomputable def fx_LS_best_S_b0 (a1 : Int32) (v_ls_hasSystem : Int32)  : Option ((Nat) ⊕ (Unit)) := (sm_tot (fn_LS_needBound a1 16) 0).bind (fun r1 => sm_or (sm_tot (fx_LS_needSystem_S v_ls_hasSystem) 0) (fun _ => some (.inr ())) ((sm_tot (fn_LS_needSystem v_ls_hasSystem) 0).bind (fun r3 => none)))
noncomputable def fx_LS_best_S (a1 : Int32) (v_ls_hasSystem : Int32) : Nat → Option ((Nat) ⊕ (Unit)) := fun st => match st with
  | pc => if pc = 0 then fx_LS_best_S_b0 a1 v_ls_hasSystem else none
theorem fx_LS_best_S_q0 (a1 : Int32) (v_ls_hasSystem : Int32)  : fx_LS_best_S a1 v_ls_hasSystem (0) = fx_LS_best_S_b0 a1 v_ls_hasSystem := by simp [fx_LS_best_S]
set_option maxHeartbeats 4000000 in
set_option maxRecDepth 100000 in
theorem x_LS_best_S (l : Launch) (htr : l.stackTraces = false) (dC : Nat → ClassId) (dI : Nat → Nat → Nat) (a_ls : Nat) (a_tx : Nat) (a_wo : Nat) (a_bu : Nat) (a_la : Nat) (a_se : Nat) (f_ls_lists : Nat) (a_ch : Nat) (f_ls_told : Nat) (f_ls_rest : Nat) (f_ls_taken : Nat) (f_ls_bestVector : Nat) (a_sy : Nat) (v_ls_hasSystem : Int32) (v_ls_hasSplit : Int32) (v_ls_hasBest : Int32) (v_ls_faultPlace : Int32) (a1 : Int32) (sz : Nat) (out : Unit) (hs : sm_tot (fx_LS_best_S a1 v_ls_hasSystem) 0 = some out) : xt_Met l y_LS_best (Cond.code y_LS_best b_LS_best 2 (Option.some Jvm.ClassFile.FieldType.int) :: wd) { frames := 7, cells := 1, slots := 6, locals := 120 } (va_Pc [.ref a_ls, .int a1] (fun U => U.heap.size = sz ∧ va_P (dC, dI) cls [(a_ls, .inr (0, [.ref a_tx, .ref a_wo, .ref a_bu, .ref a_la, .ref a_se, .ref f_ls_lists, .ref a_ch, .ref f_ls_told, .ref f_ls_rest, .ref f_ls_taken, .ref f_ls_bestVector, .ref a_sy, .int v_ls_hasSystem, .int v_ls_hasSplit, .int v_ls_hasBest, .int v_ls_faultPlace]))] U.heap ∧ va_K (dC, dI) cls [] U ∧ va_D (fun _ => True) [(a_ls, .inr (0, [.ref a_tx, .ref a_wo, .ref a_bu, .ref a_la, .ref a_se, .ref f_ls_lists, .ref a_ch, .ref f_ls_told, .ref f_ls_rest, .ref f_ls_taken, .ref f_ls_bestVector, .ref a_sy, .int v_ls_hasSystem, .int v_ls_hasSplit, .int v_ls_hasBest, .int v_ls_faultPlace]))] ∧ nw_ok U ∧ xs_ok U)) (fun _ st x t => xg_Q "java/lang/IllegalStateException" (va_A [(a_ls, .inr (0, [.ref a_tx, .ref a_wo, .ref a_bu, .ref a_la, .ref a_se, .ref f_ls_lists, .ref a_ch, .ref f_ls_told, .ref f_ls_rest, .ref f_ls_taken, .ref f_ls_bestVector, .ref a_sy, .int v_ls_hasSystem, .int v_ls_hasSplit, .int v_ls_hasBest, .int v_ls_faultPlace]))] sz) (fun t => va_P (dC, dI) cls [(a_ls, .inr (0, [.ref a_tx, .ref a_wo, .ref a_bu, .ref a_la, .ref a_se, .ref f_ls_lists, .ref a_ch, .ref f_ls_told, .ref f_ls_rest, .ref f_ls_taken, .ref f_ls_bestVector, .ref a_sy, .int v_ls_hasSystem, .int v_ls_hasSplit, .int v_ls_hasBest, .int v_ls_faultPlace]))] t.heap ∧ va_K (dC, dI) cls [] t ∧ va_D (va_A [(a_ls, .inr (0, [.ref a_tx, .ref a_wo, .ref a_bu, .ref a_la, .ref a_se, .ref f_ls_lists, .ref a_ch, .ref f_ls_told, .ref f_ls_rest, .ref f_ls_taken, .ref f_ls_bestVector, .ref a_sy, .int v_ls_hasSystem, .int v_ls_hasSplit, .int v_ls_hasBest, .int v_ls_faultPlace]))] sz) [(a_ls, .inr (0, [.ref a_tx, .ref a_wo, .ref a_bu, .ref a_la, .ref a_se, .ref f_ls_lists, .ref a_ch, .ref f_ls_told, .ref f_ls_rest, .ref f_ls_taken, .ref f_ls_bestVector, .ref a_sy, .int v_ls_hasSystem, .int v_ls_hasSplit, .int v_ls_hasBest, .int v_ls_faultPlace]))]) st x t) 1 6 (va_A [(a_ls, .inr (0, [.ref a_tx, .ref a_wo, .ref a_bu, .ref a_la, .ref a_se, .ref f_ls_lists, .ref a_ch, .ref f_ls_told, .ref f_ls_rest, .ref f_ls_taken, .ref f_ls_bestVector, .ref a_sy, .int v_ls_hasSystem, .int v_ls_hasSplit, .int v_ls_hasBest, .int v_ls_faultPlace]))] sz) := by
  refine xt_ofW (cc := b_LS_best) (maxL := 2) (ret := (Option.some Jvm.ClassFile.FieldType.int)) (by decide) rfl ?_
  intro p e s m args below meth c s₁ B hml hne hv
  obtain ⟨rfl, hsz, hP, hK, hD0, hN, hX⟩ := hv
  have hx := B.exec
  have hb := B.bytes
  have hr := B.returns
  have hlocks := B.notSynchronized
  have hts : ∀ w ∈ wd, w.before ([.ref a_ls, .int a1] : List Value).toArray s = true := fun w hw => atoms_spec (ws := (Cond.code y_LS_best b_LS_best 2 (Option.some Jvm.ClassFile.FieldType.int) :: wd)) B.pre w (List.mem_cons_of_mem _ hw)
  have hpay := pay_in hts wd_gs
  have hown : s.vm.findClass "LeastSolutions" = some m.cls := findClass_of_methodNamed B.named
  subst hsz
  have hst := fun (q : Nat) (cell : Cell) (h1 : s.heap[q]? = some cell) (h2 : cell.vm.isStatics = true) => xg_st hP h1 h2
  have hD := hD0.self (sz := s.heap.size)
  generalize hAe : va_A [(a_ls, .inr (0, [.ref a_tx, .ref a_wo, .ref a_bu, .ref a_la, .ref a_se, .ref f_ls_lists, .ref a_ch, .ref f_ls_told, .ref f_ls_rest, .ref f_ls_taken, .ref f_ls_bestVector, .ref a_sy, .int v_ls_hasSystem, .int v_ls_hasSplit, .int v_ls_hasBest, .int v_ls_faultPlace]))] s.heap.size = A at hD hst ⊢
  have hA : ∀ q : Nat, s.heap.size ≤ q → A q := fun q h => by rw [← hAe]; exact Or.inr h
  have hS : va_S A s.heap s.heap [] := va_S.rf
  have hl := lv_entry ([.ref a_ls, .int a1]) (n := 2) (Nat.le_of_ble_eq_true rfl)
  rw [lg_entry_eq]
  generalize (lg_sl ([.ref a_ls, .int a1]) ++ List.replicate (2 - (lg_sl ([.ref a_ls, .int a1])).length) Slot.unset).toArray = ls at hl ⊢
  have hl : lv_has ls 2 [(0, .ref a_ls), (1, .int a1)] := hl
  obtain ⟨k8, hs⟩ := sm_of hs
  cases k8 with
  | zero => cases hs
  | succ k9 =>
    rw [sm_it_succ, fx_LS_best_S_q0] at hs
    unfold fx_LS_best_S_b0 at hs
    refine lv_iload_n hx hb d_LS_best_0 rfl (lv_at hl 1 rfl) ?_
    refine lv_bipush (v := 16) hx hb d_LS_best_1 (by decide) ?_
    obtain ⟨r1, hq1, hs⟩ := sm_bd hs
    have hPc := hP.sub (ws' := []) [] rfl
    have hDc := hD.sub (ws' := []) [] (by decide) rfl
    have hKc := hK.sub (tys' := []) [] rfl
    have hFc := va_free (wc := []) hD hS hA [] rfl
    refine va_callv (va_runS (As := [.int a1, .int 16]) (rest := []) ⟨hx, hb, hml, hown, hts⟩ (c_LS_needBound l dC dI (a1) (16) s.heap.size r1 hq1) (wd_S 2 hts k_752 k_1 k_750 k_751 rfl rfl (by decide +kernel) ⟨Nat.le_of_ble_eq_true rfl, Nat.le_of_ble_eq_true rfl⟩) ⟨fun a U g mk q => by obtain ⟨q0, q1, qP, qK, qD, qN⟩ := q; exact ⟨q0, q1, qP, va_K.moved (u := U) (U := U.calling g mk a) (Vm.Alike.refl U.vm) qK, qD, nw_ok.same (s := U) (U := U.calling g mk a) rfl qN⟩, fun U hU hW => ⟨rfl, by rw [hU], by rw [hU]; exact hPc, va_K.moved hW.alike hKc, hDc.weaken (fun _ _ _ _ => trivial), nw_ok.warm hW hN⟩⟩ rfl rfl hl.1 rfl (lv_room (Nat.le_of_ble_eq_true rfl)) d_LS_best_3 ⟨Nat.le_of_ble_eq_true rfl, Nat.le_of_ble_eq_true rfl⟩) hS (fun q _ h => hFc q h) hFc (fun u t H1 locs ht hvm hr1 hB hz1 hk1 hS => ?_)
    obtain ⟨hP1, hK1, hD1⟩ := hB
    rw [ht] at hP1
    have hK1 := va_K.moved hvm.symm hK1
    obtain ⟨hP, hD⟩ := va_join (wr := [(a_ls, .inr (0, [.ref a_tx, .ref a_wo, .ref a_bu, .ref a_la, .ref a_se, .ref f_ls_lists, .ref a_ch, .ref f_ls_told, .ref f_ls_rest, .ref f_ls_taken, .ref f_ls_bestVector, .ref a_sy, .int v_ls_hasSystem, .int v_ls_hasSplit, .int v_ls_hasBest, .int v_ls_faultPlace]))]) (w1 := []) hP hD [] [0] rfl rfl (by decide) (by decide) hk1 hFc hP1 hD1
    have hK := (hK.sub (tys' := []) [] rfl).app hK1
    have hK : va_K (dC, dI) cls [] s := hK
    have hP : va_P (dC, dI) cls [(a_ls, .inr (0, [.ref a_tx, .ref a_wo, .ref a_bu, .ref a_la, .ref a_se, .ref f_ls_lists, .ref a_ch, .ref f_ls_told, .ref f_ls_rest, .ref f_ls_taken, .ref f_ls_bestVector, .ref a_sy, .int v_ls_hasSystem, .int v_ls_hasSplit, .int v_ls_hasBest, .int v_ls_faultPlace]))] H1 := hP
    have hD : va_D A [(a_ls, .inr (0, [.ref a_tx, .ref a_wo, .ref a_bu, .ref a_la, .ref a_se, .ref f_ls_lists, .ref a_ch, .ref f_ls_told, .ref f_ls_rest, .ref f_ls_taken, .ref f_ls_bestVector, .ref a_sy, .int v_ls_hasSystem, .int v_ls_hasSplit, .int v_ls_hasBest, .int v_ls_faultPlace]))] := hD
    refine lv_aload_n hx hb d_LS_best_6 rfl (lv_at hl 0 rfl) ?_
    rcases sm_orc hs with ⟨r2, hq2, hs⟩ | ⟨hq2, hs⟩
    · have he := sm_end hs
      subst he
      have hPc := hP.sub (ws' := [(a_ls, .inr (0, [.ref a_tx, .ref a_wo, .ref a_bu, .ref a_la, .ref a_se, .ref f_ls_lists, .ref a_ch, .ref f_ls_told, .ref f_ls_rest, .ref f_ls_taken, .ref f_ls_bestVector, .ref a_sy, .int v_ls_hasSystem, .int v_ls_hasSplit, .int v_ls_hasBest, .int v_ls_faultPlace]))]) [0] rfl
      have hDc := hD.sub (ws' := [(a_ls, .inr (0, [.ref a_tx, .ref a_wo, .ref a_bu, .ref a_la, .ref a_se, .ref f_ls_lists, .ref a_ch, .ref f_ls_told, .ref f_ls_rest, .ref f_ls_taken, .ref f_ls_bestVector, .ref a_sy, .int v_ls_hasSystem, .int v_ls_hasSplit, .int v_ls_hasBest, .int v_ls_faultPlace]))]) [0] (by decide) rfl
      have hKc := hK.sub (tys' := []) [] rfl
      have hFc := va_free (wc := [(a_ls, .inr (0, [.ref a_tx, .ref a_wo, .ref a_bu, .ref a_la, .ref a_se, .ref f_ls_lists, .ref a_ch, .ref f_ls_told, .ref f_ls_rest, .ref f_ls_taken, .ref f_ls_bestVector, .ref a_sy, .int v_ls_hasSystem, .int v_ls_hasSplit, .int v_ls_hasBest, .int v_ls_faultPlace]))]) hD hS hA [0] rfl
      refine xg_out (xt_runV (As := []) (rest := []) ⟨hx, hb, hml, hown, hts⟩ (x_LS_needSystem_S l htr dC dI (a_ls) (a_tx) (a_wo) (a_bu) (a_la) (a_se) (f_ls_lists) (a_ch) (f_ls_told) (f_ls_rest) (f_ls_taken) (f_ls_bestVector) (a_sy) (v_ls_hasSystem) (v_ls_hasSplit) (v_ls_hasBest) (v_ls_faultPlace) H1.size r2 hq2) (wd_V (C := "LeastSolutions") 0 hts k_681 k_1 k_678 k_680 ks_LS_needSystem rfl rfl (by decide +kernel) ⟨Nat.le_of_ble_eq_true rfl, Nat.le_of_ble_eq_true rfl⟩) ⟨fun a U g mk q => by obtain ⟨q0, q1, qP, qK, qD, qN, qX⟩ := q; exact ⟨q0, q1, qP, va_K.moved (u := U) (U := U.calling g mk a) (Vm.Alike.refl U.vm) qK, qD, nw_ok.same (s := U) (U := U.calling g mk a) rfl qN, xs_ok.moved (s := U) (Vm.Alike.refl U.vm) (fun _ _ => rfl) qX⟩, va_recv (ci := 0) (q0 := 0) hK hP rfl rfl, fun U hU hW => ⟨rfl, by rw [hU], by rw [hU]; exact hPc, va_K.moved hW.alike hKc, hDc.weaken (fun _ _ _ _ => trivial), nw_ok.warm hW hN, xs_ok.grown hW.alike (fun q cell h1 h2 => by rw [hU, hS.2.1 q (Array.getElem?_eq_some_iff.mp h1).1 (hst q cell h1 h2)]; exact h1) hX⟩⟩ rfl rfl hl.1 rfl (lv_room (Nat.le_of_ble_eq_true rfl)) d_LS_best_7 ⟨Nat.le_of_ble_eq_true rfl, Nat.le_of_ble_eq_true rfl⟩) hne hlocks (fun q h => hFc q h) hS.2.2 (fun st x t U h0 hQ e1 e2 hW => ?_)
      obtain ⟨q1, ⟨ce, q2, q3, q4⟩, ⟨hP1, hK1, hD1⟩, q5, q6⟩ := hQ
      have hk1 : ∀ q : Nat, q < H1.size → ¬ va_A [(a_ls, .inr (0, [.ref a_tx, .ref a_wo, .ref a_bu, .ref a_la, .ref a_se, .ref f_ls_lists, .ref a_ch, .ref f_ls_told, .ref f_ls_rest, .ref f_ls_taken, .ref f_ls_bestVector, .ref a_sy, .int v_ls_hasSystem, .int v_ls_hasSplit, .int v_ls_hasBest, .int v_ls_faultPlace]))] H1.size q → t.heap[q]? = H1[q]? := fun q h1 h2 => by rw [← h0]; exact q6 q (by rw [h0]; exact h1) h2
      rw [h0] at q1 q5
      obtain ⟨hP, hD⟩ := va_join (wr := []) (w1 := [(a_ls, .inr (0, [.ref a_tx, .ref a_wo, .ref a_bu, .ref a_la, .ref a_se, .ref f_ls_lists, .ref a_ch, .ref f_ls_told, .ref f_ls_rest, .ref f_ls_taken, .ref f_ls_bestVector, .ref a_sy, .int v_ls_hasSystem, .int v_ls_hasSplit, .int v_ls_hasBest, .int v_ls_faultPlace]))]) hP hD [0] [] rfl rfl (by decide) (by decide) hk1 hFc hP1 hD1
      have hP : va_P (dC, dI) cls [(a_ls, .inr (0, [.ref a_tx, .ref a_wo, .ref a_bu, .ref a_la, .ref a_se, .ref f_ls_lists, .ref a_ch, .ref f_ls_told, .ref f_ls_rest, .ref f_ls_taken, .ref f_ls_bestVector, .ref a_sy, .int v_ls_hasSystem, .int v_ls_hasSplit, .int v_ls_hasBest, .int v_ls_faultPlace]))] t.heap := hP
      have hD : va_D A [(a_ls, .inr (0, [.ref a_tx, .ref a_wo, .ref a_bu, .ref a_la, .ref a_se, .ref f_ls_lists, .ref a_ch, .ref f_ls_told, .ref f_ls_rest, .ref f_ls_taken, .ref f_ls_bestVector, .ref a_sy, .int v_ls_hasSystem, .int v_ls_hasSplit, .int v_ls_hasBest, .int v_ls_faultPlace]))] := hD
      exact ⟨Nat.le_trans hS.1 q1, ⟨ce, by rw [e1]; exact q2, q3, by rw [e2]; exact q4⟩, ⟨by rw [e1]; exact hP, va_K.moved hW.alike hK, hD⟩, by rw [e1]; exact Nat.le_trans hS.1 q5, fun q h1 h2 => by rw [e1]; exact (hk1 q (Nat.lt_of_lt_of_le h1 hS.1) (fun z => h2 (hFc q z))).trans (hS.2.1 q h1 h2)⟩
    obtain ⟨r3, hq3, hs⟩ := sm_bd hs
    have hPc := hP.sub (ws' := [(a_ls, .inr (0, [.ref a_tx, .ref a_wo, .ref a_bu, .ref a_la, .ref a_se, .ref f_ls_lists, .ref a_ch, .ref f_ls_told, .ref f_ls_rest, .ref f_ls_taken, .ref f_ls_bestVector, .ref a_sy, .int v_ls_hasSystem, .int v_ls_hasSplit, .int v_ls_hasBest, .int v_ls_faultPlace]))]) [0] rfl
    have hDc := hD.sub (ws' := [(a_ls, .inr (0, [.ref a_tx, .ref a_wo, .ref a_bu, .ref a_la, .ref a_se, .ref f_ls_lists, .ref a_ch, .ref f_ls_told, .ref f_ls_rest, .ref f_ls_taken, .ref f_ls_bestVector, .ref a_sy, .int v_ls_hasSystem, .int v_ls_hasSplit, .int v_ls_hasBest, .int v_ls_faultPlace]))]) [0] (by decide) rfl
    have hKc := hK.sub (tys' := []) [] rfl
    have hFc := va_free (wc := [(a_ls, .inr (0, [.ref a_tx, .ref a_wo, .ref a_bu, .ref a_la, .ref a_se, .ref f_ls_lists, .ref a_ch, .ref f_ls_told, .ref f_ls_rest, .ref f_ls_taken, .ref f_ls_bestVector, .ref a_sy, .int v_ls_hasSystem, .int v_ls_hasSplit, .int v_ls_hasBest, .int v_ls_faultPlace]))]) hD hS hA [0] rfl
    refine va_callv (va_runV (As := []) (rest := []) ⟨hx, hb, hml, hown, hts⟩ (c_LS_needSystem l dC dI (a_ls) (a_tx) (a_wo) (a_bu) (a_la) (a_se) (f_ls_lists) (a_ch) (f_ls_told) (f_ls_rest) (f_ls_taken) (f_ls_bestVector) (a_sy) (v_ls_hasSystem) (v_ls_hasSplit) (v_ls_hasBest) (v_ls_faultPlace) H1.size r3 hq3) (wd_V (C := "LeastSolutions") 0 hts k_681 k_1 k_678 k_680 ks_LS_needSystem rfl rfl (by decide +kernel) ⟨Nat.le_of_ble_eq_true rfl, Nat.le_of_ble_eq_true rfl⟩) ⟨fun a U g mk q => by obtain ⟨q0, q1, qP, qK, qD, qN⟩ := q; exact ⟨q0, q1, qP, va_K.moved (u := U) (U := U.calling g mk a) (Vm.Alike.refl U.vm) qK, qD, nw_ok.same (s := U) (U := U.calling g mk a) rfl qN⟩, va_recv (ci := 0) (q0 := 0) hK hP rfl rfl, fun U hU hW => ⟨rfl, by rw [hU], by rw [hU]; exact hPc, va_K.moved hW.alike hKc, hDc.weaken (fun _ _ _ _ => trivial), nw_ok.warm hW hN⟩⟩ rfl rfl hl.1 rfl (lv_room (Nat.le_of_ble_eq_true rfl)) d_LS_best_7 ⟨Nat.le_of_ble_eq_true rfl, Nat.le_of_ble_eq_true rfl⟩) hS (fun q _ h => hFc q h) hFc (fun u t H2 locs ht hvm hr2 hB hz1 hk1 hS => ?_)
    obtain ⟨hP1, hK1, hD1⟩ := hB
    rw [ht] at hP1
    have hK1 := va_K.moved hvm.symm hK1
    obtain ⟨hP, hD⟩ := va_join (wr := []) (w1 := [(a_ls, .inr (0, [.ref a_tx, .ref a_wo, .ref a_bu, .ref a_la, .ref a_se, .ref f_ls_lists, .ref a_ch, .ref f_ls_told, .ref f_ls_rest, .ref f_ls_taken, .ref f_ls_bestVector, .ref a_sy, .int v_ls_hasSystem, .int v_ls_hasSplit, .int v_ls_hasBest, .int v_ls_faultPlace]))]) hP hD [0] [] rfl rfl (by decide) (by decide) hk1 hFc hP1 hD1
    have hK := (hK.sub (tys' := []) [] rfl).app hK1
    have hK : va_K (dC, dI) cls [] s := hK
    have hP : va_P (dC, dI) cls [(a_ls, .inr (0, [.ref a_tx, .ref a_wo, .ref a_bu, .ref a_la, .ref a_se, .ref f_ls_lists, .ref a_ch, .ref f_ls_told, .ref f_ls_rest, .ref f_ls_taken, .ref f_ls_bestVector, .ref a_sy, .int v_ls_hasSystem, .int v_ls_hasSplit, .int v_ls_hasBest, .int v_ls_faultPlace]))] H2 := hP
    have hD : va_D A [(a_ls, .inr (0, [.ref a_tx, .ref a_wo, .ref a_bu, .ref a_la, .ref a_se, .ref f_ls_lists, .ref a_ch, .ref f_ls_told, .ref f_ls_rest, .ref f_ls_taken, .ref f_ls_bestVector, .ref a_sy, .int v_ls_hasSystem, .int v_ls_hasSplit, .int v_ls_hasBest, .int v_ls_faultPlace]))] := hD
    refine lv_aload_n hx hb d_LS_best_10 rfl (lv_at hl 0 rfl) ?_
    refine va_get (D := (dC, dI)) (ci := 0) (v := .ref a_ch) (C := R_LS) (T := T_LS) (N := 16) hx hb hts in_LS hown hK hP 0 rfl rfl 6 (by decide) (hts _ k_295) (fun _ h9 => h9) rfl d_LS_best_11 ?_
    refine lv_aload_n hx hb d_LS_best_14 rfl (lv_at hl 0 rfl) ?_
    refine va_get (D := (dC, dI)) (ci := 0) (v := .ref a_sy) (C := R_LS) (T := T_LS) (N := 16) hx hb hts in_LS hown hK hP 0 rfl rfl 11 (by decide) (hts _ k_300) (fun _ h9 => h9) rfl d_LS_best_15 ?_
    cases hs
