noncomputable def fn_TX_byteOf_b0 (a1 : Int64) (a2 : Int32)  : Option ((Nat) ⊕ (Int32)) := some (.inr (((a1.toUInt64 >>> (((8 * a2) : Int32).toInt64.toUInt64 &&& Int64.toUInt64 63)).toInt64).toInt32 &&& 255))
noncomputable def fn_TX_byteOf (a1 : Int64) (a2 : Int32) : Nat → Option ((Nat) ⊕ (Int32)) := fun st => match st with
  | pc => if pc = 0 then fn_TX_byteOf_b0 a1 a2 else none
theorem fn_TX_byteOf_q0 (a1 : Int64) (a2 : Int32)  : fn_TX_byteOf a1 a2 (0) = fn_TX_byteOf_b0 a1 a2 := by simp [fn_TX_byteOf]
set_option maxHeartbeats 4000000 in
set_option maxRecDepth 100000 in
theorem c_TX_byteOf (l : Launch) (dC : Nat → ClassId) (dI : Nat → Nat → Nat) (a1 : Int64) (a2 : Int32) (sz : Nat) (out : Int32) (hs : sm_tot (fn_TX_byteOf a1 a2) 0 = some out) : Met l y_TX_byteOf (Cond.code y_TX_byteOf b_TX_byteOf 3 (Option.some Jvm.ClassFile.FieldType.int) :: wd) { frames := 0, cells := 0, slots := 0, locals := 0 } (va_Pc [.long a1, .int a2] (fun U => U.heap.size = sz ∧ va_P (dC, dI) cls [] U.heap ∧ va_K (dC, dI) cls [] U ∧ va_D (fun _ => True) [] ∧ nw_ok U)) (va_Qi (fun r (_ : Unit) => r = out) (fun (_ : Unit) t => va_P (dC, dI) cls [] t.heap ∧ va_K (dC, dI) cls [] t ∧ va_D (va_A [] sz) []) (va_A [] sz)) 0 0 (va_A [] sz) := by
  refine Met.ofW (cc := b_TX_byteOf) (maxL := 3) (ret := (Option.some Jvm.ClassFile.FieldType.int)) (by decide) rfl ?_
  intro p e s m args below meth c s₁ B hml hv
  obtain ⟨rfl, hsz, hP, hK, hD0, hN⟩ := hv
  have hx := B.exec
  have hb := B.bytes
  have hr := B.returns
  have hlocks := B.notSynchronized
  have hts : ∀ w ∈ wd, w.before ([.long a1, .int a2] : List Value).toArray s = true := fun w hw => atoms_spec (ws := (Cond.code y_TX_byteOf b_TX_byteOf 3 (Option.some Jvm.ClassFile.FieldType.int) :: wd)) B.pre w (List.mem_cons_of_mem _ hw)
  have hown : s.vm.findClass "LeastSolutions$Text" = some m.cls := findClass_of_methodNamed B.named
  subst hsz
  have hD := hD0.self (sz := s.heap.size)
  generalize hAe : va_A [] s.heap.size = A at hD ⊢
  have hA : ∀ q : Nat, s.heap.size ≤ q → A q := fun q h => by rw [← hAe]; exact Or.inr h
  have hS : va_S A s.heap s.heap [] := va_S.rf
  have hl := lv_entry ([.long a1, .int a2]) (n := 3) (Nat.le_of_ble_eq_true rfl)
  rw [lg_entry_eq]
  generalize (lg_sl ([.long a1, .int a2]) ++ List.replicate (3 - (lg_sl ([.long a1, .int a2])).length) Slot.unset).toArray = ls at hl ⊢
  have hl : lv_has ls 3 [(0, .long a1), (2, .int a2)] := hl
  obtain ⟨k8, hs⟩ := sm_of hs
  cases k8 with
  | zero => cases hs
  | succ k9 =>
    rw [sm_it_succ, fn_TX_byteOf_q0] at hs
    unfold fn_TX_byteOf_b0 at hs
    refine lv_lload_n hx hb d_TX_byteOf_0 rfl (lv_at hl 0 rfl) ?_
    refine lv_bipush (v := 8) hx hb d_TX_byteOf_1 (by decide) ?_
    refine lv_iload_n hx hb d_TX_byteOf_3 rfl (lv_at hl 1 rfl) ?_
    refine lv_imul hx hb d_TX_byteOf_4 ?_
    refine lv_lushr (v := (a1.toUInt64 >>> (((8 * a2) : Int32).toInt64.toUInt64 &&& Int64.toUInt64 63)).toInt64) hx hb d_TX_byteOf_5 rfl ?_
    refine lv_l2i (v := ((a1.toUInt64 >>> (((8 * a2) : Int32).toInt64.toUInt64 &&& Int64.toUInt64 63)).toInt64).toInt32) hx hb d_TX_byteOf_6 rfl ?_
    refine lv_sipush (v := 255) hx hb d_TX_byteOf_7 (by decide) ?_
    refine lv_iand hx hb d_TX_byteOf_10 ?_
    have he := sm_end hs
    subst he
    exact W.iret (v := (((a1.toUInt64 >>> (((8 * a2) : Int32).toInt64.toUInt64 &&& Int64.toUInt64 63)).toInt64).toInt32 &&& 255)) hx hb hr (fun t ht hW => ⟨⟨(((a1.toUInt64 >>> (((8 * a2) : Int32).toInt64.toUInt64 &&& Int64.toUInt64 63)).toInt64).toInt32 &&& 255), (), rfl, rfl, by rw [ht]; exact hP, va_K.moved hW.alike hK, hD⟩, hS.F ht⟩) hS.2.2 d_TX_byteOf_11

noncomputable def fn_TX_areTypable_b0 (a1 : Int64) (a2 : Int32) (_z0 : Int32) : Option ((Nat × Int32) ⊕ (Int32)) := some (.inl (2, 0))
noncomputable def fn_TX_areTypable_b2 (a1 : Int64) (a2 : Int32) (x3i : Int32) : Option ((Nat × Int32) ⊕ (Int32)) := if (a2 : Int32) ≤ x3i then (some (.inr 1)) else ((sm_tot (fn_TX_byteOf a1 x3i) 0).bind (fun r1 => if (r1 : Int32) < 32 then (some (.inl (28, 0))) else (if (r1 : Int32) ≤ 126 then (some (.inl (2, (x3i + 1)))) else (some (.inl (28, 0))))))
noncomputable def fn_TX_areTypable_b28 (a1 : Int64) (a2 : Int32) (x3i : Int32) : Option ((Nat × Int32) ⊕ (Int32)) := some (.inr 0)
noncomputable def fn_TX_areTypable (a1 : Int64) (a2 : Int32) : Nat × Int32 → Option ((Nat × Int32) ⊕ (Int32)) := fun st => match st with
  | (pc, x3i) => if pc = 0 then fn_TX_areTypable_b0 a1 a2 x3i else if pc = 2 then fn_TX_areTypable_b2 a1 a2 x3i else if pc = 28 then fn_TX_areTypable_b28 a1 a2 x3i else none
theorem fn_TX_areTypable_q0 (a1 : Int64) (a2 : Int32) (x3i : Int32) : fn_TX_areTypable a1 a2 (0, x3i) = fn_TX_areTypable_b0 a1 a2 x3i := by simp [fn_TX_areTypable]
theorem fn_TX_areTypable_q2 (a1 : Int64) (a2 : Int32) (x3i : Int32) : fn_TX_areTypable a1 a2 (2, x3i) = fn_TX_areTypable_b2 a1 a2 x3i := by simp [fn_TX_areTypable]
theorem fn_TX_areTypable_q28 (a1 : Int64) (a2 : Int32) (x3i : Int32) : fn_TX_areTypable a1 a2 (28, x3i) = fn_TX_areTypable_b28 a1 a2 x3i := by simp [fn_TX_areTypable]
set_option maxHeartbeats 4000000 in
set_option maxRecDepth 100000 in
theorem c_TX_areTypable (l : Launch) (dC : Nat → ClassId) (dI : Nat → Nat → Nat) (a1 : Int64) (a2 : Int32) (sz : Nat) (out : Int32) (hs : sm_tot (fn_TX_areTypable a1 a2) (0, 0) = some out) : Met l y_TX_areTypable (Cond.code y_TX_areTypable b_TX_areTypable 5 (Option.some Jvm.ClassFile.FieldType.boolean) :: wd) { frames := 1, cells := 0, slots := 0, locals := 22 } (va_Pc [.long a1, .int a2] (fun U => U.heap.size = sz ∧ va_P (dC, dI) cls [] U.heap ∧ va_K (dC, dI) cls [] U ∧ va_D (fun _ => True) [] ∧ nw_ok U)) (va_Qi (fun r (_ : Unit) => r = out) (fun (_ : Unit) t => va_P (dC, dI) cls [] t.heap ∧ va_K (dC, dI) cls [] t ∧ va_D (va_A [] sz) []) (va_A [] sz)) 0 0 (va_A [] sz) := by
  refine Met.ofW (cc := b_TX_areTypable) (maxL := 5) (ret := (Option.some Jvm.ClassFile.FieldType.boolean)) (by decide) rfl ?_
  intro p e s m args below meth c s₁ B hml hv
  obtain ⟨rfl, hsz, hP, hK, hD0, hN⟩ := hv
  have hx := B.exec
  have hb := B.bytes
  have hr := B.returns
  have hlocks := B.notSynchronized
  have hts : ∀ w ∈ wd, w.before ([.long a1, .int a2] : List Value).toArray s = true := fun w hw => atoms_spec (ws := (Cond.code y_TX_areTypable b_TX_areTypable 5 (Option.some Jvm.ClassFile.FieldType.boolean) :: wd)) B.pre w (List.mem_cons_of_mem _ hw)
  have hown : s.vm.findClass "LeastSolutions$Text" = some m.cls := findClass_of_methodNamed B.named
  subst hsz
  have hD := hD0.self (sz := s.heap.size)
  generalize hAe : va_A [] s.heap.size = A at hD ⊢
  have hA : ∀ q : Nat, s.heap.size ≤ q → A q := fun q h => by rw [← hAe]; exact Or.inr h
  have hS : va_S A s.heap s.heap [] := va_S.rf
  have hl := lv_entry ([.long a1, .int a2]) (n := 5) (Nat.le_of_ble_eq_true rfl)
  rw [lg_entry_eq]
  generalize (lg_sl ([.long a1, .int a2]) ++ List.replicate (5 - (lg_sl ([.long a1, .int a2])).length) Slot.unset).toArray = ls at hl ⊢
  have hl : lv_has ls 5 [(0, .long a1), (2, .int a2)] := hl
  obtain ⟨k8, hs⟩ := sm_of hs
  refine sm_key (fun R Q k9 => (∀ (H : Heap) (locs : List Loc) (ls : Array Slot) (x3i : Int32), sm_it (fn_TX_areTypable a1 a2) k9 (2, x3i) = some out → va_P (dC, dI) cls [] H → va_D A [] → va_S A s.heap H locs → lv_has ls 5 [(0, .long a1), (2, .int a2), (3, .int x3i)] → W p l e R s m ([.long a1, .int a2] : List Value).toArray below meth c H locs 0 0 Q (F0 m 2 ls [])) ∧ (∀ (H : Heap) (locs : List Loc) (ls : Array Slot) (x3i : Int32), sm_it (fn_TX_areTypable a1 a2) k9 (28, x3i) = some out → va_P (dC, dI) cls [] H → va_D A [] → va_S A s.heap H locs → lv_has ls 5 [] → W p l e R s m ([.long a1, .int a2] : List Value).toArray below meth c H locs 0 0 Q (F0 m 28 ls []))) ?_ ?_ ?_
  · exact ⟨(fun _ _ _ _ hs => by cases hs), (fun _ _ _ _ hs => by cases hs)⟩
  · intro k9 ih
    refine ⟨?_, ?_⟩
    · intro H locs ls x3i hs hP hD hS hl
      rw [sm_it_succ, fn_TX_areTypable_q2] at hs
      unfold fn_TX_areTypable_b2 at hs
      refine lv_iload_n hx hb d_TX_areTypable_2 rfl (lv_at hl 2 rfl) ?_
      refine lv_iload_n hx hb d_TX_areTypable_3 rfl (lv_at hl 1 rfl) ?_
      refine lv_icmp_ge (tgt := 36) hx hb d_TX_areTypable_4 (by decide) (fun hc1 => ?_) (fun hc1 => ?_)
      · have hs := sm_pos hc1 hs
        refine lv_iconst (v := 1) hx hb d_TX_areTypable_36 (by decide) ?_
        have he := sm_end hs
        subst he
        exact W.zret (v := 1) (ty := .boolean) hx hb hr (by decide +kernel) (fun t ht hW => ⟨⟨1, (), rfl, rfl, by rw [ht]; exact hP, va_K.moved hW.alike hK, hD⟩, hS.F ht⟩) hS.2.2 d_TX_areTypable_37
      · have hs := sm_neg hc1 hs
        refine lv_lload_n hx hb d_TX_areTypable_7 rfl (lv_at hl 0 rfl) ?_
        refine lv_iload_n hx hb d_TX_areTypable_8 rfl (lv_at hl 2 rfl) ?_
        obtain ⟨r1, hq1, hs⟩ := sm_bd hs
        have hPc := hP.sub (ws' := []) [] rfl
        have hDc := hD.sub (ws' := []) [] (by decide) rfl
        have hKc := hK.sub (tys' := []) [] rfl
        have hFc := va_free (wc := []) hD hS hA [] rfl
        refine va_calli (va_runS (As := [.long a1, .int x3i]) (rest := []) ⟨hx, hb, hml, hown, hts⟩ (c_TX_byteOf l dC dI (a1) (x3i) H.size r1 hq1) (wd_S 2 hts k_351 k_2 k_349 k_350 rfl rfl (by decide +kernel) ⟨Nat.le_of_ble_eq_true rfl, Nat.le_of_ble_eq_true rfl⟩) ⟨fun a U g mk q => by obtain ⟨q0, q1, qP, qK, qD, qN⟩ := q; exact ⟨q0, q1, qP, va_K.moved (u := U) (U := U.calling g mk a) (Vm.Alike.refl U.vm) qK, qD, nw_ok.same (s := U) (U := U.calling g mk a) rfl qN⟩, fun U hU hW => ⟨rfl, by rw [hU], by rw [hU]; exact hPc, va_K.moved hW.alike hKc, hDc.weaken (fun _ _ _ _ => trivial), nw_ok.warm hW hN⟩⟩ rfl rfl hl.1 rfl (lv_room (Nat.le_of_ble_eq_true rfl)) d_TX_areTypable_9 ⟨Nat.le_of_ble_eq_true rfl, Nat.le_of_ble_eq_true rfl⟩) hS (fun q _ h => hFc q h) hFc (fun q1 u t H1 locs ht hvm hr1 hB hz1 hk1 hS => ?_)
        have hr1 := (show q1 = r1 from hr1).symm
        subst hr1
        obtain ⟨hP1, hK1, hD1⟩ := hB
        rw [ht] at hP1
        have hK1 := va_K.moved hvm.symm hK1
        obtain ⟨hP, hD⟩ := va_join (wr := []) (w1 := []) hP hD [] [] rfl rfl (by decide) (by decide) hk1 hFc hP1 hD1
        have hK := (hK.sub (tys' := []) [] rfl).app hK1
        have hK : va_K (dC, dI) cls [] s := hK
        have hP : va_P (dC, dI) cls [] H1 := hP
        have hD : va_D A [] := hD
        refine lv_istore hx hb d_TX_areTypable_12 hl (by decide) rfl (fun ls hl => ?_)
        have hl : lv_has ls 5 [(4, .int r1), (0, .long a1), (2, .int a2), (3, .int x3i)] := hl
        refine lv_iload hx hb d_TX_areTypable_14 (lv_at hl 0 rfl) ?_
        refine lv_bipush (v := 32) hx hb d_TX_areTypable_16 (by decide) ?_
        refine lv_icmp_lt (tgt := 28) hx hb d_TX_areTypable_18 (by decide) (fun hc2 => ?_) (fun hc2 => ?_)
        · have hs := sm_pos hc2 hs
          exact ih.2 _ _ _ _ hs hP hD hS (lv_sub hl [] rfl)
        · have hs := sm_neg hc2 hs
          refine lv_iload hx hb d_TX_areTypable_21 (lv_at hl 0 rfl) ?_
          refine lv_bipush (v := 126) hx hb d_TX_areTypable_23 (by decide) ?_
          refine lv_icmp_le (tgt := 30) hx hb d_TX_areTypable_25 (by decide) (fun hc3 => ?_) (fun hc3 => ?_)
          · have hs := sm_pos hc3 hs
            refine lv_iinc (k := 3) (v := (x3i + 1)) hx hb d_TX_areTypable_30 hl rfl (congrArg (fun z : Int32 => x3i + z) (by decide : Int32.ofInt 1 = 1)) (by decide) rfl (fun ls hl => ?_)
            have hl : lv_has ls 5 [(3, .int (x3i + 1)), (4, .int r1), (0, .long a1), (2, .int a2)] := hl
            refine lv_goto (tgt := 2) hx hb d_TX_areTypable_33 (by decide) ?_
            exact ih.1 _ _ _ _ hs hP hD hS (lv_sub hl [2, 3, 0] rfl)
          · have hs := sm_neg hc3 hs
            exact ih.2 _ _ _ _ hs hP hD hS (lv_sub hl [] rfl)
    · intro H locs ls x3i hs hP hD hS hl
      rw [sm_it_succ, fn_TX_areTypable_q28] at hs
      unfold fn_TX_areTypable_b28 at hs
      refine lv_iconst (v := 0) hx hb d_TX_areTypable_28 (by decide) ?_
      have he := sm_end hs
      subst he
      exact W.zret (v := 0) (ty := .boolean) hx hb hr (by decide +kernel) (fun t ht hW => ⟨⟨0, (), rfl, rfl, by rw [ht]; exact hP, va_K.moved hW.alike hK, hD⟩, hS.F ht⟩) hS.2.2 d_TX_areTypable_29
  · intro key
    cases k8 with
    | zero => cases hs
    | succ k9 =>
      rw [sm_it_succ, fn_TX_areTypable_q0] at hs
      unfold fn_TX_areTypable_b0 at hs
      refine lv_iconst (v := 0) hx hb d_TX_areTypable_0 (by decide) ?_
      refine lv_istore_n hx hb d_TX_areTypable_1 rfl hl (by decide) rfl (fun ls hl => ?_)
      have hl : lv_has ls 5 [(3, .int 0), (0, .long a1), (2, .int a2)] := hl
      exact (key k9).1 _ _ _ _ hs hP hD hS (lv_sub hl [1, 2, 0] rfl)

noncomputable def fn_TX_put_b0 (a1 : Int64) (a2 : Int32) (_z0 : Int32) (v_tx_length : Int32) (c_tx_characters : Nat → Int32) : Option ((Nat × Int32 × Int32 × (Nat → Int32)) ⊕ (Int32 × Int32 × (Nat → Int32))) := if (a2 : Int32) < 1 then (some (.inl (31, 0, v_tx_length, c_tx_characters))) else (if (8 : Int32) < a2 then (some (.inl (31, 0, v_tx_length, c_tx_characters))) else (if (300 : Int32) < (v_tx_length + a2) then (some (.inl (31, 0, v_tx_length, c_tx_characters))) else ((sm_tot (fn_TX_areTypable a1 a2) (0, 0)).bind (fun r2 => if (r2 : Int32) = 0 then (some (.inl (31, 0, v_tx_length, c_tx_characters))) else (some (.inl (38, (a2 - 1), v_tx_length, c_tx_characters)))))))
noncomputable def fn_TX_put_b31 (a1 : Int64) (a2 : Int32) (x4i : Int32) (w_tx_length : Int32) (u_tx_characters : Nat → Int32) : Option ((Nat × Int32 × Int32 × (Nat → Int32)) ⊕ (Int32 × Int32 × (Nat → Int32))) := some (.inr (0, w_tx_length, u_tx_characters))
noncomputable def fn_TX_put_b38 (a1 : Int64) (a2 : Int32) (x4i : Int32) (w_tx_length : Int32) (u_tx_characters : Nat → Int32) : Option ((Nat × Int32 × Int32 × (Nat → Int32)) ⊕ (Int32 × Int32 × (Nat → Int32))) := if (x4i : Int32) < 0 then (some (.inr (1, w_tx_length, u_tx_characters))) else ((sm_tot (fn_TX_byteOf a1 x4i) 0).bind (fun r1 => if ¬ ((w_tx_length : Int32) < 0 ∨ 300 ≤ (w_tx_length : Int32).toNatClampNeg) then some (.inl (38, (x4i + (-1)), (w_tx_length + 1), (upd u_tx_characters (w_tx_length : Int32).toNatClampNeg (vp_nar .byte (r1 : Int32).toInt8.toInt32)))) else none))
noncomputable def fn_TX_put (a1 : Int64) (a2 : Int32) : Nat × Int32 × Int32 × (Nat → Int32) → Option ((Nat × Int32 × Int32 × (Nat → Int32)) ⊕ (Int32 × Int32 × (Nat → Int32))) := fun st => match st with
  | (pc, x4i, w_tx_length, u_tx_characters) => if pc = 0 then fn_TX_put_b0 a1 a2 x4i w_tx_length u_tx_characters else if pc = 31 then fn_TX_put_b31 a1 a2 x4i w_tx_length u_tx_characters else if pc = 38 then fn_TX_put_b38 a1 a2 x4i w_tx_length u_tx_characters else none
theorem fn_TX_put_q0 (a1 : Int64) (a2 : Int32) (x4i : Int32) (w_tx_length : Int32) (u_tx_characters : Nat → Int32) : fn_TX_put a1 a2 (0, x4i, w_tx_length, u_tx_characters) = fn_TX_put_b0 a1 a2 x4i w_tx_length u_tx_characters := by simp [fn_TX_put]
theorem fn_TX_put_q31 (a1 : Int64) (a2 : Int32) (x4i : Int32) (w_tx_length : Int32) (u_tx_characters : Nat → Int32) : fn_TX_put a1 a2 (31, x4i, w_tx_length, u_tx_characters) = fn_TX_put_b31 a1 a2 x4i w_tx_length u_tx_characters := by simp [fn_TX_put]
theorem fn_TX_put_q38 (a1 : Int64) (a2 : Int32) (x4i : Int32) (w_tx_length : Int32) (u_tx_characters : Nat → Int32) : fn_TX_put a1 a2 (38, x4i, w_tx_length, u_tx_characters) = fn_TX_put_b38 a1 a2 x4i w_tx_length u_tx_characters := by simp [fn_TX_put]
set_option maxHeartbeats 4000000 in
set_option maxRecDepth 100000 in
theorem c_TX_put (l : Launch) (dC : Nat → ClassId) (dI : Nat → Nat → Nat) (a_tx : Nat) (f_tx_characters : Nat) (v_tx_length : Int32) (k_tx_characters : ClassId) (c_tx_characters : Nat → Int32) (a1 : Int64) (a2 : Int32) (sz : Nat) (out : Int32 × Int32 × (Nat → Int32)) (hs : sm_tot (fn_TX_put a1 a2) (0, 0, v_tx_length, c_tx_characters) = some out) : Met l y_TX_put (Cond.code y_TX_put b_TX_put 5 (Option.some Jvm.ClassFile.FieldType.boolean) :: wd) { frames := 2, cells := 0, slots := 0, locals := 46 } (va_Pc [.ref a_tx, .long a1, .int a2] (fun U => U.heap.size = sz ∧ va_P (dC, dI) cls [(a_tx, .inr (1, [.ref f_tx_characters, .int v_tx_length])), (f_tx_characters, .inl (k_tx_characters, 300, .inl c_tx_characters))] U.heap ∧ va_K (dC, dI) cls [(k_tx_characters, .byte)] U ∧ va_D (fun _ => True) [(a_tx, .inr (1, [.ref f_tx_characters, .int v_tx_length])), (f_tx_characters, .inl (k_tx_characters, 300, .inl c_tx_characters))] ∧ nw_ok U)) (va_Qi (fun r (_ : Unit) => r = out.1) (fun (_ : Unit) t => va_P (dC, dI) cls [(a_tx, .inr (1, [.ref f_tx_characters, .int out.2.1])), (f_tx_characters, .inl (k_tx_characters, 300, .inl out.2.2))] t.heap ∧ va_K (dC, dI) cls [(k_tx_characters, .byte)] t ∧ va_D (va_A [(a_tx, .inr (1, [.ref f_tx_characters, .int v_tx_length])), (f_tx_characters, .inl (k_tx_characters, 300, .inl c_tx_characters))] sz) [(a_tx, .inr (1, [.ref f_tx_characters, .int out.2.1])), (f_tx_characters, .inl (k_tx_characters, 300, .inl out.2.2))]) (va_A [(a_tx, .inr (1, [.ref f_tx_characters, .int v_tx_length])), (f_tx_characters, .inl (k_tx_characters, 300, .inl c_tx_characters))] sz)) 0 0 (va_A [(a_tx, .inr (1, [.ref f_tx_characters, .int v_tx_length])), (f_tx_characters, .inl (k_tx_characters, 300, .inl c_tx_characters))] sz) := by
  refine Met.ofW (cc := b_TX_put) (maxL := 5) (ret := (Option.some Jvm.ClassFile.FieldType.boolean)) (by decide) rfl ?_
  intro p e s m args below meth c s₁ B hml hv
  obtain ⟨rfl, hsz, hP, hK, hD0, hN⟩ := hv
  have hx := B.exec
  have hb := B.bytes
  have hr := B.returns
  have hlocks := B.notSynchronized
  have hts : ∀ w ∈ wd, w.before ([.ref a_tx, .long a1, .int a2] : List Value).toArray s = true := fun w hw => atoms_spec (ws := (Cond.code y_TX_put b_TX_put 5 (Option.some Jvm.ClassFile.FieldType.boolean) :: wd)) B.pre w (List.mem_cons_of_mem _ hw)
  have hown : s.vm.findClass "LeastSolutions$Text" = some m.cls := findClass_of_methodNamed B.named
  subst hsz
  have hD := hD0.self (sz := s.heap.size)
  generalize hAe : va_A [(a_tx, .inr (1, [.ref f_tx_characters, .int v_tx_length])), (f_tx_characters, .inl (k_tx_characters, 300, .inl c_tx_characters))] s.heap.size = A at hD ⊢
  have hA : ∀ q : Nat, s.heap.size ≤ q → A q := fun q h => by rw [← hAe]; exact Or.inr h
  have hS : va_S A s.heap s.heap [] := va_S.rf
  have hl := lv_entry ([.ref a_tx, .long a1, .int a2]) (n := 5) (Nat.le_of_ble_eq_true rfl)
  rw [lg_entry_eq]
  generalize (lg_sl ([.ref a_tx, .long a1, .int a2]) ++ List.replicate (5 - (lg_sl ([.ref a_tx, .long a1, .int a2])).length) Slot.unset).toArray = ls at hl ⊢
  have hl : lv_has ls 5 [(0, .ref a_tx), (1, .long a1), (3, .int a2)] := hl
  obtain ⟨k8, hs⟩ := sm_of hs
  refine sm_key (fun R Q k9 => (∀ (H : Heap) (locs : List Loc) (ls : Array Slot) (x4i : Int32) (w_tx_length : Int32) (u_tx_characters : Nat → Int32), sm_it (fn_TX_put a1 a2) k9 (31, x4i, w_tx_length, u_tx_characters) = some out → va_P (dC, dI) cls [(a_tx, .inr (1, [.ref f_tx_characters, .int w_tx_length])), (f_tx_characters, .inl (k_tx_characters, 300, .inl u_tx_characters))] H → va_D A [(a_tx, .inr (1, [.ref f_tx_characters, .int w_tx_length])), (f_tx_characters, .inl (k_tx_characters, 300, .inl u_tx_characters))] → va_S A s.heap H locs → lv_has ls 5 [] → W p l e R s m ([.ref a_tx, .long a1, .int a2] : List Value).toArray below meth c H locs 0 0 Q (F0 m 31 ls [])) ∧ (∀ (H : Heap) (locs : List Loc) (ls : Array Slot) (x4i : Int32) (w_tx_length : Int32) (u_tx_characters : Nat → Int32), sm_it (fn_TX_put a1 a2) k9 (38, x4i, w_tx_length, u_tx_characters) = some out → va_P (dC, dI) cls [(a_tx, .inr (1, [.ref f_tx_characters, .int w_tx_length])), (f_tx_characters, .inl (k_tx_characters, 300, .inl u_tx_characters))] H → va_D A [(a_tx, .inr (1, [.ref f_tx_characters, .int w_tx_length])), (f_tx_characters, .inl (k_tx_characters, 300, .inl u_tx_characters))] → va_S A s.heap H locs → lv_has ls 5 [(0, .ref a_tx), (1, .long a1), (4, .int x4i)] → W p l e R s m ([.ref a_tx, .long a1, .int a2] : List Value).toArray below meth c H locs 0 0 Q (F0 m 38 ls []))) ?_ ?_ ?_
  · exact ⟨(fun _ _ _ _ _ _ hs => by cases hs), (fun _ _ _ _ _ _ hs => by cases hs)⟩
  · intro k9 ih
    refine ⟨?_, ?_⟩
    · intro H locs ls x4i w_tx_length u_tx_characters hs hP hD hS hl
      rw [sm_it_succ, fn_TX_put_q31] at hs
      unfold fn_TX_put_b31 at hs
      refine lv_iconst (v := 0) hx hb d_TX_put_31 (by decide) ?_
      have he := sm_end hs
      subst he
      exact W.zret (v := 0) (ty := .boolean) hx hb hr (by decide +kernel) (fun t ht hW => ⟨⟨0, (), rfl, rfl, by rw [ht]; exact hP, va_K.moved hW.alike hK, hD⟩, hS.F ht⟩) hS.2.2 d_TX_put_32
    · intro H locs ls x4i w_tx_length u_tx_characters hs hP hD hS hl
      rw [sm_it_succ, fn_TX_put_q38] at hs
      unfold fn_TX_put_b38 at hs
      refine lv_iload hx hb d_TX_put_38 (lv_at hl 2 rfl) ?_
      refine lv_if_lt (tgt := 75) hx hb d_TX_put_40 (by decide) (fun hc1 => ?_) (fun hc1 => ?_)
      · have hs := sm_pos hc1 hs
        refine lv_iconst (v := 1) hx hb d_TX_put_75 (by decide) ?_
        have he := sm_end hs
        subst he
        exact W.zret (v := 1) (ty := .boolean) hx hb hr (by decide +kernel) (fun t ht hW => ⟨⟨1, (), rfl, rfl, by rw [ht]; exact hP, va_K.moved hW.alike hK, hD⟩, hS.F ht⟩) hS.2.2 d_TX_put_76
      · have hs := sm_neg hc1 hs
        refine lv_aload_n hx hb d_TX_put_43 rfl (lv_at hl 0 rfl) ?_
        refine va_get (D := (dC, dI)) (ci := 1) (v := .ref f_tx_characters) (C := R_TX) (T := T_TX) (N := 2) hx hb hts in_TX hown hK hP 0 rfl rfl 0 (by decide) (hts _ k_36) (fun _ h9 => h9) rfl d_TX_put_44 ?_
        refine lv_aload_n hx hb d_TX_put_47 rfl (lv_at hl 0 rfl) ?_
        refine va_get (D := (dC, dI)) (ci := 1) (v := .int w_tx_length) (C := R_TX) (T := T_TX) (N := 2) hx hb hts in_TX hown hK hP 0 rfl rfl 1 (by decide) (hts _ k_37) (fun _ h9 => h9) rfl d_TX_put_48 ?_
        refine lv_lload_n hx hb d_TX_put_51 rfl (lv_at hl 1 rfl) ?_
        refine lv_iload hx hb d_TX_put_52 (lv_at hl 2 rfl) ?_
        obtain ⟨r1, hq1, hs⟩ := sm_bd hs
        have hPc := hP.sub (ws' := []) [] rfl
        have hDc := hD.sub (ws' := []) [] (by decide) rfl
        have hKc := hK.sub (tys' := []) [] rfl
        have hFc := va_free (wc := []) hD hS hA [] rfl
        refine va_calli (va_runS (As := [.long a1, .int x4i]) (rest := [.int w_tx_length, .ref f_tx_characters]) ⟨hx, hb, hml, hown, hts⟩ (c_TX_byteOf l dC dI (a1) (x4i) H.size r1 hq1) (wd_S 2 hts k_351 k_2 k_349 k_350 rfl rfl (by decide +kernel) ⟨Nat.le_of_ble_eq_true rfl, Nat.le_of_ble_eq_true rfl⟩) ⟨fun a U g mk q => by obtain ⟨q0, q1, qP, qK, qD, qN⟩ := q; exact ⟨q0, q1, qP, va_K.moved (u := U) (U := U.calling g mk a) (Vm.Alike.refl U.vm) qK, qD, nw_ok.same (s := U) (U := U.calling g mk a) rfl qN⟩, fun U hU hW => ⟨rfl, by rw [hU], by rw [hU]; exact hPc, va_K.moved hW.alike hKc, hDc.weaken (fun _ _ _ _ => trivial), nw_ok.warm hW hN⟩⟩ rfl rfl hl.1 rfl (lv_room (Nat.le_of_ble_eq_true rfl)) d_TX_put_54 ⟨Nat.le_of_ble_eq_true rfl, Nat.le_of_ble_eq_true rfl⟩) hS (fun q _ h => hFc q h) hFc (fun q1 u t H1 locs ht hvm hr1 hB hz1 hk1 hS => ?_)
        have hr1 := (show q1 = r1 from hr1).symm
        subst hr1
        obtain ⟨hP1, hK1, hD1⟩ := hB
        rw [ht] at hP1
        have hK1 := va_K.moved hvm.symm hK1
        obtain ⟨hP, hD⟩ := va_join (wr := [(a_tx, .inr (1, [.ref f_tx_characters, .int w_tx_length])), (f_tx_characters, .inl (k_tx_characters, 300, .inl u_tx_characters))]) (w1 := []) hP hD [] [0, 1] rfl rfl (by decide) (by decide) hk1 hFc hP1 hD1
        have hK := (hK.sub (tys' := [(k_tx_characters, .byte)]) [0] rfl).app hK1
        have hK : va_K (dC, dI) cls [(k_tx_characters, .byte)] s := hK
        have hP : va_P (dC, dI) cls [(a_tx, .inr (1, [.ref f_tx_characters, .int w_tx_length])), (f_tx_characters, .inl (k_tx_characters, 300, .inl u_tx_characters))] H1 := hP
        have hD : va_D A [(a_tx, .inr (1, [.ref f_tx_characters, .int w_tx_length])), (f_tx_characters, .inl (k_tx_characters, 300, .inl u_tx_characters))] := hD
        refine lv_i2b (v := (r1 : Int32).toInt8.toInt32) hx hb d_TX_put_57 rfl ?_
        obtain ⟨hg1, hs⟩ := sm_gd hs
        refine va_bast hx hb hK hP hD hS 1 0 rfl rfl hg1 d_TX_put_58 (fun H2 locs hP hD hS => ?_)
        have hP : va_P (dC, dI) cls [(a_tx, .inr (1, [.ref f_tx_characters, .int w_tx_length])), (f_tx_characters, .inl (k_tx_characters, 300, .inl (upd u_tx_characters (w_tx_length : Int32).toNatClampNeg (vp_nar .byte (r1 : Int32).toInt8.toInt32))))] H2 := hP
        have hD : va_D A [(a_tx, .inr (1, [.ref f_tx_characters, .int w_tx_length])), (f_tx_characters, .inl (k_tx_characters, 300, .inl (upd u_tx_characters (w_tx_length : Int32).toNatClampNeg (vp_nar .byte (r1 : Int32).toInt8.toInt32))))] := hD
        refine lv_aload_n hx hb d_TX_put_59 rfl (lv_at hl 0 rfl) ?_
        refine lv_dup hx hb d_TX_put_60 rfl ?_
        refine va_get (D := (dC, dI)) (ci := 1) (v := .int w_tx_length) (C := R_TX) (T := T_TX) (N := 2) hx hb hts in_TX hown hK hP 0 rfl rfl 1 (by decide) (hts _ k_37) (fun _ h9 => h9) rfl d_TX_put_61 ?_
        refine lv_iconst (v := 1) hx hb d_TX_put_64 (by decide) ?_
        refine lv_iadd hx hb d_TX_put_65 ?_
        refine va_put (D := (dC, dI)) (ci := 1) (v := .int (w_tx_length + 1)) (ty := .int) (C := R_TX) (T := T_TX) (N := 2) hx hb hts in_TX t_TX t_TX_ok n_TX hown hK hP hD hS 0 rfl rfl 1 (by decide) (hts _ k_37) (fun _ h9 => h9) rfl (by decide +kernel) rfl rfl (Nat.le_of_ble_eq_true rfl) d_TX_put_66 (fun H3 locs hP hD hS => ?_)
        have hP : va_P (dC, dI) cls [(a_tx, .inr (1, [.ref f_tx_characters, .int (w_tx_length + 1)])), (f_tx_characters, .inl (k_tx_characters, 300, .inl (upd u_tx_characters (w_tx_length : Int32).toNatClampNeg (vp_nar .byte (r1 : Int32).toInt8.toInt32))))] H3 := hP
        have hD : va_D A [(a_tx, .inr (1, [.ref f_tx_characters, .int (w_tx_length + 1)])), (f_tx_characters, .inl (k_tx_characters, 300, .inl (upd u_tx_characters (w_tx_length : Int32).toNatClampNeg (vp_nar .byte (r1 : Int32).toInt8.toInt32))))] := hD
        refine lv_iinc (k := 2) (v := (x4i + (-1))) hx hb d_TX_put_69 hl rfl (congrArg (fun z : Int32 => x4i + z) (by decide : Int32.ofInt (-1) = (-1))) (by decide) rfl (fun ls hl => ?_)
        have hl : lv_has ls 5 [(4, .int (x4i + (-1))), (0, .ref a_tx), (1, .long a1)] := hl
        refine lv_goto (tgt := 38) hx hb d_TX_put_72 (by decide) ?_
        exact ih.2 _ _ _ _ _ _ hs hP hD hS (lv_sub hl [1, 2, 0] rfl)
  · intro key
    cases k8 with
    | zero => cases hs
    | succ k9 =>
      rw [sm_it_succ, fn_TX_put_q0] at hs
      unfold fn_TX_put_b0 at hs
      refine lv_iload_n hx hb d_TX_put_0 rfl (lv_at hl 2 rfl) ?_
      refine lv_iconst (v := 1) hx hb d_TX_put_1 (by decide) ?_
      refine lv_icmp_lt (tgt := 31) hx hb d_TX_put_2 (by decide) (fun hc2 => ?_) (fun hc2 => ?_)
      · have hs := sm_pos hc2 hs
        exact (key k9).1 _ _ _ _ _ _ hs hP hD hS (lv_sub hl [] rfl)
      · have hs := sm_neg hc2 hs
        refine lv_iload_n hx hb d_TX_put_5 rfl (lv_at hl 2 rfl) ?_
        refine lv_bipush (v := 8) hx hb d_TX_put_6 (by decide) ?_
        refine lv_icmp_gt (tgt := 31) hx hb d_TX_put_8 (by decide) (fun hc3 => ?_) (fun hc3 => ?_)
        · have hs := sm_pos hc3 hs
          exact (key k9).1 _ _ _ _ _ _ hs hP hD hS (lv_sub hl [] rfl)
        · have hs := sm_neg hc3 hs
          refine lv_aload_n hx hb d_TX_put_11 rfl (lv_at hl 0 rfl) ?_
          refine va_get (D := (dC, dI)) (ci := 1) (v := .int v_tx_length) (C := R_TX) (T := T_TX) (N := 2) hx hb hts in_TX hown hK hP 0 rfl rfl 1 (by decide) (hts _ k_37) (fun _ h9 => h9) rfl d_TX_put_12 ?_
          refine lv_iload_n hx hb d_TX_put_15 rfl (lv_at hl 2 rfl) ?_
          refine lv_iadd hx hb d_TX_put_16 ?_
          refine lv_sipush (v := 300) hx hb d_TX_put_17 (by decide) ?_
          refine lv_icmp_gt (tgt := 31) hx hb d_TX_put_20 (by decide) (fun hc4 => ?_) (fun hc4 => ?_)
          · have hs := sm_pos hc4 hs
            exact (key k9).1 _ _ _ _ _ _ hs hP hD hS (lv_sub hl [] rfl)
          · have hs := sm_neg hc4 hs
            refine lv_lload_n hx hb d_TX_put_23 rfl (lv_at hl 1 rfl) ?_
            refine lv_iload_n hx hb d_TX_put_24 rfl (lv_at hl 2 rfl) ?_
            obtain ⟨r2, hq2, hs⟩ := sm_bd hs
            have hPc := hP.sub (ws' := []) [] rfl
            have hDc := hD.sub (ws' := []) [] (by decide) rfl
            have hKc := hK.sub (tys' := []) [] rfl
            have hFc := va_free (wc := []) hD hS hA [] rfl
            refine va_calli (va_runS (As := [.long a1, .int a2]) (rest := []) ⟨hx, hb, hml, hown, hts⟩ (c_TX_areTypable l dC dI (a1) (a2) s.heap.size r2 hq2) (wd_S 2 hts k_348 k_2 k_346 k_347 rfl rfl (by decide +kernel) ⟨Nat.le_of_ble_eq_true rfl, Nat.le_of_ble_eq_true rfl⟩) ⟨fun a U g mk q => by obtain ⟨q0, q1, qP, qK, qD, qN⟩ := q; exact ⟨q0, q1, qP, va_K.moved (u := U) (U := U.calling g mk a) (Vm.Alike.refl U.vm) qK, qD, nw_ok.same (s := U) (U := U.calling g mk a) rfl qN⟩, fun U hU hW => ⟨rfl, by rw [hU], by rw [hU]; exact hPc, va_K.moved hW.alike hKc, hDc.weaken (fun _ _ _ _ => trivial), nw_ok.warm hW hN⟩⟩ rfl rfl hl.1 rfl (lv_room (Nat.le_of_ble_eq_true rfl)) d_TX_put_25 ⟨Nat.le_of_ble_eq_true rfl, Nat.le_of_ble_eq_true rfl⟩) hS (fun q _ h => hFc q h) hFc (fun q2 u t H4 locs ht hvm hr2 hB hz1 hk1 hS => ?_)
            have hr2 := (show q2 = r2 from hr2).symm
            subst hr2
            obtain ⟨hP1, hK1, hD1⟩ := hB
            rw [ht] at hP1
            have hK1 := va_K.moved hvm.symm hK1
            obtain ⟨hP, hD⟩ := va_join (wr := [(a_tx, .inr (1, [.ref f_tx_characters, .int v_tx_length])), (f_tx_characters, .inl (k_tx_characters, 300, .inl c_tx_characters))]) (w1 := []) hP hD [] [0, 1] rfl rfl (by decide) (by decide) hk1 hFc hP1 hD1
            have hK := (hK.sub (tys' := [(k_tx_characters, .byte)]) [0] rfl).app hK1
            have hK : va_K (dC, dI) cls [(k_tx_characters, .byte)] s := hK
            have hP : va_P (dC, dI) cls [(a_tx, .inr (1, [.ref f_tx_characters, .int v_tx_length])), (f_tx_characters, .inl (k_tx_characters, 300, .inl c_tx_characters))] H4 := hP
            have hD : va_D A [(a_tx, .inr (1, [.ref f_tx_characters, .int v_tx_length])), (f_tx_characters, .inl (k_tx_characters, 300, .inl c_tx_characters))] := hD
            refine lv_if_ne (tgt := 33) hx hb d_TX_put_28 (by decide) (fun hc5 => ?_) (fun hc5 => ?_)
            · have hs := sm_neg hc5 hs
              refine lv_iload_n hx hb d_TX_put_33 rfl (lv_at hl 2 rfl) ?_
              refine lv_iconst (v := 1) hx hb d_TX_put_34 (by decide) ?_
              refine lv_isub hx hb d_TX_put_35 ?_
              refine lv_istore hx hb d_TX_put_36 hl (by decide) rfl (fun ls hl => ?_)
              have hl : lv_has ls 5 [(4, .int (a2 - 1)), (0, .ref a_tx), (1, .long a1), (3, .int a2)] := hl
              exact (key k9).2 _ _ _ _ _ _ hs hP hD hS (lv_sub hl [1, 2, 0] rfl)
            · have hs := sm_pos hc5 hs
              exact (key k9).1 _ _ _ _ _ _ hs hP hD hS (lv_sub hl [] rfl)

noncomputable def fn_TX_characterAt_b0 (a1 : Int32) (v_tx_length : Int32) (c_tx_characters : Nat → Int32) (_z0 : Int32) : Option ((Nat × Int32) ⊕ (Int32)) := if (a1 : Int32) < 0 then (some (.inl (21, 0))) else (if (v_tx_length : Int32) ≤ a1 then (some (.inl (21, 0))) else (if ¬ ((a1 : Int32) < 0 ∨ 300 ≤ (a1 : Int32).toNatClampNeg) then some (.inl (22, (c_tx_characters (a1 : Int32).toNatClampNeg))) else none))
noncomputable def fn_TX_characterAt_b21 (a1 : Int32) (v_tx_length : Int32) (c_tx_characters : Nat → Int32) (s0i : Int32) : Option ((Nat × Int32) ⊕ (Int32)) := some (.inl (22, 0))
noncomputable def fn_TX_characterAt_b22 (a1 : Int32) (v_tx_length : Int32) (c_tx_characters : Nat → Int32) (s0i : Int32) : Option ((Nat × Int32) ⊕ (Int32)) := some (.inr s0i)
noncomputable def fn_TX_characterAt (a1 : Int32) (v_tx_length : Int32) (c_tx_characters : Nat → Int32) : Nat × Int32 → Option ((Nat × Int32) ⊕ (Int32)) := fun st => match st with
  | (pc, s0i) => if pc = 0 then fn_TX_characterAt_b0 a1 v_tx_length c_tx_characters s0i else if pc = 21 then fn_TX_characterAt_b21 a1 v_tx_length c_tx_characters s0i else if pc = 22 then fn_TX_characterAt_b22 a1 v_tx_length c_tx_characters s0i else none
theorem fn_TX_characterAt_q0 (a1 : Int32) (v_tx_length : Int32) (c_tx_characters : Nat → Int32) (s0i : Int32) : fn_TX_characterAt a1 v_tx_length c_tx_characters (0, s0i) = fn_TX_characterAt_b0 a1 v_tx_length c_tx_characters s0i := by simp [fn_TX_characterAt]
theorem fn_TX_characterAt_q21 (a1 : Int32) (v_tx_length : Int32) (c_tx_characters : Nat → Int32) (s0i : Int32) : fn_TX_characterAt a1 v_tx_length c_tx_characters (21, s0i) = fn_TX_characterAt_b21 a1 v_tx_length c_tx_characters s0i := by simp [fn_TX_characterAt]
theorem fn_TX_characterAt_q22 (a1 : Int32) (v_tx_length : Int32) (c_tx_characters : Nat → Int32) (s0i : Int32) : fn_TX_characterAt a1 v_tx_length c_tx_characters (22, s0i) = fn_TX_characterAt_b22 a1 v_tx_length c_tx_characters s0i := by simp [fn_TX_characterAt]
set_option maxHeartbeats 4000000 in
set_option maxRecDepth 100000 in
theorem c_TX_characterAt (l : Launch) (dC : Nat → ClassId) (dI : Nat → Nat → Nat) (a_tx : Nat) (f_tx_characters : Nat) (v_tx_length : Int32) (k_tx_characters : ClassId) (c_tx_characters : Nat → Int32) (a1 : Int32) (sz : Nat) (out : Int32) (hs : sm_tot (fn_TX_characterAt a1 v_tx_length c_tx_characters) (0, 0) = some out) : Met l y_TX_characterAt (Cond.code y_TX_characterAt b_TX_characterAt 2 (Option.some Jvm.ClassFile.FieldType.int) :: wd) { frames := 0, cells := 0, slots := 0, locals := 0 } (va_Pc [.ref a_tx, .int a1] (fun U => U.heap.size = sz ∧ va_P (dC, dI) cls [(a_tx, .inr (1, [.ref f_tx_characters, .int v_tx_length])), (f_tx_characters, .inl (k_tx_characters, 300, .inl c_tx_characters))] U.heap ∧ va_K (dC, dI) cls [(k_tx_characters, .byte)] U ∧ va_D (fun _ => True) [(a_tx, .inr (1, [.ref f_tx_characters, .int v_tx_length])), (f_tx_characters, .inl (k_tx_characters, 300, .inl c_tx_characters))] ∧ nw_ok U)) (va_Qi (fun r (_ : Unit) => r = out) (fun (_ : Unit) t => va_P (dC, dI) cls [(a_tx, .inr (1, [.ref f_tx_characters, .int v_tx_length])), (f_tx_characters, .inl (k_tx_characters, 300, .inl c_tx_characters))] t.heap ∧ va_K (dC, dI) cls [(k_tx_characters, .byte)] t ∧ va_D (va_A [(a_tx, .inr (1, [.ref f_tx_characters, .int v_tx_length])), (f_tx_characters, .inl (k_tx_characters, 300, .inl c_tx_characters))] sz) [(a_tx, .inr (1, [.ref f_tx_characters, .int v_tx_length])), (f_tx_characters, .inl (k_tx_characters, 300, .inl c_tx_characters))]) (va_A [(a_tx, .inr (1, [.ref f_tx_characters, .int v_tx_length])), (f_tx_characters, .inl (k_tx_characters, 300, .inl c_tx_characters))] sz)) 0 0 (va_A [(a_tx, .inr (1, [.ref f_tx_characters, .int v_tx_length])), (f_tx_characters, .inl (k_tx_characters, 300, .inl c_tx_characters))] sz) := by
  refine Met.ofW (cc := b_TX_characterAt) (maxL := 2) (ret := (Option.some Jvm.ClassFile.FieldType.int)) (by decide) rfl ?_
  intro p e s m args below meth c s₁ B hml hv
  obtain ⟨rfl, hsz, hP, hK, hD0, hN⟩ := hv
  have hx := B.exec
  have hb := B.bytes
  have hr := B.returns
  have hlocks := B.notSynchronized
  have hts : ∀ w ∈ wd, w.before ([.ref a_tx, .int a1] : List Value).toArray s = true := fun w hw => atoms_spec (ws := (Cond.code y_TX_characterAt b_TX_characterAt 2 (Option.some Jvm.ClassFile.FieldType.int) :: wd)) B.pre w (List.mem_cons_of_mem _ hw)
  have hown : s.vm.findClass "LeastSolutions$Text" = some m.cls := findClass_of_methodNamed B.named
  subst hsz
  have hD := hD0.self (sz := s.heap.size)
  generalize hAe : va_A [(a_tx, .inr (1, [.ref f_tx_characters, .int v_tx_length])), (f_tx_characters, .inl (k_tx_characters, 300, .inl c_tx_characters))] s.heap.size = A at hD ⊢
  have hA : ∀ q : Nat, s.heap.size ≤ q → A q := fun q h => by rw [← hAe]; exact Or.inr h
  have hS : va_S A s.heap s.heap [] := va_S.rf
  have hl := lv_entry ([.ref a_tx, .int a1]) (n := 2) (Nat.le_of_ble_eq_true rfl)
  rw [lg_entry_eq]
  generalize (lg_sl ([.ref a_tx, .int a1]) ++ List.replicate (2 - (lg_sl ([.ref a_tx, .int a1])).length) Slot.unset).toArray = ls at hl ⊢
  have hl : lv_has ls 2 [(0, .ref a_tx), (1, .int a1)] := hl
  obtain ⟨k8, hs⟩ := sm_of hs
  refine sm_key (fun R Q k9 => (∀ (H : Heap) (locs : List Loc) (ls : Array Slot) (s0i : Int32), sm_it (fn_TX_characterAt a1 v_tx_length c_tx_characters) k9 (21, s0i) = some out → va_P (dC, dI) cls [(a_tx, .inr (1, [.ref f_tx_characters, .int v_tx_length])), (f_tx_characters, .inl (k_tx_characters, 300, .inl c_tx_characters))] H → va_D A [(a_tx, .inr (1, [.ref f_tx_characters, .int v_tx_length])), (f_tx_characters, .inl (k_tx_characters, 300, .inl c_tx_characters))] → va_S A s.heap H locs → lv_has ls 2 [] → W p l e R s m ([.ref a_tx, .int a1] : List Value).toArray below meth c H locs 0 0 Q (F0 m 21 ls [])) ∧ (∀ (H : Heap) (locs : List Loc) (ls : Array Slot) (s0i : Int32), sm_it (fn_TX_characterAt a1 v_tx_length c_tx_characters) k9 (22, s0i) = some out → va_P (dC, dI) cls [(a_tx, .inr (1, [.ref f_tx_characters, .int v_tx_length])), (f_tx_characters, .inl (k_tx_characters, 300, .inl c_tx_characters))] H → va_D A [(a_tx, .inr (1, [.ref f_tx_characters, .int v_tx_length])), (f_tx_characters, .inl (k_tx_characters, 300, .inl c_tx_characters))] → va_S A s.heap H locs → lv_has ls 2 [] → W p l e R s m ([.ref a_tx, .int a1] : List Value).toArray below meth c H locs 0 0 Q (F0 m 22 ls [.int s0i]))) ?_ ?_ ?_
  · exact ⟨(fun _ _ _ _ hs => by cases hs), (fun _ _ _ _ hs => by cases hs)⟩
  · intro k9 ih
    refine ⟨?_, ?_⟩
    · intro H locs ls s0i hs hP hD hS hl
      rw [sm_it_succ, fn_TX_characterAt_q21] at hs
      unfold fn_TX_characterAt_b21 at hs
      refine lv_iconst (v := 0) hx hb d_TX_characterAt_21 (by decide) ?_
      exact ih.2 _ _ _ _ hs hP hD hS (lv_sub hl [] rfl)
    · intro H locs ls s0i hs hP hD hS hl
      rw [sm_it_succ, fn_TX_characterAt_q22] at hs
      unfold fn_TX_characterAt_b22 at hs
      have he := sm_end hs
      subst he
      exact W.iret (v := s0i) hx hb hr (fun t ht hW => ⟨⟨s0i, (), rfl, rfl, by rw [ht]; exact hP, va_K.moved hW.alike hK, hD⟩, hS.F ht⟩) hS.2.2 d_TX_characterAt_22
  · intro key
    cases k8 with
    | zero => cases hs
    | succ k9 =>
      rw [sm_it_succ, fn_TX_characterAt_q0] at hs
      unfold fn_TX_characterAt_b0 at hs
      refine lv_iload_n hx hb d_TX_characterAt_0 rfl (lv_at hl 1 rfl) ?_
      refine lv_if_lt (tgt := 21) hx hb d_TX_characterAt_1 (by decide) (fun hc1 => ?_) (fun hc1 => ?_)
      · have hs := sm_pos hc1 hs
        exact (key k9).1 _ _ _ _ hs hP hD hS (lv_sub hl [] rfl)
      · have hs := sm_neg hc1 hs
        refine lv_iload_n hx hb d_TX_characterAt_4 rfl (lv_at hl 1 rfl) ?_
        refine lv_aload_n hx hb d_TX_characterAt_5 rfl (lv_at hl 0 rfl) ?_
        refine va_get (D := (dC, dI)) (ci := 1) (v := .int v_tx_length) (C := R_TX) (T := T_TX) (N := 2) hx hb hts in_TX hown hK hP 0 rfl rfl 1 (by decide) (hts _ k_37) (fun _ h9 => h9) rfl d_TX_characterAt_6 ?_
        refine lv_icmp_ge (tgt := 21) hx hb d_TX_characterAt_9 (by decide) (fun hc2 => ?_) (fun hc2 => ?_)
        · have hs := sm_pos hc2 hs
          exact (key k9).1 _ _ _ _ hs hP hD hS (lv_sub hl [] rfl)
        · have hs := sm_neg hc2 hs
          refine lv_aload_n hx hb d_TX_characterAt_12 rfl (lv_at hl 0 rfl) ?_
          refine va_get (D := (dC, dI)) (ci := 1) (v := .ref f_tx_characters) (C := R_TX) (T := T_TX) (N := 2) hx hb hts in_TX hown hK hP 0 rfl rfl 0 (by decide) (hts _ k_36) (fun _ h9 => h9) rfl d_TX_characterAt_13 ?_
          refine lv_iload_n hx hb d_TX_characterAt_16 rfl (lv_at hl 1 rfl) ?_
          obtain ⟨hg1, hs⟩ := sm_gd hs
          refine va_bald hx hb hK hP 1 0 rfl rfl hg1 d_TX_characterAt_17 ?_
          refine lv_goto (tgt := 22) hx hb d_TX_characterAt_18 (by decide) ?_
          exact (key k9).2 _ _ _ _ hs hP hD hS (lv_sub hl [] rfl)
