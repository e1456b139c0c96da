set_option maxHeartbeats 4000000 in
set_option maxRecDepth 100000 in
theorem c_EQ_columns (l : Launch) (dC : Nat → ClassId) (dI : Nat → Nat → Nat) (h0 : Nat) (e0 : Nat) (e1 : Nat) (e2 : Nat) (e3 : Nat) (e4 : Nat) : Met l y_EQ_columns (Cond.code y_EQ_columns b_EQ_columns 1 (Option.some Jvm.ClassFile.FieldType.int) :: wd) { frames := 0, cells := 0, slots := 0, locals := 0 } (va_Pc [.ref h0] (fun U => va_P (dC, dI) cls [(h0, .inr (4, [.ref e0, .ref e1, .ref e2, .ref e3, .ref e4, .int 0, .int 0, .int 0]))] U.heap ∧ va_K (dC, dI) cls [] U ∧ nw_ok U)) (va_Qi (fun r (_ : Unit) => r = 0) (fun _ _ => True) (fun _ => False)) 0 0 (fun _ => False) := by
  refine Met.ofW (cc := b_EQ_columns) (maxL := 1) (ret := (Option.some Jvm.ClassFile.FieldType.int)) (by decide) rfl ?_
  intro p e s m args below meth c s₁ B hml hv
  obtain ⟨rfl, hP, hK, hN⟩ := hv
  have hx := B.exec
  have hb := B.bytes
  have hr := B.returns
  have hlocks := B.notSynchronized
  have hts : ∀ w ∈ wd, w.before ([.ref h0] : List Value).toArray s = true := fun w hw => atoms_spec (ws := (Cond.code y_EQ_columns b_EQ_columns 1 (Option.some Jvm.ClassFile.FieldType.int) :: wd)) B.pre w (List.mem_cons_of_mem _ hw)
  have hown : s.vm.findClass "LeastSolutions$Equations" = some m.cls := findClass_of_methodNamed B.named
  have hS : va_S (fun _ => False) s.heap s.heap [] := va_S.rf
  have hl := lv_entry ([.ref h0]) (n := 1) (Nat.le_of_ble_eq_true rfl)
  rw [lg_entry_eq]
  generalize (lg_sl ([.ref h0]) ++ List.replicate (1 - (lg_sl ([.ref h0])).length) Slot.unset).toArray = ls at hl ⊢
  have hl : lv_has ls 1 [(0, .ref h0)] := hl
  refine lv_aload_n hx hb d_EQ_columns_0 rfl (lv_at hl 0 rfl) ?_
  refine va_get (D := (dC, dI)) (ci := 4) (v := .int 0) (C := R_EQ) (T := T_EQ) (N := 8) hx hb hts in_EQ hown hK hP 0 rfl rfl 6 (by decide) (hts _ k_113) (fun _ h9 => h9) rfl d_EQ_columns_1 ?_
  refine lv_aload_n hx hb d_EQ_columns_4 rfl (lv_at hl 0 rfl) ?_
  refine va_get (D := (dC, dI)) (ci := 4) (v := .int 0) (C := R_EQ) (T := T_EQ) (N := 8) hx hb hts in_EQ hown hK hP 0 rfl rfl 7 (by decide) (hts _ k_115) (fun _ h9 => h9) rfl d_EQ_columns_5 ?_
  refine lv_iadd hx hb d_EQ_columns_8 ?_
  refine W.eq (g2 := F0 m 9 ls [.int 0]) rfl ?_
  exact W.iret (v := 0) hx hb hr (fun t ht hW => ⟨⟨0, (), rfl, rfl, trivial⟩, hS.F ht⟩) hS.2.2 d_EQ_columns_9

set_option maxHeartbeats 4000000 in
set_option maxRecDepth 100000 in
theorem c_VL_has (l : Launch) (dC : Nat → ClassId) (dI : Nat → Nat → Nat) (h0 : Nat) (n0 : Nat) (i : Int32) : Met l y_VL_has (Cond.code y_VL_has b_VL_has 2 (Option.some Jvm.ClassFile.FieldType.boolean) :: wd) { frames := 0, cells := 0, slots := 0, locals := 0 } (va_Pc [.ref h0, .int i] (fun U => va_P (dC, dI) cls [(h0, .inr (7, [.ref n0, .int 0, .int 0, .int 0, .int 0, .int 0]))] U.heap ∧ va_K (dC, dI) cls [] U ∧ nw_ok U)) (va_Qi (fun r (_ : Unit) => r = 0) (fun _ _ => True) (fun _ => False)) 0 0 (fun _ => False) := by
  refine Met.ofW (cc := b_VL_has) (maxL := 2) (ret := (Option.some Jvm.ClassFile.FieldType.boolean)) (by decide) rfl ?_
  intro p e s m args below meth c s₁ B hml hv
  obtain ⟨rfl, hP, hK, hN⟩ := hv
  have hx := B.exec
  have hb := B.bytes
  have hr := B.returns
  have hlocks := B.notSynchronized
  have hts : ∀ w ∈ wd, w.before ([.ref h0, .int i] : List Value).toArray s = true := fun w hw => atoms_spec (ws := (Cond.code y_VL_has b_VL_has 2 (Option.some Jvm.ClassFile.FieldType.boolean) :: wd)) B.pre w (List.mem_cons_of_mem _ hw)
  have hown : s.vm.findClass "LeastSolutions$VectorList" = some m.cls := findClass_of_methodNamed B.named
  have hS : va_S (fun _ => False) s.heap s.heap [] := va_S.rf
  have hl := lv_entry ([.ref h0, .int i]) (n := 2) (Nat.le_of_ble_eq_true rfl)
  rw [lg_entry_eq]
  generalize (lg_sl ([.ref h0, .int i]) ++ List.replicate (2 - (lg_sl ([.ref h0, .int i])).length) Slot.unset).toArray = ls at hl ⊢
  have hl : lv_has ls 2 [(0, .ref h0), (1, .int i)] := hl
  refine lv_aload_n hx hb d_VL_has_0 rfl (lv_at hl 0 rfl) ?_
  refine va_get (D := (dC, dI)) (ci := 7) (v := .int 0) (C := R_VL) (T := T_VL) (N := 6) hx hb hts in_VL hown hK hP 0 rfl rfl 1 (by decide) (hts _ k_268) (fun _ h9 => h9) rfl d_VL_has_1 ?_
  refine lv_if_eq (tgt := 23) hx hb d_VL_has_4 (by decide) (fun _ => ?_) (fun h9 => absurd (by decide) h9)
  refine lv_iconst (v := 0) hx hb d_VL_has_23 (by decide) ?_
  exact W.zret (v := 0) (ty := .boolean) hx hb hr (by decide +kernel) (fun t ht hW => ⟨⟨0, (), rfl, rfl, trivial⟩, hS.F ht⟩) hS.2.2 d_VL_has_24

set_option maxHeartbeats 4000000 in
set_option maxRecDepth 100000 in
theorem c_LS_place (l : Launch) (dC : Nat → ClassId) (dI : Nat → Nat → Nat) (h0 : Nat) (aT : Nat) (aW : Nat) (aB : Nat) (aL : Nat) (aS : Nat) (aV : Nat) (aC : Nat) (a7 : Nat) (a8 : Nat) (a9 : Nat) (a10 : Nat) (aE : Nat) : Met l y_LS_place (Cond.code y_LS_place b_LS_place 1 (Option.some Jvm.ClassFile.FieldType.int) :: wd) { frames := 0, cells := 0, slots := 0, locals := 0 } (va_Pc [.ref h0] (fun U => va_P (dC, dI) cls [(h0, .inr (0, [.ref aT, .ref aW, .ref aB, .ref aL, .ref aS, .ref aV, .ref aC, .ref a7, .ref a8, .ref a9, .ref a10, .ref aE, .int 0, .int 0, .int 0, .int (-1)]))] U.heap ∧ va_K (dC, dI) cls [] U ∧ nw_ok U)) (va_Qi (fun r (_ : Unit) => r = (-1)) (fun _ _ => True) (fun _ => False)) 0 0 (fun _ => False) := by
  refine Met.ofW (cc := b_LS_place) (maxL := 1) (ret := (Option.some Jvm.ClassFile.FieldType.int)) (by decide) rfl ?_
  intro p e s m args below meth c s₁ B hml hv
  obtain ⟨rfl, hP, hK, hN⟩ := hv
  have hx := B.exec
  have hb := B.bytes
  have hr := B.returns
  have hlocks := B.notSynchronized
  have hts : ∀ w ∈ wd, w.before ([.ref h0] : List Value).toArray s = true := fun w hw => atoms_spec (ws := (Cond.code y_LS_place b_LS_place 1 (Option.some Jvm.ClassFile.FieldType.int) :: wd)) B.pre w (List.mem_cons_of_mem _ hw)
  have hown : s.vm.findClass "LeastSolutions" = some m.cls := findClass_of_methodNamed B.named
  have hS : va_S (fun _ => False) s.heap s.heap [] := va_S.rf
  have hl := lv_entry ([.ref h0]) (n := 1) (Nat.le_of_ble_eq_true rfl)
  rw [lg_entry_eq]
  generalize (lg_sl ([.ref h0]) ++ List.replicate (1 - (lg_sl ([.ref h0])).length) Slot.unset).toArray = ls at hl ⊢
  have hl : lv_has ls 1 [(0, .ref h0)] := hl
  refine lv_aload_n hx hb d_LS_place_0 rfl (lv_at hl 0 rfl) ?_
  refine va_get (D := (dC, dI)) (ci := 0) (v := .int (-1)) (C := R_LS) (T := T_LS) (N := 16) hx hb hts in_LS hown hK hP 0 rfl rfl 15 (by decide) (hts _ k_304) (fun _ h9 => h9) rfl d_LS_place_1 ?_
  exact W.iret (v := (-1)) hx hb hr (fun t ht hW => ⟨⟨(-1), (), rfl, rfl, trivial⟩, hS.F ht⟩) hS.2.2 d_LS_place_4

set_option maxHeartbeats 4000000 in
set_option maxRecDepth 100000 in
theorem c_LS_count (l : Launch) (dC : Nat → ClassId) (dI : Nat → Nat → Nat) (h0 : Nat) (aT : Nat) (aW : Nat) (aB : Nat) (aL : Nat) (aS : Nat) (aV : Nat) (aC : Nat) (a7 : Nat) (a8 : Nat) (a9 : Nat) (a10 : Nat) (aE : Nat) (what : Int32) : Met l y_LS_count (Cond.code y_LS_count b_LS_count 2 (Option.some Jvm.ClassFile.FieldType.int) :: wd) { frames := 0, cells := 0, slots := 0, locals := 0 } (va_Pc [.ref h0, .int what] (fun U => va_P (dC, dI) cls [(h0, .inr (0, [.ref aT, .ref aW, .ref aB, .ref aL, .ref aS, .ref aV, .ref aC, .ref a7, .ref a8, .ref a9, .ref a10, .ref aE, .int 0, .int 0, .int 0, .int (-1)]))] U.heap ∧ va_K (dC, dI) cls [] U ∧ nw_ok U)) (va_Qi (fun r (_ : Unit) => r = (-1)) (fun _ _ => True) (fun _ => False)) 0 0 (fun _ => False) := by
  refine Met.ofW (cc := b_LS_count) (maxL := 2) (ret := (Option.some Jvm.ClassFile.FieldType.int)) (by decide) rfl ?_
  intro p e s m args below meth c s₁ B hml hv
  obtain ⟨rfl, hP, hK, hN⟩ := hv
  have hx := B.exec
  have hb := B.bytes
  have hr := B.returns
  have hlocks := B.notSynchronized
  have hts : ∀ w ∈ wd, w.before ([.ref h0, .int what] : List Value).toArray s = true := fun w hw => atoms_spec (ws := (Cond.code y_LS_count b_LS_count 2 (Option.some Jvm.ClassFile.FieldType.int) :: wd)) B.pre w (List.mem_cons_of_mem _ hw)
  have hown : s.vm.findClass "LeastSolutions" = some m.cls := findClass_of_methodNamed B.named
  have hS : va_S (fun _ => False) s.heap s.heap [] := va_S.rf
  have hl := lv_entry ([.ref h0, .int what]) (n := 2) (Nat.le_of_ble_eq_true rfl)
  rw [lg_entry_eq]
  generalize (lg_sl ([.ref h0, .int what]) ++ List.replicate (2 - (lg_sl ([.ref h0, .int what])).length) Slot.unset).toArray = ls at hl ⊢
  have hl : lv_has ls 2 [(0, .ref h0), (1, .int what)] := hl
  refine lv_aload_n hx hb d_LS_count_0 rfl (lv_at hl 0 rfl) ?_
  refine va_get (D := (dC, dI)) (ci := 0) (v := .int 0) (C := R_LS) (T := T_LS) (N := 16) hx hb hts in_LS hown hK hP 0 rfl rfl 12 (by decide) (hts _ k_301) (fun _ h9 => h9) rfl d_LS_count_1 ?_
  refine lv_if_ne (tgt := 9) hx hb d_LS_count_4 (by decide) (fun h9 => absurd (by decide) h9) (fun _ => ?_)
  refine lv_iconst (v := (-1)) hx hb d_LS_count_7 (by decide) ?_
  exact W.iret (v := (-1)) hx hb hr (fun t ht hW => ⟨⟨(-1), (), rfl, rfl, trivial⟩, hS.F ht⟩) hS.2.2 d_LS_count_8

set_option maxHeartbeats 4000000 in
set_option maxRecDepth 100000 in
theorem c_LS_letter (l : Launch) (dC : Nat → ClassId) (dI : Nat → Nat → Nat) (h0 : Nat) (aT : Nat) (aW : Nat) (aB : Nat) (aL : Nat) (aS : Nat) (aV : Nat) (aC : Nat) (a7 : Nat) (a8 : Nat) (a9 : Nat) (a10 : Nat) (aE : Nat) (e0 : Nat) (e1 : Nat) (e2 : Nat) (e3 : Nat) (e4 : Nat) (column : Int32) : Met l y_LS_letter (Cond.code y_LS_letter b_LS_letter 2 (Option.some Jvm.ClassFile.FieldType.int) :: wd) { frames := 0, cells := 0, slots := 0, locals := 0 } (va_Pc [.ref h0, .int column] (fun U => va_P (dC, dI) cls [(h0, .inr (0, [.ref aT, .ref aW, .ref aB, .ref aL, .ref aS, .ref aV, .ref aC, .ref a7, .ref a8, .ref a9, .ref a10, .ref aE, .int 0, .int 0, .int 0, .int (-1)])), (aE, .inr (4, [.ref e0, .ref e1, .ref e2, .ref e3, .ref e4, .int 0, .int 0, .int 0]))] U.heap ∧ va_K (dC, dI) cls [] U ∧ nw_ok U)) (va_Qi (fun r (_ : Unit) => r = (-1)) (fun _ _ => True) (fun _ => False)) 0 0 (fun _ => False) := by
  refine Met.ofW (cc := b_LS_letter) (maxL := 2) (ret := (Option.some Jvm.ClassFile.FieldType.int)) (by decide) rfl ?_
  intro p e s m args below meth c s₁ B hml hv
  obtain ⟨rfl, hP, hK, hN⟩ := hv
  have hx := B.exec
  have hb := B.bytes
  have hr := B.returns
  have hlocks := B.notSynchronized
  have hts : ∀ w ∈ wd, w.before ([.ref h0, .int column] : List Value).toArray s = true := fun w hw => atoms_spec (ws := (Cond.code y_LS_letter b_LS_letter 2 (Option.some Jvm.ClassFile.FieldType.int) :: wd)) B.pre w (List.mem_cons_of_mem _ hw)
  have hown : s.vm.findClass "LeastSolutions" = some m.cls := findClass_of_methodNamed B.named
  have hS : va_S (fun _ => False) s.heap s.heap [] := va_S.rf
  have hl := lv_entry ([.ref h0, .int column]) (n := 2) (Nat.le_of_ble_eq_true rfl)
  rw [lg_entry_eq]
  generalize (lg_sl ([.ref h0, .int column]) ++ List.replicate (2 - (lg_sl ([.ref h0, .int column])).length) Slot.unset).toArray = ls at hl ⊢
  have hl : lv_has ls 2 [(0, .ref h0), (1, .int column)] := hl
  refine lv_iload_n hx hb d_LS_letter_0 rfl (lv_at hl 1 rfl) ?_
  refine lv_if_lt (tgt := 27) hx hb d_LS_letter_1 (by decide) (fun hc1 => ?_) (fun hc1 => ?_)
  · refine lv_iconst (v := (-1)) hx hb d_LS_letter_27 (by decide) ?_
    exact W.iret (v := (-1)) hx hb hr (fun t ht hW => ⟨⟨(-1), (), rfl, rfl, trivial⟩, hS.F ht⟩) hS.2.2 d_LS_letter_28
  · refine lv_iload_n hx hb d_LS_letter_4 rfl (lv_at hl 1 rfl) ?_
    refine lv_aload_n hx hb d_LS_letter_5 rfl (lv_at hl 0 rfl) ?_
    refine va_get (D := (dC, dI)) (ci := 0) (v := .ref aE) (C := R_LS) (T := T_LS) (N := 16) hx hb hts in_LS hown hK hP 0 rfl rfl 11 (by decide) (hts _ k_300) (fun _ h9 => h9) rfl d_LS_letter_6 ?_
    refine va_getN (D := (dC, dI)) (ci := 4) (v := .int 0) (C := R_EQ) (T := T_EQ) (N := 8) hx hb hts in_EQ hown hK hP 1 rfl rfl 6 (by decide) (va_Nw.use rfl (hN.1 (Jvm.Cond.fieldLinkNest "LeastSolutions" (112 : Nat) "LeastSolutions$Equations" "variables" "I" "LeastSolutions") nw_24)) (fun _ h9 => h9) rfl d_LS_letter_9 ?_
    refine lv_icmp_ge (tgt := 27) hx hb d_LS_letter_12 (by decide) (fun _ => ?_) (fun h9 => absurd (Int32.not_lt.mp hc1) h9)
    refine lv_iconst (v := (-1)) hx hb d_LS_letter_27 (by decide) ?_
    exact W.iret (v := (-1)) hx hb hr (fun t ht hW => ⟨⟨(-1), (), rfl, rfl, trivial⟩, hS.F ht⟩) hS.2.2 d_LS_letter_28

set_option maxHeartbeats 4000000 in
set_option maxRecDepth 100000 in
theorem c_LS_times (l : Launch) (dC : Nat → ClassId) (dI : Nat → Nat → Nat) (h0 : Nat) (aT : Nat) (aW : Nat) (aB : Nat) (aL : Nat) (aS : Nat) (aV : Nat) (aC : Nat) (a7 : Nat) (a8 : Nat) (a9 : Nat) (a10 : Nat) (aE : Nat) (i : Int32) : Met l y_LS_times (Cond.code y_LS_times b_LS_times 2 (Option.some Jvm.ClassFile.FieldType.int) :: wd) { frames := 0, cells := 0, slots := 0, locals := 0 } (va_Pc [.ref h0, .int i] (fun U => va_P (dC, dI) cls [(h0, .inr (0, [.ref aT, .ref aW, .ref aB, .ref aL, .ref aS, .ref aV, .ref aC, .ref a7, .ref a8, .ref a9, .ref a10, .ref aE, .int 0, .int 0, .int 0, .int (-1)]))] U.heap ∧ va_K (dC, dI) cls [] U ∧ nw_ok U)) (va_Qi (fun r (_ : Unit) => r = (-1)) (fun _ _ => True) (fun _ => False)) 0 0 (fun _ => False) := by
  refine Met.ofW (cc := b_LS_times) (maxL := 2) (ret := (Option.some Jvm.ClassFile.FieldType.int)) (by decide) rfl ?_
  intro p e s m args below meth c s₁ B hml hv
  obtain ⟨rfl, hP, hK, hN⟩ := hv
  have hx := B.exec
  have hb := B.bytes
  have hr := B.returns
  have hlocks := B.notSynchronized
  have hts : ∀ w ∈ wd, w.before ([.ref h0, .int i] : List Value).toArray s = true := fun w hw => atoms_spec (ws := (Cond.code y_LS_times b_LS_times 2 (Option.some Jvm.ClassFile.FieldType.int) :: wd)) B.pre w (List.mem_cons_of_mem _ hw)
  have hown : s.vm.findClass "LeastSolutions" = some m.cls := findClass_of_methodNamed B.named
  have hS : va_S (fun _ => False) s.heap s.heap [] := va_S.rf
  have hl := lv_entry ([.ref h0, .int i]) (n := 2) (Nat.le_of_ble_eq_true rfl)
  rw [lg_entry_eq]
  generalize (lg_sl ([.ref h0, .int i]) ++ List.replicate (2 - (lg_sl ([.ref h0, .int i])).length) Slot.unset).toArray = ls at hl ⊢
  have hl : lv_has ls 2 [(0, .ref h0), (1, .int i)] := hl
  refine lv_aload_n hx hb d_LS_times_0 rfl (lv_at hl 0 rfl) ?_
  refine va_get (D := (dC, dI)) (ci := 0) (v := .int 0) (C := R_LS) (T := T_LS) (N := 16) hx hb hts in_LS hown hK hP 0 rfl rfl 13 (by decide) (hts _ k_302) (fun _ h9 => h9) rfl d_LS_times_1 ?_
  refine lv_if_eq (tgt := 29) hx hb d_LS_times_4 (by decide) (fun _ => ?_) (fun h9 => absurd (by decide) h9)
  refine lv_iconst (v := (-1)) hx hb d_LS_times_29 (by decide) ?_
  exact W.iret (v := (-1)) hx hb hr (fun t ht hW => ⟨⟨(-1), (), rfl, rfl, trivial⟩, hS.F ht⟩) hS.2.2 d_LS_times_30

set_option maxHeartbeats 4000000 in
set_option maxRecDepth 100000 in
theorem c_LS_bestAt (l : Launch) (dC : Nat → ClassId) (dI : Nat → Nat → Nat) (h0 : Nat) (aT : Nat) (aW : Nat) (aB : Nat) (aL : Nat) (aS : Nat) (aV : Nat) (aC : Nat) (a7 : Nat) (a8 : Nat) (a9 : Nat) (a10 : Nat) (aE : Nat) (column : Int32) : Met l y_LS_bestAt (Cond.code y_LS_bestAt b_LS_bestAt 2 (Option.some Jvm.ClassFile.FieldType.int) :: wd) { frames := 0, cells := 0, slots := 0, locals := 0 } (va_Pc [.ref h0, .int column] (fun U => va_P (dC, dI) cls [(h0, .inr (0, [.ref aT, .ref aW, .ref aB, .ref aL, .ref aS, .ref aV, .ref aC, .ref a7, .ref a8, .ref a9, .ref a10, .ref aE, .int 0, .int 0, .int 0, .int (-1)]))] U.heap ∧ va_K (dC, dI) cls [] U ∧ nw_ok U)) (va_Qi (fun r (_ : Unit) => r = (-1)) (fun _ _ => True) (fun _ => False)) 0 0 (fun _ => False) := by
  refine Met.ofW (cc := b_LS_bestAt) (maxL := 2) (ret := (Option.some Jvm.ClassFile.FieldType.int)) (by decide) rfl ?_
  intro p e s m args below meth c s₁ B hml hv
  obtain ⟨rfl, hP, hK, hN⟩ := hv
  have hx := B.exec
  have hb := B.bytes
  have hr := B.returns
  have hlocks := B.notSynchronized
  have hts : ∀ w ∈ wd, w.before ([.ref h0, .int column] : List Value).toArray s = true := fun w hw => atoms_spec (ws := (Cond.code y_LS_bestAt b_LS_bestAt 2 (Option.some Jvm.ClassFile.FieldType.int) :: wd)) B.pre w (List.mem_cons_of_mem _ hw)
  have hown : s.vm.findClass "LeastSolutions" = some m.cls := findClass_of_methodNamed B.named
  have hS : va_S (fun _ => False) s.heap s.heap [] := va_S.rf
  have hl := lv_entry ([.ref h0, .int column]) (n := 2) (Nat.le_of_ble_eq_true rfl)
  rw [lg_entry_eq]
  generalize (lg_sl ([.ref h0, .int column]) ++ List.replicate (2 - (lg_sl ([.ref h0, .int column])).length) Slot.unset).toArray = ls at hl ⊢
  have hl : lv_has ls 2 [(0, .ref h0), (1, .int column)] := hl
  refine lv_aload_n hx hb d_LS_bestAt_0 rfl (lv_at hl 0 rfl) ?_
  refine va_get (D := (dC, dI)) (ci := 0) (v := .int 0) (C := R_LS) (T := T_LS) (N := 16) hx hb hts in_LS hown hK hP 0 rfl rfl 14 (by decide) (hts _ k_303) (fun _ h9 => h9) rfl d_LS_bestAt_1 ?_
  refine lv_if_eq (tgt := 24) hx hb d_LS_bestAt_4 (by decide) (fun _ => ?_) (fun h9 => absurd (by decide) h9)
  refine lv_iconst (v := (-1)) hx hb d_LS_bestAt_24 (by decide) ?_
  exact W.iret (v := (-1)) hx hb hr (fun t ht hW => ⟨⟨(-1), (), rfl, rfl, trivial⟩, hS.F ht⟩) hS.2.2 d_LS_bestAt_25

set_option maxHeartbeats 4000000 in
set_option maxRecDepth 100000 in
theorem c_LS_hasColumn (l : Launch) (dC : Nat → ClassId) (dI : Nat → Nat → Nat) (h0 : Nat) (aT : Nat) (aW : Nat) (aB : Nat) (aL : Nat) (aS : Nat) (aV : Nat) (aC : Nat) (a7 : Nat) (a8 : Nat) (a9 : Nat) (a10 : Nat) (aE : Nat) (e0 : Nat) (e1 : Nat) (e2 : Nat) (e3 : Nat) (e4 : Nat) (column : Int32) : Met l y_LS_hasColumn (Cond.code y_LS_hasColumn b_LS_hasColumn 2 (Option.some Jvm.ClassFile.FieldType.boolean) :: wd) { frames := 1, cells := 0, slots := 0, locals := 20 } (va_Pc [.ref h0, .int column] (fun U => va_P (dC, dI) cls [(h0, .inr (0, [.ref aT, .ref aW, .ref aB, .ref aL, .ref aS, .ref aV, .ref aC, .ref a7, .ref a8, .ref a9, .ref a10, .ref aE, .int 0, .int 0, .int 0, .int (-1)])), (aE, .inr (4, [.ref e0, .ref e1, .ref e2, .ref e3, .ref e4, .int 0, .int 0, .int 0]))] U.heap ∧ va_K (dC, dI) cls [] U ∧ nw_ok U)) (va_Qi (fun r (_ : Unit) => r = 0) (fun _ _ => True) (fun _ => False)) 0 0 (fun _ => False) := by
  refine Met.ofW (cc := b_LS_hasColumn) (maxL := 2) (ret := (Option.some Jvm.ClassFile.FieldType.boolean)) (by decide) rfl ?_
  intro p e s m args below meth c s₁ B hml hv
  obtain ⟨rfl, hP, hK, hN⟩ := hv
  have hx := B.exec
  have hb := B.bytes
  have hr := B.returns
  have hlocks := B.notSynchronized
  have hts : ∀ w ∈ wd, w.before ([.ref h0, .int column] : List Value).toArray s = true := fun w hw => atoms_spec (ws := (Cond.code y_LS_hasColumn b_LS_hasColumn 2 (Option.some Jvm.ClassFile.FieldType.boolean) :: wd)) B.pre w (List.mem_cons_of_mem _ hw)
  have hown : s.vm.findClass "LeastSolutions" = some m.cls := findClass_of_methodNamed B.named
  have hS : va_S (fun _ => False) s.heap s.heap [] := va_S.rf
  have hl := lv_entry ([.ref h0, .int column]) (n := 2) (Nat.le_of_ble_eq_true rfl)
  rw [lg_entry_eq]
  generalize (lg_sl ([.ref h0, .int column]) ++ List.replicate (2 - (lg_sl ([.ref h0, .int column])).length) Slot.unset).toArray = ls at hl ⊢
  have hl : lv_has ls 2 [(0, .ref h0), (1, .int column)] := hl
  refine lv_iload_n hx hb d_LS_hasColumn_0 rfl (lv_at hl 1 rfl) ?_
  refine lv_if_lt (tgt := 19) hx hb d_LS_hasColumn_1 (by decide) (fun hc1 => ?_) (fun hc1 => ?_)
  · refine lv_iconst (v := 0) hx hb d_LS_hasColumn_19 (by decide) ?_
    exact W.zret (v := 0) (ty := .boolean) hx hb hr (by decide +kernel) (fun t ht hW => ⟨⟨0, (), rfl, rfl, trivial⟩, hS.F ht⟩) hS.2.2 d_LS_hasColumn_20
  · refine lv_iload_n hx hb d_LS_hasColumn_4 rfl (lv_at hl 1 rfl) ?_
    refine lv_aload_n hx hb d_LS_hasColumn_5 rfl (lv_at hl 0 rfl) ?_
    refine va_get (D := (dC, dI)) (ci := 0) (v := .ref aE) (C := R_LS) (T := T_LS) (N := 16) hx hb hts in_LS hown hK hP 0 rfl rfl 11 (by decide) (hts _ k_300) (fun _ h9 => h9) rfl d_LS_hasColumn_6 ?_
    refine pu_calli (va_runV (As := []) (rest := [.int column]) ⟨hx, hb, hml, hown, hts⟩ (c_EQ_columns l dC dI (aE) (e0) (e1) (e2) (e3) (e4)) (wd_V (C := "LeastSolutions$Equations") 0 hts k_440 k_5 k_534 k_438 k_439 rfl rfl (by decide +kernel) ⟨Nat.le_of_ble_eq_true rfl, Nat.le_of_ble_eq_true rfl⟩) ⟨fun a U g mk q => by obtain ⟨q0, qP, qK, qN⟩ := q; exact ⟨q0, qP, va_K.moved (u := U) (U := U.calling g mk a) (Vm.Alike.refl U.vm) qK, nw_ok.same (s := U) (U := U.calling g mk a) rfl qN⟩, va_recv (ci := 4) (q0 := 1) hK hP rfl rfl, fun U hU hW => ⟨rfl, by rw [hU]; exact hP.sub (ws' := [(aE, .inr (4, [.ref e0, .ref e1, .ref e2, .ref e3, .ref e4, .int 0, .int 0, .int 0]))]) [1] rfl, va_K.moved hW.alike (hK.sub (tys' := []) [] rfl), nw_ok.warm hW hN⟩⟩ rfl rfl hl.1 rfl (lv_room (Nat.le_of_ble_eq_true rfl)) d_LS_hasColumn_9 ⟨Nat.le_of_ble_eq_true rfl, Nat.le_of_ble_eq_true rfl⟩) (fun r1 hr1 => ?_)
    try dsimp only at hr1
    subst hr1
    refine lv_icmp_ge (tgt := 19) hx hb d_LS_hasColumn_12 (by decide) (fun _ => ?_) (fun h9 => absurd (Int32.not_lt.mp hc1) h9)
    refine lv_iconst (v := 0) hx hb d_LS_hasColumn_19 (by decide) ?_
    exact W.zret (v := 0) (ty := .boolean) hx hb hr (by decide +kernel) (fun t ht hW => ⟨⟨0, (), rfl, rfl, trivial⟩, hS.F ht⟩) hS.2.2 d_LS_hasColumn_20

set_option maxHeartbeats 4000000 in
set_option maxRecDepth 100000 in
theorem c_LS_needColumn (l : Launch) (htr : l.stackTraces = false) (dC : Nat → ClassId) (dI : Nat → Nat → Nat) (h0 : Nat) (aT : Nat) (aW : Nat) (aB : Nat) (aL : Nat) (aS : Nat) (aV : Nat) (aC : Nat) (a7 : Nat) (a8 : Nat) (a9 : Nat) (a10 : Nat) (aE : Nat) (e0 : Nat) (e1 : Nat) (e2 : Nat) (e3 : Nat) (e4 : Nat) (column : Int32) : xt_Met l y_LS_needColumn (Cond.code y_LS_needColumn b_LS_needColumn 2 (Option.none : Option Jvm.ClassFile.FieldType) :: wd) { frames := 6, cells := 1, slots := 6, locals := 100 } (va_Pc [.ref h0, .int column] (fun U => va_P (dC, dI) cls [(h0, .inr (0, [.ref aT, .ref aW, .ref aB, .ref aL, .ref aS, .ref aV, .ref aC, .ref a7, .ref a8, .ref a9, .ref a10, .ref aE, .int 0, .int 0, .int 0, .int (-1)])), (aE, .inr (4, [.ref e0, .ref e1, .ref e2, .ref e3, .ref e4, .int 0, .int 0, .int 0]))] U.heap ∧ va_K (dC, dI) cls [] U ∧ nw_ok U ∧ xs_ok U)) (fun _ st x t => xt_X "java/lang/IndexOutOfBoundsException" st x t) 1 6 (fun _ => False) := by
  refine xt_ofW (cc := b_LS_needColumn) (maxL := 2) (ret := (Option.none : Option Jvm.ClassFile.FieldType)) (by decide) rfl ?_
  intro p e s m args below meth c s₁ B hml hne hv
  obtain ⟨rfl, hP, hK, hN, hX⟩ := hv
  have hx := B.exec
  have hb := B.bytes
  have hr := B.returns
  have hlocks := B.notSynchronized
  have hts : ∀ w ∈ wd, w.before ([.ref h0, .int column] : List Value).toArray s = true := fun w hw => atoms_spec (ws := (Cond.code y_LS_needColumn b_LS_needColumn 2 (Option.none : Option Jvm.ClassFile.FieldType) :: wd)) B.pre w (List.mem_cons_of_mem _ hw)
  have hown : s.vm.findClass "LeastSolutions" = some m.cls := findClass_of_methodNamed B.named
  have hS : va_S (fun _ => False) s.heap s.heap [] := va_S.rf
  have hl := lv_entry ([.ref h0, .int column]) (n := 2) (Nat.le_of_ble_eq_true rfl)
  rw [lg_entry_eq]
  generalize (lg_sl ([.ref h0, .int column]) ++ List.replicate (2 - (lg_sl ([.ref h0, .int column])).length) Slot.unset).toArray = ls at hl ⊢
  have hl : lv_has ls 2 [(0, .ref h0), (1, .int column)] := hl
  refine lv_aload_n hx hb d_LS_needColumn_0 rfl (lv_at hl 0 rfl) ?_
  refine lv_iload_n hx hb d_LS_needColumn_1 rfl (lv_at hl 1 rfl) ?_
  refine pu_calli (va_runV (As := [.int column]) (rest := []) ⟨hx, hb, hml, hown, hts⟩ (c_LS_hasColumn l dC dI (h0) (aT) (aW) (aB) (aL) (aS) (aV) (aC) (a7) (a8) (a9) (a10) (aE) (e0) (e1) (e2) (e3) (e4) (column)) (wd_V (C := "LeastSolutions") 1 hts k_597 k_1 k_594 k_596 ks_LS_hasColumn rfl rfl (by decide +kernel) ⟨Nat.le_of_ble_eq_true rfl, Nat.le_of_ble_eq_true rfl⟩) ⟨fun a U g mk q => by obtain ⟨q0, qP, qK, qN⟩ := q; exact ⟨q0, qP, va_K.moved (u := U) (U := U.calling g mk a) (Vm.Alike.refl U.vm) qK, nw_ok.same (s := U) (U := U.calling g mk a) rfl qN⟩, va_recv (ci := 0) (q0 := 0) hK hP rfl rfl, fun U hU hW => ⟨rfl, by rw [hU]; exact hP.sub (ws' := [(h0, .inr (0, [.ref aT, .ref aW, .ref aB, .ref aL, .ref aS, .ref aV, .ref aC, .ref a7, .ref a8, .ref a9, .ref a10, .ref aE, .int 0, .int 0, .int 0, .int (-1)])), (aE, .inr (4, [.ref e0, .ref e1, .ref e2, .ref e3, .ref e4, .int 0, .int 0, .int 0]))]) [0, 1] rfl, va_K.moved hW.alike (hK.sub (tys' := []) [] rfl), nw_ok.warm hW hN⟩⟩ rfl rfl hl.1 rfl (lv_room (Nat.le_of_ble_eq_true rfl)) d_LS_needColumn_2 ⟨Nat.le_of_ble_eq_true rfl, Nat.le_of_ble_eq_true rfl⟩) (fun r1 hr1 => ?_)
  try dsimp only at hr1
  subst hr1
  refine lv_if_ne (tgt := 16) hx hb d_LS_needColumn_5 (by decide) (fun h9 => absurd (by decide) h9) (fun _ => ?_)
  exact xt_throw (names := ["java/lang/RuntimeException", "java/lang/Exception"]) (ia := 118) (ic := 120) hx hb htr hml hl hne hlocks hown (by decide +kernel) (by decide +kernel) (hts _ k_606) (hts _ k_17) (oa_IOOBE hts hX) d_LS_needColumn_8 d_LS_needColumn_11 d_LS_needColumn_12 d_LS_needColumn_15 (Nat.le_of_ble_eq_true rfl) (Nat.le_of_ble_eq_true rfl) (Nat.le_of_ble_eq_true rfl) (Nat.le_of_ble_eq_true rfl)

set_option maxHeartbeats 4000000 in
set_option maxRecDepth 100000 in
theorem c_LS_needSystem (l : Launch) (htr : l.stackTraces = false) (dC : Nat → ClassId) (dI : Nat → Nat → Nat) (h0 : Nat) (aT : Nat) (aW : Nat) (aB : Nat) (aL : Nat) (aS : Nat) (aV : Nat) (aC : Nat) (a7 : Nat) (a8 : Nat) (a9 : Nat) (a10 : Nat) (aE : Nat) : xt_Met l y_LS_needSystem (Cond.code y_LS_needSystem b_LS_needSystem 1 (Option.none : Option Jvm.ClassFile.FieldType) :: wd) { frames := 6, cells := 1, slots := 6, locals := 100 } (va_Pc [.ref h0] (fun U => va_P (dC, dI) cls [(h0, .inr (0, [.ref aT, .ref aW, .ref aB, .ref aL, .ref aS, .ref aV, .ref aC, .ref a7, .ref a8, .ref a9, .ref a10, .ref aE, .int 0, .int 0, .int 0, .int (-1)]))] U.heap ∧ va_K (dC, dI) cls [] U ∧ nw_ok U ∧ xs_ok U)) (fun _ st x t => xt_X "java/lang/IllegalStateException" st x t) 1 6 (fun _ => False) := by
  refine xt_ofW (cc := b_LS_needSystem) (maxL := 1) (ret := (Option.none : Option Jvm.ClassFile.FieldType)) (by decide) rfl ?_
  intro p e s m args below meth c s₁ B hml hne hv
  obtain ⟨rfl, hP, hK, hN, hX⟩ := hv
  have hx := B.exec
  have hb := B.bytes
  have hr := B.returns
  have hlocks := B.notSynchronized
  have hts : ∀ w ∈ wd, w.before ([.ref h0] : List Value).toArray s = true := fun w hw => atoms_spec (ws := (Cond.code y_LS_needSystem b_LS_needSystem 1 (Option.none : Option Jvm.ClassFile.FieldType) :: wd)) B.pre w (List.mem_cons_of_mem _ hw)
  have hown : s.vm.findClass "LeastSolutions" = some m.cls := findClass_of_methodNamed B.named
  have hS : va_S (fun _ => False) s.heap s.heap [] := va_S.rf
  have hl := lv_entry ([.ref h0]) (n := 1) (Nat.le_of_ble_eq_true rfl)
  rw [lg_entry_eq]
  generalize (lg_sl ([.ref h0]) ++ List.replicate (1 - (lg_sl ([.ref h0])).length) Slot.unset).toArray = ls at hl ⊢
  have hl : lv_has ls 1 [(0, .ref h0)] := hl
  refine lv_aload_n hx hb d_LS_needSystem_0 rfl (lv_at hl 0 rfl) ?_
  refine va_get (D := (dC, dI)) (ci := 0) (v := .int 0) (C := R_LS) (T := T_LS) (N := 16) hx hb hts in_LS hown hK hP 0 rfl rfl 12 (by decide) (hts _ k_301) (fun _ h9 => h9) rfl d_LS_needSystem_1 ?_
  refine lv_if_ne (tgt := 15) hx hb d_LS_needSystem_4 (by decide) (fun h9 => absurd (by decide) h9) (fun _ => ?_)
  exact xt_throw (names := ["java/lang/RuntimeException", "java/lang/Exception"]) (ia := 266) (ic := 268) hx hb htr hml hl hne hlocks hown (by decide +kernel) (by decide +kernel) (hts _ k_682) (hts _ k_18) (oa_ISE hts hX) d_LS_needSystem_7 d_LS_needSystem_10 d_LS_needSystem_11 d_LS_needSystem_14 (Nat.le_of_ble_eq_true rfl) (Nat.le_of_ble_eq_true rfl) (Nat.le_of_ble_eq_true rfl) (Nat.le_of_ble_eq_true rfl)

set_option maxHeartbeats 4000000 in
set_option maxRecDepth 100000 in
theorem c_LS_solvable (l : Launch) (htr : l.stackTraces = false) (dC : Nat → ClassId) (dI : Nat → Nat → Nat) (h0 : Nat) (aT : Nat) (aW : Nat) (aB : Nat) (aL : Nat) (aS : Nat) (aV : Nat) (aC : Nat) (a7 : Nat) (a8 : Nat) (a9 : Nat) (a10 : Nat) (aE : Nat) : xt_Met l y_LS_solvable (Cond.code y_LS_solvable b_LS_solvable 1 (Option.some Jvm.ClassFile.FieldType.int) :: wd) { frames := 7, cells := 1, slots := 6, locals := 120 } (va_Pc [.ref h0] (fun U => va_P (dC, dI) cls [(h0, .inr (0, [.ref aT, .ref aW, .ref aB, .ref aL, .ref aS, .ref aV, .ref aC, .ref a7, .ref a8, .ref a9, .ref a10, .ref aE, .int 0, .int 0, .int 0, .int (-1)]))] U.heap ∧ va_K (dC, dI) cls [] U ∧ nw_ok U ∧ xs_ok U)) (fun _ st x t => xt_X "java/lang/IllegalStateException" st x t) 1 6 (fun _ => False) := by
  refine xt_ofW (cc := b_LS_solvable) (maxL := 1) (ret := (Option.some Jvm.ClassFile.FieldType.int)) (by decide) rfl ?_
  intro p e s m args below meth c s₁ B hml hne hv
  obtain ⟨rfl, hP, hK, hN, hX⟩ := hv
  have hx := B.exec
  have hb := B.bytes
  have hr := B.returns
  have hlocks := B.notSynchronized
  have hts : ∀ w ∈ wd, w.before ([.ref h0] : List Value).toArray s = true := fun w hw => atoms_spec (ws := (Cond.code y_LS_solvable b_LS_solvable 1 (Option.some Jvm.ClassFile.FieldType.int) :: wd)) B.pre w (List.mem_cons_of_mem _ hw)
  have hown : s.vm.findClass "LeastSolutions" = some m.cls := findClass_of_methodNamed B.named
  have hS : va_S (fun _ => False) s.heap s.heap [] := va_S.rf
  have hl := lv_entry ([.ref h0]) (n := 1) (Nat.le_of_ble_eq_true rfl)
  rw [lg_entry_eq]
  generalize (lg_sl ([.ref h0]) ++ List.replicate (1 - (lg_sl ([.ref h0])).length) Slot.unset).toArray = ls at hl ⊢
  have hl : lv_has ls 1 [(0, .ref h0)] := hl
  refine lv_aload_n hx hb d_LS_solvable_0 rfl (lv_at hl 0 rfl) ?_
  exact xt_out (xt_runV (As := []) (rest := []) ⟨hx, hb, hml, hown, hts⟩ (c_LS_needSystem l htr dC dI (h0) (aT) (aW) (aB) (aL) (aS) (aV) (aC) (a7) (a8) (a9) (a10) (aE)) (wd_V (C := "LeastSolutions") 0 hts k_681 k_1 k_678 k_680 ks_LS_needSystem rfl rfl (by decide +kernel) ⟨Nat.le_of_ble_eq_true rfl, Nat.le_of_ble_eq_true rfl⟩) ⟨fun a U g mk q => by obtain ⟨q0, qP, qK, qN, qX⟩ := q; exact ⟨q0, qP, va_K.moved (u := U) (U := U.calling g mk a) (Vm.Alike.refl U.vm) qK, nw_ok.same (s := U) (U := U.calling g mk a) rfl qN, xs_ok.moved (s := U) (Vm.Alike.refl U.vm) (fun _ _ => rfl) qX⟩, va_recv (ci := 0) (q0 := 0) hK hP rfl rfl, fun U hU hW => ⟨rfl, by rw [hU]; exact hP.sub (ws' := [(h0, .inr (0, [.ref aT, .ref aW, .ref aB, .ref aL, .ref aS, .ref aV, .ref aC, .ref a7, .ref a8, .ref a9, .ref a10, .ref aE, .int 0, .int 0, .int 0, .int (-1)]))]) [0] rfl, va_K.moved hW.alike (hK.sub (tys' := []) [] rfl), nw_ok.warm hW hN, xs_ok.moved hW.alike (fun q _ => by rw [hU]) hX⟩⟩ rfl rfl hl.1 rfl (lv_room (Nat.le_of_ble_eq_true rfl)) d_LS_solvable_1 ⟨Nat.le_of_ble_eq_true rfl, Nat.le_of_ble_eq_true rfl⟩) hne hlocks

set_option maxHeartbeats 4000000 in
set_option maxRecDepth 100000 in
theorem c_LS_kernel (l : Launch) (htr : l.stackTraces = false) (dC : Nat → ClassId) (dI : Nat → Nat → Nat) (h0 : Nat) (aT : Nat) (aW : Nat) (aB : Nat) (aL : Nat) (aS : Nat) (aV : Nat) (aC : Nat) (a7 : Nat) (a8 : Nat) (a9 : Nat) (a10 : Nat) (aE : Nat) : xt_Met l y_LS_kernel (Cond.code y_LS_kernel b_LS_kernel 1 (Option.some Jvm.ClassFile.FieldType.int) :: wd) { frames := 7, cells := 1, slots := 6, locals := 120 } (va_Pc [.ref h0] (fun U => va_P (dC, dI) cls [(h0, .inr (0, [.ref aT, .ref aW, .ref aB, .ref aL, .ref aS, .ref aV, .ref aC, .ref a7, .ref a8, .ref a9, .ref a10, .ref aE, .int 0, .int 0, .int 0, .int (-1)]))] U.heap ∧ va_K (dC, dI) cls [] U ∧ nw_ok U ∧ xs_ok U)) (fun _ st x t => xt_X "java/lang/IllegalStateException" st x t) 1 6 (fun _ => False) := by
  refine xt_ofW (cc := b_LS_kernel) (maxL := 1) (ret := (Option.some Jvm.ClassFile.FieldType.int)) (by decide) rfl ?_
  intro p e s m args below meth c s₁ B hml hne hv
  obtain ⟨rfl, hP, hK, hN, hX⟩ := hv
  have hx := B.exec
  have hb := B.bytes
  have hr := B.returns
  have hlocks := B.notSynchronized
  have hts : ∀ w ∈ wd, w.before ([.ref h0] : List Value).toArray s = true := fun w hw => atoms_spec (ws := (Cond.code y_LS_kernel b_LS_kernel 1 (Option.some Jvm.ClassFile.FieldType.int) :: wd)) B.pre w (List.mem_cons_of_mem _ hw)
  have hown : s.vm.findClass "LeastSolutions" = some m.cls := findClass_of_methodNamed B.named
  have hS : va_S (fun _ => False) s.heap s.heap [] := va_S.rf
  have hl := lv_entry ([.ref h0]) (n := 1) (Nat.le_of_ble_eq_true rfl)
  rw [lg_entry_eq]
  generalize (lg_sl ([.ref h0]) ++ List.replicate (1 - (lg_sl ([.ref h0])).length) Slot.unset).toArray = ls at hl ⊢
  have hl : lv_has ls 1 [(0, .ref h0)] := hl
  refine lv_aload_n hx hb d_LS_kernel_0 rfl (lv_at hl 0 rfl) ?_
  exact xt_out (xt_runV (As := []) (rest := []) ⟨hx, hb, hml, hown, hts⟩ (c_LS_needSystem l htr dC dI (h0) (aT) (aW) (aB) (aL) (aS) (aV) (aC) (a7) (a8) (a9) (a10) (aE)) (wd_V (C := "LeastSolutions") 0 hts k_681 k_1 k_678 k_680 ks_LS_needSystem rfl rfl (by decide +kernel) ⟨Nat.le_of_ble_eq_true rfl, Nat.le_of_ble_eq_true rfl⟩) ⟨fun a U g mk q => by obtain ⟨q0, qP, qK, qN, qX⟩ := q; exact ⟨q0, qP, va_K.moved (u := U) (U := U.calling g mk a) (Vm.Alike.refl U.vm) qK, nw_ok.same (s := U) (U := U.calling g mk a) rfl qN, xs_ok.moved (s := U) (Vm.Alike.refl U.vm) (fun _ _ => rfl) qX⟩, va_recv (ci := 0) (q0 := 0) hK hP rfl rfl, fun U hU hW => ⟨rfl, by rw [hU]; exact hP.sub (ws' := [(h0, .inr (0, [.ref aT, .ref aW, .ref aB, .ref aL, .ref aS, .ref aV, .ref aC, .ref a7, .ref a8, .ref a9, .ref a10, .ref aE, .int 0, .int 0, .int 0, .int (-1)]))]) [0] rfl, va_K.moved hW.alike (hK.sub (tys' := []) [] rfl), nw_ok.warm hW hN, xs_ok.moved hW.alike (fun q _ => by rw [hU]) hX⟩⟩ rfl rfl hl.1 rfl (lv_room (Nat.le_of_ble_eq_true rfl)) d_LS_kernel_1 ⟨Nat.le_of_ble_eq_true rfl, Nat.le_of_ble_eq_true rfl⟩) hne hlocks

set_option maxHeartbeats 4000000 in
set_option maxRecDepth 100000 in
theorem c_LS_holds (l : Launch) (htr : l.stackTraces = false) (dC : Nat → ClassId) (dI : Nat → Nat → Nat) (h0 : Nat) (aT : Nat) (aW : Nat) (aB : Nat) (aL : Nat) (aS : Nat) (aV : Nat) (aC : Nat) (a7 : Nat) (a8 : Nat) (a9 : Nat) (a10 : Nat) (aE : Nat) : xt_Met l y_LS_holds (Cond.code y_LS_holds b_LS_holds 1 (Option.some Jvm.ClassFile.FieldType.int) :: wd) { frames := 7, cells := 1, slots := 6, locals := 120 } (va_Pc [.ref h0] (fun U => va_P (dC, dI) cls [(h0, .inr (0, [.ref aT, .ref aW, .ref aB, .ref aL, .ref aS, .ref aV, .ref aC, .ref a7, .ref a8, .ref a9, .ref a10, .ref aE, .int 0, .int 0, .int 0, .int (-1)]))] U.heap ∧ va_K (dC, dI) cls [] U ∧ nw_ok U ∧ xs_ok U)) (fun _ st x t => xt_X "java/lang/IllegalStateException" st x t) 1 6 (fun _ => False) := by
  refine xt_ofW (cc := b_LS_holds) (maxL := 1) (ret := (Option.some Jvm.ClassFile.FieldType.int)) (by decide) rfl ?_
  intro p e s m args below meth c s₁ B hml hne hv
  obtain ⟨rfl, hP, hK, hN, hX⟩ := hv
  have hx := B.exec
  have hb := B.bytes
  have hr := B.returns
  have hlocks := B.notSynchronized
  have hts : ∀ w ∈ wd, w.before ([.ref h0] : List Value).toArray s = true := fun w hw => atoms_spec (ws := (Cond.code y_LS_holds b_LS_holds 1 (Option.some Jvm.ClassFile.FieldType.int) :: wd)) B.pre w (List.mem_cons_of_mem _ hw)
  have hown : s.vm.findClass "LeastSolutions" = some m.cls := findClass_of_methodNamed B.named
  have hS : va_S (fun _ => False) s.heap s.heap [] := va_S.rf
  have hl := lv_entry ([.ref h0]) (n := 1) (Nat.le_of_ble_eq_true rfl)
  rw [lg_entry_eq]
  generalize (lg_sl ([.ref h0]) ++ List.replicate (1 - (lg_sl ([.ref h0])).length) Slot.unset).toArray = ls at hl ⊢
  have hl : lv_has ls 1 [(0, .ref h0)] := hl
  refine lv_aload_n hx hb d_LS_holds_0 rfl (lv_at hl 0 rfl) ?_
  exact xt_out (xt_runV (As := []) (rest := []) ⟨hx, hb, hml, hown, hts⟩ (c_LS_needSystem l htr dC dI (h0) (aT) (aW) (aB) (aL) (aS) (aV) (aC) (a7) (a8) (a9) (a10) (aE)) (wd_V (C := "LeastSolutions") 0 hts k_681 k_1 k_678 k_680 ks_LS_needSystem rfl rfl (by decide +kernel) ⟨Nat.le_of_ble_eq_true rfl, Nat.le_of_ble_eq_true rfl⟩) ⟨fun a U g mk q => by obtain ⟨q0, qP, qK, qN, qX⟩ := q; exact ⟨q0, qP, va_K.moved (u := U) (U := U.calling g mk a) (Vm.Alike.refl U.vm) qK, nw_ok.same (s := U) (U := U.calling g mk a) rfl qN, xs_ok.moved (s := U) (Vm.Alike.refl U.vm) (fun _ _ => rfl) qX⟩, va_recv (ci := 0) (q0 := 0) hK hP rfl rfl, fun U hU hW => ⟨rfl, by rw [hU]; exact hP.sub (ws' := [(h0, .inr (0, [.ref aT, .ref aW, .ref aB, .ref aL, .ref aS, .ref aV, .ref aC, .ref a7, .ref a8, .ref a9, .ref a10, .ref aE, .int 0, .int 0, .int 0, .int (-1)]))]) [0] rfl, va_K.moved hW.alike (hK.sub (tys' := []) [] rfl), nw_ok.warm hW hN, xs_ok.moved hW.alike (fun q _ => by rw [hU]) hX⟩⟩ rfl rfl hl.1 rfl (lv_room (Nat.le_of_ble_eq_true rfl)) d_LS_holds_1 ⟨Nat.le_of_ble_eq_true rfl, Nat.le_of_ble_eq_true rfl⟩) hne hlocks

set_option maxHeartbeats 4000000 in
set_option maxRecDepth 100000 in
theorem c_LS_tell (l : Launch) (htr : l.stackTraces = false) (dC : Nat → ClassId) (dI : Nat → Nat → Nat) (h0 : Nat) (aT : Nat) (aW : Nat) (aB : Nat) (aL : Nat) (aS : Nat) (aV : Nat) (aC : Nat) (a7 : Nat) (a8 : Nat) (a9 : Nat) (a10 : Nat) (aE : Nat) (e0 : Nat) (e1 : Nat) (e2 : Nat) (e3 : Nat) (e4 : Nat) (column : Int32) (value : Int32) : xt_Met l y_LS_tell (Cond.code y_LS_tell b_LS_tell 3 (Option.none : Option Jvm.ClassFile.FieldType) :: wd) { frames := 7, cells := 1, slots := 6, locals := 121 } (va_Pc [.ref h0, .int column, .int value] (fun U => va_P (dC, dI) cls [(h0, .inr (0, [.ref aT, .ref aW, .ref aB, .ref aL, .ref aS, .ref aV, .ref aC, .ref a7, .ref a8, .ref a9, .ref a10, .ref aE, .int 0, .int 0, .int 0, .int (-1)])), (aE, .inr (4, [.ref e0, .ref e1, .ref e2, .ref e3, .ref e4, .int 0, .int 0, .int 0]))] U.heap ∧ va_K (dC, dI) cls [] U ∧ nw_ok U ∧ xs_ok U)) (fun _ st x t => xt_X "java/lang/IndexOutOfBoundsException" st x t) 1 6 (fun _ => False) := by
  refine xt_ofW (cc := b_LS_tell) (maxL := 3) (ret := (Option.none : Option Jvm.ClassFile.FieldType)) (by decide) rfl ?_
  intro p e s m args below meth c s₁ B hml hne hv
  obtain ⟨rfl, hP, hK, hN, hX⟩ := hv
  have hx := B.exec
  have hb := B.bytes
  have hr := B.returns
  have hlocks := B.notSynchronized
  have hts : ∀ w ∈ wd, w.before ([.ref h0, .int column, .int value] : List Value).toArray s = true := fun w hw => atoms_spec (ws := (Cond.code y_LS_tell b_LS_tell 3 (Option.none : Option Jvm.ClassFile.FieldType) :: wd)) B.pre w (List.mem_cons_of_mem _ hw)
  have hown : s.vm.findClass "LeastSolutions" = some m.cls := findClass_of_methodNamed B.named
  have hS : va_S (fun _ => False) s.heap s.heap [] := va_S.rf
  have hl := lv_entry ([.ref h0, .int column, .int value]) (n := 3) (Nat.le_of_ble_eq_true rfl)
  rw [lg_entry_eq]
  generalize (lg_sl ([.ref h0, .int column, .int value]) ++ List.replicate (3 - (lg_sl ([.ref h0, .int column, .int value])).length) Slot.unset).toArray = ls at hl ⊢
  have hl : lv_has ls 3 [(0, .ref h0), (1, .int column), (2, .int value)] := hl
  refine lv_aload_n hx hb d_LS_tell_0 rfl (lv_at hl 0 rfl) ?_
  refine lv_iload_n hx hb d_LS_tell_1 rfl (lv_at hl 1 rfl) ?_
  exact xt_out (xt_runV (As := [.int column]) (rest := []) ⟨hx, hb, hml, hown, hts⟩ (c_LS_needColumn l htr dC dI (h0) (aT) (aW) (aB) (aL) (aS) (aV) (aC) (a7) (a8) (a9) (a10) (aE) (e0) (e1) (e2) (e3) (e4) (column)) (wd_V (C := "LeastSolutions") 1 hts k_722 k_1 k_719 k_721 ks_LS_needColumn rfl rfl (by decide +kernel) ⟨Nat.le_of_ble_eq_true rfl, Nat.le_of_ble_eq_true rfl⟩) ⟨fun a U g mk q => by obtain ⟨q0, qP, qK, qN, qX⟩ := q; exact ⟨q0, qP, va_K.moved (u := U) (U := U.calling g mk a) (Vm.Alike.refl U.vm) qK, nw_ok.same (s := U) (U := U.calling g mk a) rfl qN, xs_ok.moved (s := U) (Vm.Alike.refl U.vm) (fun _ _ => rfl) qX⟩, va_recv (ci := 0) (q0 := 0) hK hP rfl rfl, fun U hU hW => ⟨rfl, by rw [hU]; exact hP.sub (ws' := [(h0, .inr (0, [.ref aT, .ref aW, .ref aB, .ref aL, .ref aS, .ref aV, .ref aC, .ref a7, .ref a8, .ref a9, .ref a10, .ref aE, .int 0, .int 0, .int 0, .int (-1)])), (aE, .inr (4, [.ref e0, .ref e1, .ref e2, .ref e3, .ref e4, .int 0, .int 0, .int 0]))]) [0, 1] rfl, va_K.moved hW.alike (hK.sub (tys' := []) [] rfl), nw_ok.warm hW hN, xs_ok.moved hW.alike (fun q _ => by rw [hU]) hX⟩⟩ rfl rfl hl.1 rfl (lv_room (Nat.le_of_ble_eq_true rfl)) d_LS_tell_2 ⟨Nat.le_of_ble_eq_true rfl, Nat.le_of_ble_eq_true rfl⟩) hne hlocks

set_option maxHeartbeats 4000000 in
set_option maxRecDepth 100000 in
theorem c_LS_cost (l : Launch) (htr : l.stackTraces = false) (dC : Nat → ClassId) (dI : Nat → Nat → Nat) (h0 : Nat) (aT : Nat) (aW : Nat) (aB : Nat) (aL : Nat) (aS : Nat) (aV : Nat) (aC : Nat) (a7 : Nat) (a8 : Nat) (a9 : Nat) (a10 : Nat) (aE : Nat) (e0 : Nat) (e1 : Nat) (e2 : Nat) (e3 : Nat) (e4 : Nat) (column : Int32) (value : Int32) : xt_Met l y_LS_cost (Cond.code y_LS_cost b_LS_cost 3 (Option.none : Option Jvm.ClassFile.FieldType) :: wd) { frames := 7, cells := 1, slots := 6, locals := 121 } (va_Pc [.ref h0, .int column, .int value] (fun U => va_P (dC, dI) cls [(h0, .inr (0, [.ref aT, .ref aW, .ref aB, .ref aL, .ref aS, .ref aV, .ref aC, .ref a7, .ref a8, .ref a9, .ref a10, .ref aE, .int 0, .int 0, .int 0, .int (-1)])), (aE, .inr (4, [.ref e0, .ref e1, .ref e2, .ref e3, .ref e4, .int 0, .int 0, .int 0]))] U.heap ∧ va_K (dC, dI) cls [] U ∧ nw_ok U ∧ xs_ok U)) (fun _ st x t => xt_X "java/lang/IndexOutOfBoundsException" st x t) 1 6 (fun _ => False) := by
  refine xt_ofW (cc := b_LS_cost) (maxL := 3) (ret := (Option.none : Option Jvm.ClassFile.FieldType)) (by decide) rfl ?_
  intro p e s m args below meth c s₁ B hml hne hv
  obtain ⟨rfl, hP, hK, hN, hX⟩ := hv
  have hx := B.exec
  have hb := B.bytes
  have hr := B.returns
  have hlocks := B.notSynchronized
  have hts : ∀ w ∈ wd, w.before ([.ref h0, .int column, .int value] : List Value).toArray s = true := fun w hw => atoms_spec (ws := (Cond.code y_LS_cost b_LS_cost 3 (Option.none : Option Jvm.ClassFile.FieldType) :: wd)) B.pre w (List.mem_cons_of_mem _ hw)
  have hown : s.vm.findClass "LeastSolutions" = some m.cls := findClass_of_methodNamed B.named
  have hS : va_S (fun _ => False) s.heap s.heap [] := va_S.rf
  have hl := lv_entry ([.ref h0, .int column, .int value]) (n := 3) (Nat.le_of_ble_eq_true rfl)
  rw [lg_entry_eq]
  generalize (lg_sl ([.ref h0, .int column, .int value]) ++ List.replicate (3 - (lg_sl ([.ref h0, .int column, .int value])).length) Slot.unset).toArray = ls at hl ⊢
  have hl : lv_has ls 3 [(0, .ref h0), (1, .int column), (2, .int value)] := hl
  refine lv_aload_n hx hb d_LS_cost_0 rfl (lv_at hl 0 rfl) ?_
  refine lv_iload_n hx hb d_LS_cost_1 rfl (lv_at hl 1 rfl) ?_
  exact xt_out (xt_runV (As := [.int column]) (rest := []) ⟨hx, hb, hml, hown, hts⟩ (c_LS_needColumn l htr dC dI (h0) (aT) (aW) (aB) (aL) (aS) (aV) (aC) (a7) (a8) (a9) (a10) (aE) (e0) (e1) (e2) (e3) (e4) (column)) (wd_V (C := "LeastSolutions") 1 hts k_722 k_1 k_719 k_721 ks_LS_needColumn rfl rfl (by decide +kernel) ⟨Nat.le_of_ble_eq_true rfl, Nat.le_of_ble_eq_true rfl⟩) ⟨fun a U g mk q => by obtain ⟨q0, qP, qK, qN, qX⟩ := q; exact ⟨q0, qP, va_K.moved (u := U) (U := U.calling g mk a) (Vm.Alike.refl U.vm) qK, nw_ok.same (s := U) (U := U.calling g mk a) rfl qN, xs_ok.moved (s := U) (Vm.Alike.refl U.vm) (fun _ _ => rfl) qX⟩, va_recv (ci := 0) (q0 := 0) hK hP rfl rfl, fun U hU hW => ⟨rfl, by rw [hU]; exact hP.sub (ws' := [(h0, .inr (0, [.ref aT, .ref aW, .ref aB, .ref aL, .ref aS, .ref aV, .ref aC, .ref a7, .ref a8, .ref a9, .ref a10, .ref aE, .int 0, .int 0, .int 0, .int (-1)])), (aE, .inr (4, [.ref e0, .ref e1, .ref e2, .ref e3, .ref e4, .int 0, .int 0, .int 0]))]) [0, 1] rfl, va_K.moved hW.alike (hK.sub (tys' := []) [] rfl), nw_ok.warm hW hN, xs_ok.moved hW.alike (fun q _ => by rw [hU]) hX⟩⟩ rfl rfl hl.1 rfl (lv_room (Nat.le_of_ble_eq_true rfl)) d_LS_cost_2 ⟨Nat.le_of_ble_eq_true rfl, Nat.le_of_ble_eq_true rfl⟩) hne hlocks

set_option maxHeartbeats 4000000 in
set_option maxRecDepth 100000 in
theorem c_LS_number (l : Launch) (htr : l.stackTraces = false) (dC : Nat → ClassId) (dI : Nat → Nat → Nat) (h0 : Nat) (aT : Nat) (aW : Nat) (aB : Nat) (aL : Nat) (aS : Nat) (aV : Nat) (aC : Nat) (a7 : Nat) (a8 : Nat) (a9 : Nat) (a10 : Nat) (aE : Nat) (e0 : Nat) (e1 : Nat) (e2 : Nat) (e3 : Nat) (e4 : Nat) (row : Int32) (column : Int32) : xt_Met l y_LS_number (Cond.code y_LS_number b_LS_number 3 (Option.some Jvm.ClassFile.FieldType.int) :: wd) { frames := 6, cells := 1, slots := 6, locals := 100 } (va_Pc [.ref h0, .int row, .int column] (fun U => va_P (dC, dI) cls [(h0, .inr (0, [.ref aT, .ref aW, .ref aB, .ref aL, .ref aS, .ref aV, .ref aC, .ref a7, .ref a8, .ref a9, .ref a10, .ref aE, .int 0, .int 0, .int 0, .int (-1)])), (aE, .inr (4, [.ref e0, .ref e1, .ref e2, .ref e3, .ref e4, .int 0, .int 0, .int 0]))] U.heap ∧ va_K (dC, dI) cls [] U ∧ nw_ok U ∧ xs_ok U)) (fun _ st x t => xt_X "java/lang/IndexOutOfBoundsException" st x t) 1 6 (fun _ => False) := by
  refine xt_ofW (cc := b_LS_number) (maxL := 3) (ret := (Option.some Jvm.ClassFile.FieldType.int)) (by decide) rfl ?_
  intro p e s m args below meth c s₁ B hml hne hv
  obtain ⟨rfl, hP, hK, hN, hX⟩ := hv
  have hx := B.exec
  have hb := B.bytes
  have hr := B.returns
  have hlocks := B.notSynchronized
  have hts : ∀ w ∈ wd, w.before ([.ref h0, .int row, .int column] : List Value).toArray s = true := fun w hw => atoms_spec (ws := (Cond.code y_LS_number b_LS_number 3 (Option.some Jvm.ClassFile.FieldType.int) :: wd)) B.pre w (List.mem_cons_of_mem _ hw)
  have hown : s.vm.findClass "LeastSolutions" = some m.cls := findClass_of_methodNamed B.named
  have hS : va_S (fun _ => False) s.heap s.heap [] := va_S.rf
  have hl := lv_entry ([.ref h0, .int row, .int column]) (n := 3) (Nat.le_of_ble_eq_true rfl)
  rw [lg_entry_eq]
  generalize (lg_sl ([.ref h0, .int row, .int column]) ++ List.replicate (3 - (lg_sl ([.ref h0, .int row, .int column])).length) Slot.unset).toArray = ls at hl ⊢
  have hl : lv_has ls 3 [(0, .ref h0), (1, .int row), (2, .int column)] := hl
  refine lv_iload_n hx hb d_LS_number_0 rfl (lv_at hl 1 rfl) ?_
  refine lv_if_lt (tgt := 30) hx hb d_LS_number_1 (by decide) (fun hc1 => ?_) (fun hc1 => ?_)
  · exact xt_throw (names := ["java/lang/RuntimeException", "java/lang/Exception"]) (ia := 118) (ic := 120) hx hb htr hml hl hne hlocks hown (by decide +kernel) (by decide +kernel) (hts _ k_606) (hts _ k_17) (oa_IOOBE hts hX) d_LS_number_30 d_LS_number_33 d_LS_number_34 d_LS_number_37 (Nat.le_of_ble_eq_true rfl) (Nat.le_of_ble_eq_true rfl) (Nat.le_of_ble_eq_true rfl) (Nat.le_of_ble_eq_true rfl)
  · refine lv_iload_n hx hb d_LS_number_4 rfl (lv_at hl 1 rfl) ?_
    refine lv_aload_n hx hb d_LS_number_5 rfl (lv_at hl 0 rfl) ?_
    refine va_get (D := (dC, dI)) (ci := 0) (v := .ref aE) (C := R_LS) (T := T_LS) (N := 16) hx hb hts in_LS hown hK hP 0 rfl rfl 11 (by decide) (hts _ k_300) (fun _ h9 => h9) rfl d_LS_number_6 ?_
    refine va_getN (D := (dC, dI)) (ci := 4) (v := .int 0) (C := R_EQ) (T := T_EQ) (N := 8) hx hb hts in_EQ hown hK hP 1 rfl rfl 5 (by decide) (va_Nw.use rfl (hN.1 (Jvm.Cond.fieldLinkNest "LeastSolutions" (106 : Nat) "LeastSolutions$Equations" "rows" "I" "LeastSolutions") nw_23)) (fun _ h9 => h9) rfl d_LS_number_9 ?_
    refine lv_icmp_ge (tgt := 30) hx hb d_LS_number_12 (by decide) (fun _ => ?_) (fun h9 => absurd (Int32.not_lt.mp hc1) h9)
    exact xt_throw (names := ["java/lang/RuntimeException", "java/lang/Exception"]) (ia := 118) (ic := 120) hx hb htr hml hl hne hlocks hown (by decide +kernel) (by decide +kernel) (hts _ k_606) (hts _ k_17) (oa_IOOBE hts hX) d_LS_number_30 d_LS_number_33 d_LS_number_34 d_LS_number_37 (Nat.le_of_ble_eq_true rfl) (Nat.le_of_ble_eq_true rfl) (Nat.le_of_ble_eq_true rfl) (Nat.le_of_ble_eq_true rfl)

set_option maxHeartbeats 4000000 in
set_option maxRecDepth 100000 in
theorem c_LS_kernelAt (l : Launch) (htr : l.stackTraces = false) (dC : Nat → ClassId) (dI : Nat → Nat → Nat) (h0 : Nat) (aT : Nat) (aW : Nat) (aB : Nat) (aL : Nat) (aS : Nat) (aV : Nat) (aC : Nat) (a7 : Nat) (a8 : Nat) (a9 : Nat) (a10 : Nat) (aE : Nat) (b0 : Nat) (b1 : Nat) (b2 : Nat) (b3 : Nat) (b4 : Nat) (i : Int32) (column : Int32) : xt_Met l y_LS_kernelAt (Cond.code y_LS_kernelAt b_LS_kernelAt 3 (Option.some Jvm.ClassFile.FieldType.long) :: wd) { frames := 6, cells := 1, slots := 6, locals := 100 } (va_Pc [.ref h0, .int i, .int column] (fun U => va_P (dC, dI) cls [(h0, .inr (0, [.ref aT, .ref aW, .ref aB, .ref aL, .ref aS, .ref aV, .ref aC, .ref a7, .ref a8, .ref a9, .ref a10, .ref aE, .int 0, .int 0, .int 0, .int (-1)])), (aL, .inr (5, [.ref b0, .ref b1, .ref b2, .ref b3, .ref b4, .int 0, .int 0, .int 0, .int 0]))] U.heap ∧ va_K (dC, dI) cls [] U ∧ nw_ok U ∧ xs_ok U)) (fun _ st x t => xt_X "java/lang/IndexOutOfBoundsException" st x t) 1 6 (fun _ => False) := by
  refine xt_ofW (cc := b_LS_kernelAt) (maxL := 3) (ret := (Option.some Jvm.ClassFile.FieldType.long)) (by decide) rfl ?_
  intro p e s m args below meth c s₁ B hml hne hv
  obtain ⟨rfl, hP, hK, hN, hX⟩ := hv
  have hx := B.exec
  have hb := B.bytes
  have hr := B.returns
  have hlocks := B.notSynchronized
  have hts : ∀ w ∈ wd, w.before ([.ref h0, .int i, .int column] : List Value).toArray s = true := fun w hw => atoms_spec (ws := (Cond.code y_LS_kernelAt b_LS_kernelAt 3 (Option.some Jvm.ClassFile.FieldType.long) :: wd)) B.pre w (List.mem_cons_of_mem _ hw)
  have hown : s.vm.findClass "LeastSolutions" = some m.cls := findClass_of_methodNamed B.named
  have hS : va_S (fun _ => False) s.heap s.heap [] := va_S.rf
  have hl := lv_entry ([.ref h0, .int i, .int column]) (n := 3) (Nat.le_of_ble_eq_true rfl)
  rw [lg_entry_eq]
  generalize (lg_sl ([.ref h0, .int i, .int column]) ++ List.replicate (3 - (lg_sl ([.ref h0, .int i, .int column])).length) Slot.unset).toArray = ls at hl ⊢
  have hl : lv_has ls 3 [(0, .ref h0), (1, .int i), (2, .int column)] := hl
  refine lv_iload_n hx hb d_LS_kernelAt_0 rfl (lv_at hl 1 rfl) ?_
  refine lv_if_lt (tgt := 15) hx hb d_LS_kernelAt_1 (by decide) (fun hc1 => ?_) (fun hc1 => ?_)
  · exact xt_throw (names := ["java/lang/RuntimeException", "java/lang/Exception"]) (ia := 118) (ic := 120) hx hb htr hml hl hne hlocks hown (by decide +kernel) (by decide +kernel) (hts _ k_606) (hts _ k_17) (oa_IOOBE hts hX) d_LS_kernelAt_15 d_LS_kernelAt_18 d_LS_kernelAt_19 d_LS_kernelAt_22 (Nat.le_of_ble_eq_true rfl) (Nat.le_of_ble_eq_true rfl) (Nat.le_of_ble_eq_true rfl) (Nat.le_of_ble_eq_true rfl)
  · refine lv_iload_n hx hb d_LS_kernelAt_4 rfl (lv_at hl 1 rfl) ?_
    refine lv_aload_n hx hb d_LS_kernelAt_5 rfl (lv_at hl 0 rfl) ?_
    refine va_get (D := (dC, dI)) (ci := 0) (v := .ref aL) (C := R_LS) (T := T_LS) (N := 16) hx hb hts in_LS hown hK hP 0 rfl rfl 3 (by decide) (hts _ k_292) (fun _ h9 => h9) rfl d_LS_kernelAt_6 ?_
    refine va_getN (D := (dC, dI)) (ci := 5) (v := .int 0) (C := R_LA) (T := T_LA) (N := 9) hx hb hts in_LA hown hK hP 1 rfl rfl 5 (by decide) (va_Nw.use rfl (hN.1 (Jvm.Cond.fieldLinkNest "LeastSolutions" (135 : Nat) "LeastSolutions$Lattice" "kernelVectors" "I" "LeastSolutions") nw_27)) (fun _ h9 => h9) rfl d_LS_kernelAt_9 ?_
    refine lv_icmp_lt (tgt := 23) hx hb d_LS_kernelAt_12 (by decide) (fun h9 => absurd h9 (hc1)) (fun _ => ?_)
    exact xt_throw (names := ["java/lang/RuntimeException", "java/lang/Exception"]) (ia := 118) (ic := 120) hx hb htr hml hl hne hlocks hown (by decide +kernel) (by decide +kernel) (hts _ k_606) (hts _ k_17) (oa_IOOBE hts hX) d_LS_kernelAt_15 d_LS_kernelAt_18 d_LS_kernelAt_19 d_LS_kernelAt_22 (Nat.le_of_ble_eq_true rfl) (Nat.le_of_ble_eq_true rfl) (Nat.le_of_ble_eq_true rfl) (Nat.le_of_ble_eq_true rfl)

set_option maxHeartbeats 4000000 in
set_option maxRecDepth 100000 in
theorem c_LS_needBound (l : Launch) (dC : Nat → ClassId) (dI : Nat → Nat → Nat) (bound : Int32) (most : Int32) (g1 : ¬ bound < 0) (g2 : ¬ most < bound) : Met l y_LS_needBound (Cond.code y_LS_needBound b_LS_needBound 2 (Option.none : Option Jvm.ClassFile.FieldType) :: wd) { frames := 0, cells := 0, slots := 0, locals := 0 } (va_Pc [.int bound, .int most] (fun U => va_P (dC, dI) cls [] U.heap ∧ va_K (dC, dI) cls [] U ∧ nw_ok U)) (va_Qv (fun _ : Unit => True) (fun _ _ => True) (fun _ => False)) 0 0 (fun _ => False) := by
  refine Met.ofW (cc := b_LS_needBound) (maxL := 2) (ret := (Option.none : Option Jvm.ClassFile.FieldType)) (by decide) rfl ?_
  intro p e s m args below meth c s₁ B hml hv
  obtain ⟨rfl, hP, hK, hN⟩ := hv
  have hx := B.exec
  have hb := B.bytes
  have hr := B.returns
  have hlocks := B.notSynchronized
  have hts : ∀ w ∈ wd, w.before ([.int bound, .int most] : List Value).toArray s = true := fun w hw => atoms_spec (ws := (Cond.code y_LS_needBound b_LS_needBound 2 (Option.none : Option Jvm.ClassFile.FieldType) :: wd)) B.pre w (List.mem_cons_of_mem _ hw)
  have hown : s.vm.findClass "LeastSolutions" = some m.cls := findClass_of_methodNamed B.named
  have hS : va_S (fun _ => False) s.heap s.heap [] := va_S.rf
  have hl := lv_entry ([.int bound, .int most]) (n := 2) (Nat.le_of_ble_eq_true rfl)
  rw [lg_entry_eq]
  generalize (lg_sl ([.int bound, .int most]) ++ List.replicate (2 - (lg_sl ([.int bound, .int most])).length) Slot.unset).toArray = ls at hl ⊢
  have hl : lv_has ls 2 [(0, .int bound), (1, .int most)] := hl
  refine lv_iload_n hx hb d_LS_needBound_0 rfl (lv_at hl 0 rfl) ?_
  refine lv_if_lt (tgt := 9) hx hb d_LS_needBound_1 (by decide) (fun h9 => absurd h9 (g1)) (fun _ => ?_)
  refine lv_iload_n hx hb d_LS_needBound_4 rfl (lv_at hl 0 rfl) ?_
  refine lv_iload_n hx hb d_LS_needBound_5 rfl (lv_at hl 1 rfl) ?_
  refine lv_icmp_le (tgt := 17) hx hb d_LS_needBound_6 (by decide) (fun _ => ?_) (fun h9 => absurd (Int32.not_lt.mp g2) h9)
  exact W.vret hx hb hr (fun t ht hW => ⟨⟨(), rfl, trivial, trivial⟩, hS.F ht⟩) hS.2.2 d_LS_needBound_17

set_option maxHeartbeats 4000000 in
set_option maxRecDepth 100000 in
theorem c_LS_needBound_thr (l : Launch) (htr : l.stackTraces = false) (dC : Nat → ClassId) (dI : Nat → Nat → Nat) (bound : Int32) (most : Int32) (g0 : bound < 0 ∨ most < bound) : xt_Met l y_LS_needBound (Cond.code y_LS_needBound b_LS_needBound 2 (Option.none : Option Jvm.ClassFile.FieldType) :: wd) { frames := 6, cells := 1, slots := 6, locals := 100 } (va_Pc [.int bound, .int most] (fun U => va_P (dC, dI) cls [] U.heap ∧ va_K (dC, dI) cls [] U ∧ nw_ok U ∧ xs_ok U)) (fun _ st x t => xt_X "java/lang/IllegalArgumentException" st x t) 1 6 (fun _ => False) := by
  refine xt_ofW (cc := b_LS_needBound) (maxL := 2) (ret := (Option.none : Option Jvm.ClassFile.FieldType)) (by decide) rfl ?_
  intro p e s m args below meth c s₁ B hml hne hv
  obtain ⟨rfl, hP, hK, hN, hX⟩ := hv
  have hx := B.exec
  have hb := B.bytes
  have hr := B.returns
  have hlocks := B.notSynchronized
  have hts : ∀ w ∈ wd, w.before ([.int bound, .int most] : List Value).toArray s = true := fun w hw => atoms_spec (ws := (Cond.code y_LS_needBound b_LS_needBound 2 (Option.none : Option Jvm.ClassFile.FieldType) :: wd)) B.pre w (List.mem_cons_of_mem _ hw)
  have hown : s.vm.findClass "LeastSolutions" = some m.cls := findClass_of_methodNamed B.named
  have hS : va_S (fun _ => False) s.heap s.heap [] := va_S.rf
  have hl := lv_entry ([.int bound, .int most]) (n := 2) (Nat.le_of_ble_eq_true rfl)
  rw [lg_entry_eq]
  generalize (lg_sl ([.int bound, .int most]) ++ List.replicate (2 - (lg_sl ([.int bound, .int most])).length) Slot.unset).toArray = ls at hl ⊢
  have hl : lv_has ls 2 [(0, .int bound), (1, .int most)] := hl
  refine lv_iload_n hx hb d_LS_needBound_0 rfl (lv_at hl 0 rfl) ?_
  refine lv_if_lt (tgt := 9) hx hb d_LS_needBound_1 (by decide) (fun hc1 => ?_) (fun hc1 => ?_)
  · exact xt_throw (names := ["java/lang/RuntimeException", "java/lang/Exception"]) (ia := 146) (ic := 148) hx hb htr hml hl hne hlocks hown (by decide +kernel) (by decide +kernel) (hts _ k_735) (hts _ k_19) (oa_IAE hts hX) d_LS_needBound_9 d_LS_needBound_12 d_LS_needBound_13 d_LS_needBound_16 (Nat.le_of_ble_eq_true rfl) (Nat.le_of_ble_eq_true rfl) (Nat.le_of_ble_eq_true rfl) (Nat.le_of_ble_eq_true rfl)
  · refine lv_iload_n hx hb d_LS_needBound_4 rfl (lv_at hl 0 rfl) ?_
    refine lv_iload_n hx hb d_LS_needBound_5 rfl (lv_at hl 1 rfl) ?_
    refine lv_icmp_le (tgt := 17) hx hb d_LS_needBound_6 (by decide) (fun h9 => absurd h9 (Int32.not_le.mpr (g0.resolve_left hc1))) (fun _ => ?_)
    exact xt_throw (names := ["java/lang/RuntimeException", "java/lang/Exception"]) (ia := 146) (ic := 148) hx hb htr hml hl hne hlocks hown (by decide +kernel) (by decide +kernel) (hts _ k_735) (hts _ k_19) (oa_IAE hts hX) d_LS_needBound_9 d_LS_needBound_12 d_LS_needBound_13 d_LS_needBound_16 (Nat.le_of_ble_eq_true rfl) (Nat.le_of_ble_eq_true rfl) (Nat.le_of_ble_eq_true rfl) (Nat.le_of_ble_eq_true rfl)

set_option maxHeartbeats 4000000 in
set_option maxRecDepth 100000 in
theorem c_LS_best_IA (l : Launch) (htr : l.stackTraces = false) (dC : Nat → ClassId) (dI : Nat → Nat → Nat) (h0 : Nat) (aT : Nat) (aW : Nat) (aB : Nat) (aL : Nat) (aS : Nat) (aV : Nat) (aC : Nat) (a7 : Nat) (a8 : Nat) (a9 : Nat) (a10 : Nat) (aE : Nat) (bound : Int32) (g0 : bound < 0 ∨ 16 < bound) : xt_Met l y_LS_best (Cond.code y_LS_best b_LS_best 2 (Option.some Jvm.ClassFile.FieldType.int) :: wd) { frames := 7, cells := 1, slots := 6, locals := 121 } (va_Pc [.ref h0, .int bound] (fun U => va_P (dC, dI) cls [(h0, .inr (0, [.ref aT, .ref aW, .ref aB, .ref aL, .ref aS, .ref aV, .ref aC, .ref a7, .ref a8, .ref a9, .ref a10, .ref aE, .int 0, .int 0, .int 0, .int (-1)]))] U.heap ∧ va_K (dC, dI) cls [] U ∧ nw_ok U ∧ xs_ok U)) (fun _ st x t => xt_X "java/lang/IllegalArgumentException" st x t) 1 6 (fun _ => False) := by
  refine xt_ofW (cc := b_LS_best) (maxL := 2) (ret := (Option.some Jvm.ClassFile.FieldType.int)) (by decide) rfl ?_
  intro p e s m args below meth c s₁ B hml hne hv
  obtain ⟨rfl, hP, hK, hN, hX⟩ := hv
  have hx := B.exec
  have hb := B.bytes
  have hr := B.returns
  have hlocks := B.notSynchronized
  have hts : ∀ w ∈ wd, w.before ([.ref h0, .int bound] : List Value).toArray s = true := fun w hw => atoms_spec (ws := (Cond.code y_LS_best b_LS_best 2 (Option.some Jvm.ClassFile.FieldType.int) :: wd)) B.pre w (List.mem_cons_of_mem _ hw)
  have hown : s.vm.findClass "LeastSolutions" = some m.cls := findClass_of_methodNamed B.named
  have hS : va_S (fun _ => False) s.heap s.heap [] := va_S.rf
  have hl := lv_entry ([.ref h0, .int bound]) (n := 2) (Nat.le_of_ble_eq_true rfl)
  rw [lg_entry_eq]
  generalize (lg_sl ([.ref h0, .int bound]) ++ List.replicate (2 - (lg_sl ([.ref h0, .int bound])).length) Slot.unset).toArray = ls at hl ⊢
  have hl : lv_has ls 2 [(0, .ref h0), (1, .int bound)] := hl
  refine lv_iload_n hx hb d_LS_best_0 rfl (lv_at hl 1 rfl) ?_
  refine lv_bipush (v := 16) hx hb d_LS_best_1 (by decide) ?_
  exact xt_out (xt_runS (As := [.int bound, .int 16]) (rest := []) ⟨hx, hb, hml, hown, hts⟩ (c_LS_needBound_thr l htr dC dI (bound) (16) (g0)) (wd_S 2 hts k_752 k_1 k_750 k_751 rfl rfl (by decide +kernel) ⟨Nat.le_of_ble_eq_true rfl, Nat.le_of_ble_eq_true rfl⟩) ⟨fun a U g mk q => by obtain ⟨q0, qP, qK, qN, qX⟩ := q; exact ⟨q0, qP, va_K.moved (u := U) (U := U.calling g mk a) (Vm.Alike.refl U.vm) qK, nw_ok.same (s := U) (U := U.calling g mk a) rfl qN, xs_ok.moved (s := U) (Vm.Alike.refl U.vm) (fun _ _ => rfl) qX⟩, fun U hU hW => ⟨rfl, by rw [hU]; exact hP.sub (ws' := []) [] rfl, va_K.moved hW.alike (hK.sub (tys' := []) [] rfl), nw_ok.warm hW hN, xs_ok.moved hW.alike (fun q _ => by rw [hU]) hX⟩⟩ rfl rfl hl.1 rfl (lv_room (Nat.le_of_ble_eq_true rfl)) d_LS_best_3 ⟨Nat.le_of_ble_eq_true rfl, Nat.le_of_ble_eq_true rfl⟩) hne hlocks

set_option maxHeartbeats 4000000 in
set_option maxRecDepth 100000 in
theorem c_LS_best_IS (l : Launch) (htr : l.stackTraces = false) (dC : Nat → ClassId) (dI : Nat → Nat → Nat) (h0 : Nat) (aT : Nat) (aW : Nat) (aB : Nat) (aL : Nat) (aS : Nat) (aV : Nat) (aC : Nat) (a7 : Nat) (a8 : Nat) (a9 : Nat) (a10 : Nat) (aE : Nat) (bound : Int32) (g1 : ¬ bound < 0) (g2 : ¬ 16 < bound) : xt_Met l y_LS_best (Cond.code y_LS_best b_LS_best 2 (Option.some Jvm.ClassFile.FieldType.int) :: wd) { frames := 7, cells := 1, slots := 6, locals := 120 } (va_Pc [.ref h0, .int bound] (fun U => va_P (dC, dI) cls [(h0, .inr (0, [.ref aT, .ref aW, .ref aB, .ref aL, .ref aS, .ref aV, .ref aC, .ref a7, .ref a8, .ref a9, .ref a10, .ref aE, .int 0, .int 0, .int 0, .int (-1)]))] U.heap ∧ va_K (dC, dI) cls [] U ∧ nw_ok U ∧ xs_ok U)) (fun _ st x t => xt_X "java/lang/IllegalStateException" st x t) 1 6 (fun _ => False) := by
  refine xt_ofW (cc := b_LS_best) (maxL := 2) (ret := (Option.some Jvm.ClassFile.FieldType.int)) (by decide) rfl ?_
  intro p e s m args below meth c s₁ B hml hne hv
  obtain ⟨rfl, hP, hK, hN, hX⟩ := hv
  have hx := B.exec
  have hb := B.bytes
  have hr := B.returns
  have hlocks := B.notSynchronized
  have hts : ∀ w ∈ wd, w.before ([.ref h0, .int bound] : List Value).toArray s = true := fun w hw => atoms_spec (ws := (Cond.code y_LS_best b_LS_best 2 (Option.some Jvm.ClassFile.FieldType.int) :: wd)) B.pre w (List.mem_cons_of_mem _ hw)
  have hown : s.vm.findClass "LeastSolutions" = some m.cls := findClass_of_methodNamed B.named
  have hS : va_S (fun _ => False) s.heap s.heap [] := va_S.rf
  have hl := lv_entry ([.ref h0, .int bound]) (n := 2) (Nat.le_of_ble_eq_true rfl)
  rw [lg_entry_eq]
  generalize (lg_sl ([.ref h0, .int bound]) ++ List.replicate (2 - (lg_sl ([.ref h0, .int bound])).length) Slot.unset).toArray = ls at hl ⊢
  have hl : lv_has ls 2 [(0, .ref h0), (1, .int bound)] := hl
  refine lv_iload_n hx hb d_LS_best_0 rfl (lv_at hl 1 rfl) ?_
  refine lv_bipush (v := 16) hx hb d_LS_best_1 (by decide) ?_
  refine pu_callv (va_runS (As := [.int bound, .int 16]) (rest := []) ⟨hx, hb, hml, hown, hts⟩ (c_LS_needBound l dC dI (bound) (16) (g1) (g2)) (wd_S 2 hts k_752 k_1 k_750 k_751 rfl rfl (by decide +kernel) ⟨Nat.le_of_ble_eq_true rfl, Nat.le_of_ble_eq_true rfl⟩) ⟨fun a U g mk q => by obtain ⟨q0, qP, qK, qN⟩ := q; exact ⟨q0, qP, va_K.moved (u := U) (U := U.calling g mk a) (Vm.Alike.refl U.vm) qK, nw_ok.same (s := U) (U := U.calling g mk a) rfl qN⟩, fun U hU hW => ⟨rfl, by rw [hU]; exact hP.sub (ws' := []) [] rfl, va_K.moved hW.alike (hK.sub (tys' := []) [] rfl), nw_ok.warm hW hN⟩⟩ rfl rfl hl.1 rfl (lv_room (Nat.le_of_ble_eq_true rfl)) d_LS_best_3 ⟨Nat.le_of_ble_eq_true rfl, Nat.le_of_ble_eq_true rfl⟩) ?_
  refine lv_aload_n hx hb d_LS_best_6 rfl (lv_at hl 0 rfl) ?_
  exact xt_out (xt_runV (As := []) (rest := []) ⟨hx, hb, hml, hown, hts⟩ (c_LS_needSystem l htr dC dI (h0) (aT) (aW) (aB) (aL) (aS) (aV) (aC) (a7) (a8) (a9) (a10) (aE)) (wd_V (C := "LeastSolutions") 0 hts k_681 k_1 k_678 k_680 ks_LS_needSystem rfl rfl (by decide +kernel) ⟨Nat.le_of_ble_eq_true rfl, Nat.le_of_ble_eq_true rfl⟩) ⟨fun a U g mk q => by obtain ⟨q0, qP, qK, qN, qX⟩ := q; exact ⟨q0, qP, va_K.moved (u := U) (U := U.calling g mk a) (Vm.Alike.refl U.vm) qK, nw_ok.same (s := U) (U := U.calling g mk a) rfl qN, xs_ok.moved (s := U) (Vm.Alike.refl U.vm) (fun _ _ => rfl) qX⟩, va_recv (ci := 0) (q0 := 0) hK hP rfl rfl, fun U hU hW => ⟨rfl, by rw [hU]; exact hP.sub (ws' := [(h0, .inr (0, [.ref aT, .ref aW, .ref aB, .ref aL, .ref aS, .ref aV, .ref aC, .ref a7, .ref a8, .ref a9, .ref a10, .ref aE, .int 0, .int 0, .int 0, .int (-1)]))]) [0] rfl, va_K.moved hW.alike (hK.sub (tys' := []) [] rfl), nw_ok.warm hW hN, xs_ok.moved hW.alike (fun q _ => by rw [hU]) hX⟩⟩ rfl rfl hl.1 rfl (lv_room (Nat.le_of_ble_eq_true rfl)) d_LS_best_7 ⟨Nat.le_of_ble_eq_true rfl, Nat.le_of_ble_eq_true rfl⟩) hne hlocks

set_option maxHeartbeats 4000000 in
set_option maxRecDepth 100000 in
theorem c_LS_work_IA (l : Launch) (htr : l.stackTraces = false) (dC : Nat → ClassId) (dI : Nat → Nat → Nat) (h0 : Nat) (aT : Nat) (aW : Nat) (aB : Nat) (aL : Nat) (aS : Nat) (aV : Nat) (aC : Nat) (a7 : Nat) (a8 : Nat) (a9 : Nat) (a10 : Nat) (aE : Nat) (what : Int32) (bound : Int32) (g0 : what < 0 ∨ 2 < what ∨ bound < 0 ∨ (if what = 2 then (10 : Int32) else 16) < bound) : xt_Met l y_LS_work (Cond.code y_LS_work b_LS_work 4 (Option.some Jvm.ClassFile.FieldType.int) :: wd) { frames := 7, cells := 1, slots := 6, locals := 121 } (va_Pc [.ref h0, .int what, .int bound] (fun U => va_P (dC, dI) cls [(h0, .inr (0, [.ref aT, .ref aW, .ref aB, .ref aL, .ref aS, .ref aV, .ref aC, .ref a7, .ref a8, .ref a9, .ref a10, .ref aE, .int 0, .int 0, .int 0, .int (-1)]))] U.heap ∧ va_K (dC, dI) cls [] U ∧ nw_ok U ∧ xs_ok U)) (fun _ st x t => xt_X "java/lang/IllegalArgumentException" st x t) 1 6 (fun _ => False) := by
  refine xt_ofW (cc := b_LS_work) (maxL := 4) (ret := (Option.some Jvm.ClassFile.FieldType.int)) (by decide) rfl ?_
  intro p e s m args below meth c s₁ B hml hne hv
  obtain ⟨rfl, hP, hK, hN, hX⟩ := hv
  have hx := B.exec
  have hb := B.bytes
  have hr := B.returns
  have hlocks := B.notSynchronized
  have hts : ∀ w ∈ wd, w.before ([.ref h0, .int what, .int bound] : List Value).toArray s = true := fun w hw => atoms_spec (ws := (Cond.code y_LS_work b_LS_work 4 (Option.some Jvm.ClassFile.FieldType.int) :: wd)) B.pre w (List.mem_cons_of_mem _ hw)
  have hown : s.vm.findClass "LeastSolutions" = some m.cls := findClass_of_methodNamed B.named
  have hS : va_S (fun _ => False) s.heap s.heap [] := va_S.rf
  have hl := lv_entry ([.ref h0, .int what, .int bound]) (n := 4) (Nat.le_of_ble_eq_true rfl)
  rw [lg_entry_eq]
  generalize (lg_sl ([.ref h0, .int what, .int bound]) ++ List.replicate (4 - (lg_sl ([.ref h0, .int what, .int bound])).length) Slot.unset).toArray = ls at hl ⊢
  have hl : lv_has ls 4 [(0, .ref h0), (1, .int what), (2, .int bound)] := hl
  refine lv_iload_n hx hb d_LS_work_0 rfl (lv_at hl 1 rfl) ?_
  refine lv_if_lt (tgt := 9) hx hb d_LS_work_1 (by decide) (fun hc1 => ?_) (fun hc1 => ?_)
  · exact xt_throw (names := ["java/lang/RuntimeException", "java/lang/Exception"]) (ia := 146) (ic := 148) hx hb htr hml hl hne hlocks hown (by decide +kernel) (by decide +kernel) (hts _ k_735) (hts _ k_19) (oa_IAE hts hX) d_LS_work_9 d_LS_work_12 d_LS_work_13 d_LS_work_16 (Nat.le_of_ble_eq_true rfl) (Nat.le_of_ble_eq_true rfl) (Nat.le_of_ble_eq_true rfl) (Nat.le_of_ble_eq_true rfl)
  · refine lv_iload_n hx hb d_LS_work_4 rfl (lv_at hl 1 rfl) ?_
    refine lv_iconst (v := 2) hx hb d_LS_work_5 (by decide) ?_
    refine lv_icmp_le (tgt := 17) hx hb d_LS_work_6 (by decide) (fun hc2 => ?_) (fun hc2 => ?_)
    · refine lv_iload_n hx hb d_LS_work_17 rfl (lv_at hl 2 rfl) ?_
      refine lv_iload_n hx hb d_LS_work_18 rfl (lv_at hl 1 rfl) ?_
      refine lv_iconst (v := 2) hx hb d_LS_work_19 (by decide) ?_
      refine lv_icmp_ne (tgt := 28) hx hb d_LS_work_20 (by decide) (fun hc3 => ?_) (fun hc3 => ?_)
      · refine lv_bipush (v := 16) hx hb d_LS_work_28 (by decide) ?_
        exact xt_out (xt_runS (As := [.int bound, .int 16]) (rest := []) ⟨hx, hb, hml, hown, hts⟩ (c_LS_needBound_thr l htr dC dI (bound) (16) (((g0.resolve_left hc1).resolve_left (Int32.not_lt.mpr hc2)).imp id (fun g => by simpa [hc3] using g))) (wd_S 2 hts k_752 k_1 k_750 k_751 rfl rfl (by decide +kernel) ⟨Nat.le_of_ble_eq_true rfl, Nat.le_of_ble_eq_true rfl⟩) ⟨fun a U g mk q => by obtain ⟨q0, qP, qK, qN, qX⟩ := q; exact ⟨q0, qP, va_K.moved (u := U) (U := U.calling g mk a) (Vm.Alike.refl U.vm) qK, nw_ok.same (s := U) (U := U.calling g mk a) rfl qN, xs_ok.moved (s := U) (Vm.Alike.refl U.vm) (fun _ _ => rfl) qX⟩, fun U hU hW => ⟨rfl, by rw [hU]; exact hP.sub (ws' := []) [] rfl, va_K.moved hW.alike (hK.sub (tys' := []) [] rfl), nw_ok.warm hW hN, xs_ok.moved hW.alike (fun q _ => by rw [hU]) hX⟩⟩ rfl rfl hl.1 rfl (lv_room (Nat.le_of_ble_eq_true rfl)) d_LS_work_30 ⟨Nat.le_of_ble_eq_true rfl, Nat.le_of_ble_eq_true rfl⟩) hne hlocks
      · refine lv_bipush (v := 10) hx hb d_LS_work_23 (by decide) ?_
        refine lv_goto (tgt := 30) hx hb d_LS_work_25 (by decide) ?_
        exact xt_out (xt_runS (As := [.int bound, .int 10]) (rest := []) ⟨hx, hb, hml, hown, hts⟩ (c_LS_needBound_thr l htr dC dI (bound) (10) (((g0.resolve_left hc1).resolve_left (Int32.not_lt.mpr hc2)).imp id (fun g => by simpa [hc3] using g))) (wd_S 2 hts k_752 k_1 k_750 k_751 rfl rfl (by decide +kernel) ⟨Nat.le_of_ble_eq_true rfl, Nat.le_of_ble_eq_true rfl⟩) ⟨fun a U g mk q => by obtain ⟨q0, qP, qK, qN, qX⟩ := q; exact ⟨q0, qP, va_K.moved (u := U) (U := U.calling g mk a) (Vm.Alike.refl U.vm) qK, nw_ok.same (s := U) (U := U.calling g mk a) rfl qN, xs_ok.moved (s := U) (Vm.Alike.refl U.vm) (fun _ _ => rfl) qX⟩, fun U hU hW => ⟨rfl, by rw [hU]; exact hP.sub (ws' := []) [] rfl, va_K.moved hW.alike (hK.sub (tys' := []) [] rfl), nw_ok.warm hW hN, xs_ok.moved hW.alike (fun q _ => by rw [hU]) hX⟩⟩ rfl rfl hl.1 rfl (lv_room (Nat.le_of_ble_eq_true rfl)) d_LS_work_30 ⟨Nat.le_of_ble_eq_true rfl, Nat.le_of_ble_eq_true rfl⟩) hne hlocks
    · exact xt_throw (names := ["java/lang/RuntimeException", "java/lang/Exception"]) (ia := 146) (ic := 148) hx hb htr hml hl hne hlocks hown (by decide +kernel) (by decide +kernel) (hts _ k_735) (hts _ k_19) (oa_IAE hts hX) d_LS_work_9 d_LS_work_12 d_LS_work_13 d_LS_work_16 (Nat.le_of_ble_eq_true rfl) (Nat.le_of_ble_eq_true rfl) (Nat.le_of_ble_eq_true rfl) (Nat.le_of_ble_eq_true rfl)

set_option maxHeartbeats 4000000 in
set_option maxRecDepth 100000 in
theorem c_LS_work_IS (l : Launch) (htr : l.stackTraces = false) (dC : Nat → ClassId) (dI : Nat → Nat → Nat) (h0 : Nat) (aT : Nat) (aW : Nat) (aB : Nat) (aL : Nat) (aS : Nat) (aV : Nat) (aC : Nat) (a7 : Nat) (a8 : Nat) (a9 : Nat) (a10 : Nat) (aE : Nat) (what : Int32) (bound : Int32) (g1 : ¬ what < 0) (g2 : ¬ 2 < what) (g3 : ¬ bound < 0) (g4 : ¬ (if what = 2 then (10 : Int32) else 16) < bound) : xt_Met l y_LS_work (Cond.code y_LS_work b_LS_work 4 (Option.some Jvm.ClassFile.FieldType.int) :: wd) { frames := 7, cells := 1, slots := 6, locals := 120 } (va_Pc [.ref h0, .int what, .int bound] (fun U => va_P (dC, dI) cls [(h0, .inr (0, [.ref aT, .ref aW, .ref aB, .ref aL, .ref aS, .ref aV, .ref aC, .ref a7, .ref a8, .ref a9, .ref a10, .ref aE, .int 0, .int 0, .int 0, .int (-1)]))] U.heap ∧ va_K (dC, dI) cls [] U ∧ nw_ok U ∧ xs_ok U)) (fun _ st x t => xt_X "java/lang/IllegalStateException" st x t) 1 6 (fun _ => False) := by
  refine xt_ofW (cc := b_LS_work) (maxL := 4) (ret := (Option.some Jvm.ClassFile.FieldType.int)) (by decide) rfl ?_
  intro p e s m args below meth c s₁ B hml hne hv
  obtain ⟨rfl, hP, hK, hN, hX⟩ := hv
  have hx := B.exec
  have hb := B.bytes
  have hr := B.returns
  have hlocks := B.notSynchronized
  have hts : ∀ w ∈ wd, w.before ([.ref h0, .int what, .int bound] : List Value).toArray s = true := fun w hw => atoms_spec (ws := (Cond.code y_LS_work b_LS_work 4 (Option.some Jvm.ClassFile.FieldType.int) :: wd)) B.pre w (List.mem_cons_of_mem _ hw)
  have hown : s.vm.findClass "LeastSolutions" = some m.cls := findClass_of_methodNamed B.named
  have hS : va_S (fun _ => False) s.heap s.heap [] := va_S.rf
  have hl := lv_entry ([.ref h0, .int what, .int bound]) (n := 4) (Nat.le_of_ble_eq_true rfl)
  rw [lg_entry_eq]
  generalize (lg_sl ([.ref h0, .int what, .int bound]) ++ List.replicate (4 - (lg_sl ([.ref h0, .int what, .int bound])).length) Slot.unset).toArray = ls at hl ⊢
  have hl : lv_has ls 4 [(0, .ref h0), (1, .int what), (2, .int bound)] := hl
  refine lv_iload_n hx hb d_LS_work_0 rfl (lv_at hl 1 rfl) ?_
  refine lv_if_lt (tgt := 9) hx hb d_LS_work_1 (by decide) (fun h9 => absurd h9 (g1)) (fun _ => ?_)
  refine lv_iload_n hx hb d_LS_work_4 rfl (lv_at hl 1 rfl) ?_
  refine lv_iconst (v := 2) hx hb d_LS_work_5 (by decide) ?_
  refine lv_icmp_le (tgt := 17) hx hb d_LS_work_6 (by decide) (fun _ => ?_) (fun h9 => absurd (Int32.not_lt.mp g2) h9)
  refine lv_iload_n hx hb d_LS_work_17 rfl (lv_at hl 2 rfl) ?_
  refine lv_iload_n hx hb d_LS_work_18 rfl (lv_at hl 1 rfl) ?_
  refine lv_iconst (v := 2) hx hb d_LS_work_19 (by decide) ?_
  refine lv_icmp_ne (tgt := 28) hx hb d_LS_work_20 (by decide) (fun hc1 => ?_) (fun hc1 => ?_)
  · refine lv_bipush (v := 16) hx hb d_LS_work_28 (by decide) ?_
    refine pu_callv (va_runS (As := [.int bound, .int 16]) (rest := []) ⟨hx, hb, hml, hown, hts⟩ (c_LS_needBound l dC dI (bound) (16) (g3) (by simpa [hc1] using g4)) (wd_S 2 hts k_752 k_1 k_750 k_751 rfl rfl (by decide +kernel) ⟨Nat.le_of_ble_eq_true rfl, Nat.le_of_ble_eq_true rfl⟩) ⟨fun a U g mk q => by obtain ⟨q0, qP, qK, qN⟩ := q; exact ⟨q0, qP, va_K.moved (u := U) (U := U.calling g mk a) (Vm.Alike.refl U.vm) qK, nw_ok.same (s := U) (U := U.calling g mk a) rfl qN⟩, fun U hU hW => ⟨rfl, by rw [hU]; exact hP.sub (ws' := []) [] rfl, va_K.moved hW.alike (hK.sub (tys' := []) [] rfl), nw_ok.warm hW hN⟩⟩ rfl rfl hl.1 rfl (lv_room (Nat.le_of_ble_eq_true rfl)) d_LS_work_30 ⟨Nat.le_of_ble_eq_true rfl, Nat.le_of_ble_eq_true rfl⟩) ?_
    refine lv_aload_n hx hb d_LS_work_33 rfl (lv_at hl 0 rfl) ?_
    exact xt_out (xt_runV (As := []) (rest := []) ⟨hx, hb, hml, hown, hts⟩ (c_LS_needSystem l htr dC dI (h0) (aT) (aW) (aB) (aL) (aS) (aV) (aC) (a7) (a8) (a9) (a10) (aE)) (wd_V (C := "LeastSolutions") 0 hts k_681 k_1 k_678 k_680 ks_LS_needSystem rfl rfl (by decide +kernel) ⟨Nat.le_of_ble_eq_true rfl, Nat.le_of_ble_eq_true rfl⟩) ⟨fun a U g mk q => by obtain ⟨q0, qP, qK, qN, qX⟩ := q; exact ⟨q0, qP, va_K.moved (u := U) (U := U.calling g mk a) (Vm.Alike.refl U.vm) qK, nw_ok.same (s := U) (U := U.calling g mk a) rfl qN, xs_ok.moved (s := U) (Vm.Alike.refl U.vm) (fun _ _ => rfl) qX⟩, va_recv (ci := 0) (q0 := 0) hK hP rfl rfl, fun U hU hW => ⟨rfl, by rw [hU]; exact hP.sub (ws' := [(h0, .inr (0, [.ref aT, .ref aW, .ref aB, .ref aL, .ref aS, .ref aV, .ref aC, .ref a7, .ref a8, .ref a9, .ref a10, .ref aE, .int 0, .int 0, .int 0, .int (-1)]))]) [0] rfl, va_K.moved hW.alike (hK.sub (tys' := []) [] rfl), nw_ok.warm hW hN, xs_ok.moved hW.alike (fun q _ => by rw [hU]) hX⟩⟩ rfl rfl hl.1 rfl (lv_room (Nat.le_of_ble_eq_true rfl)) d_LS_work_34 ⟨Nat.le_of_ble_eq_true rfl, Nat.le_of_ble_eq_true rfl⟩) hne hlocks
  · refine lv_bipush (v := 10) hx hb d_LS_work_23 (by decide) ?_
    refine lv_goto (tgt := 30) hx hb d_LS_work_25 (by decide) ?_
    refine pu_callv (va_runS (As := [.int bound, .int 10]) (rest := []) ⟨hx, hb, hml, hown, hts⟩ (c_LS_needBound l dC dI (bound) (10) (g3) (by simpa [hc1] using g4)) (wd_S 2 hts k_752 k_1 k_750 k_751 rfl rfl (by decide +kernel) ⟨Nat.le_of_ble_eq_true rfl, Nat.le_of_ble_eq_true rfl⟩) ⟨fun a U g mk q => by obtain ⟨q0, qP, qK, qN⟩ := q; exact ⟨q0, qP, va_K.moved (u := U) (U := U.calling g mk a) (Vm.Alike.refl U.vm) qK, nw_ok.same (s := U) (U := U.calling g mk a) rfl qN⟩, fun U hU hW => ⟨rfl, by rw [hU]; exact hP.sub (ws' := []) [] rfl, va_K.moved hW.alike (hK.sub (tys' := []) [] rfl), nw_ok.warm hW hN⟩⟩ rfl rfl hl.1 rfl (lv_room (Nat.le_of_ble_eq_true rfl)) d_LS_work_30 ⟨Nat.le_of_ble_eq_true rfl, Nat.le_of_ble_eq_true rfl⟩) ?_
    refine lv_aload_n hx hb d_LS_work_33 rfl (lv_at hl 0 rfl) ?_
    exact xt_out (xt_runV (As := []) (rest := []) ⟨hx, hb, hml, hown, hts⟩ (c_LS_needSystem l htr dC dI (h0) (aT) (aW) (aB) (aL) (aS) (aV) (aC) (a7) (a8) (a9) (a10) (aE)) (wd_V (C := "LeastSolutions") 0 hts k_681 k_1 k_678 k_680 ks_LS_needSystem rfl rfl (by decide +kernel) ⟨Nat.le_of_ble_eq_true rfl, Nat.le_of_ble_eq_true rfl⟩) ⟨fun a U g mk q => by obtain ⟨q0, qP, qK, qN, qX⟩ := q; exact ⟨q0, qP, va_K.moved (u := U) (U := U.calling g mk a) (Vm.Alike.refl U.vm) qK, nw_ok.same (s := U) (U := U.calling g mk a) rfl qN, xs_ok.moved (s := U) (Vm.Alike.refl U.vm) (fun _ _ => rfl) qX⟩, va_recv (ci := 0) (q0 := 0) hK hP rfl rfl, fun U hU hW => ⟨rfl, by rw [hU]; exact hP.sub (ws' := [(h0, .inr (0, [.ref aT, .ref aW, .ref aB, .ref aL, .ref aS, .ref aV, .ref aC, .ref a7, .ref a8, .ref a9, .ref a10, .ref aE, .int 0, .int 0, .int 0, .int (-1)]))]) [0] rfl, va_K.moved hW.alike (hK.sub (tys' := []) [] rfl), nw_ok.warm hW hN, xs_ok.moved hW.alike (fun q _ => by rw [hU]) hX⟩⟩ rfl rfl hl.1 rfl (lv_room (Nat.le_of_ble_eq_true rfl)) d_LS_work_34 ⟨Nat.le_of_ble_eq_true rfl, Nat.le_of_ble_eq_true rfl⟩) hne hlocks
