theorem x3_of {x : Int32} (h1 : ¬ x < 0) (h2 : ¬ 2 < x) : x = 0 ∨ x = 1 ∨ x = 2 := by
  obtain ⟨j, hj, rfl⟩ := nI_of2 (M := 2) (n := 2) (by decide) h1 (Int32.not_lt.mp h2)
  rcases (show j = 0 ∨ j = 1 ∨ j = 2 by omega) with rfl | rfl | rfl
  · exact Or.inl rfl
  · exact Or.inr (Or.inl rfl)
  · exact Or.inr (Or.inr rfl)
set_option maxHeartbeats 4000000 in
set_option maxRecDepth 100000 in
theorem c_LS_canSplit (l : Launch) (dC : Nat → ClassId) (dI : Nat → Nat → Nat) (h0 : Nat) (aT : Nat) (aW : Nat) (aB : Nat) (aL : Nat) (aS : Nat) (aV : Nat) (aC : Nat) (a7 : Nat) (a8 : Nat) (a9 : Nat) (a10 : Nat) (aE : Nat) (cV : ClassId) (fV : Nat → Option Nat) (v0 : Nat) (v1 : Nat) (v2 : Nat) (n0 : Nat) (n1 : Nat) (n2 : Nat) (hf0 : fV 0 = some v0) (hf1 : fV 1 = some v1) (hf2 : fV 2 = some v2) : Met l y_LS_canSplit (Cond.code y_LS_canSplit b_LS_canSplit 4 (Option.some Jvm.ClassFile.FieldType.boolean) :: wd) { frames := 0, cells := 0, slots := 0, locals := 0 } (va_Pc [.ref h0] (fun U => va_P (dC, dI) cls [(h0, .inr (0, [.ref aT, .ref aW, .ref aB, .ref aL, .ref aS, .ref aV, .ref aC, .ref a7, .ref a8, .ref a9, .ref a10, .ref aE, .int 0, .int 0, .int 0, .int (-1)])), (aV, .inl (cV, 3, .inr (.inr (.inr (.inr fV))))), (v0, .inr (7, [.ref n0, .int 0, .int 0, .int 0, .int 0, .int 0])), (v1, .inr (7, [.ref n1, .int 0, .int 0, .int 0, .int 0, .int 0])), (v2, .inr (7, [.ref n2, .int 0, .int 0, .int 0, .int 0, .int 0]))] U.heap ∧ va_K (dC, dI) cls [(cV, .object "LeastSolutions$VectorList")] U ∧ nw_ok U)) (va_Qi (fun r (_ : Unit) => r = 0) (fun _ _ => True) (fun _ => False)) 0 0 (fun _ => False) := by
  refine Met.ofW (cc := b_LS_canSplit) (maxL := 4) (ret := (Option.some Jvm.ClassFile.FieldType.boolean)) (by decide) rfl ?_
  intro p e s m args below meth c s₁ B hml hv
  obtain ⟨rfl, hP, hK, hN⟩ := hv
  have hx := B.exec
  have hb := B.bytes
  have hr := B.returns
  have hlocks := B.notSynchronized
  have hts : ∀ w ∈ wd, w.before ([.ref h0] : List Value).toArray s = true := fun w hw => atoms_spec (ws := (Cond.code y_LS_canSplit b_LS_canSplit 4 (Option.some Jvm.ClassFile.FieldType.boolean) :: wd)) B.pre w (List.mem_cons_of_mem _ hw)
  have hown : s.vm.findClass "LeastSolutions" = some m.cls := findClass_of_methodNamed B.named
  have hS : va_S (fun _ => False) s.heap s.heap [] := va_S.rf
  have hl := lv_entry ([.ref h0]) (n := 4) (Nat.le_of_ble_eq_true rfl)
  rw [lg_entry_eq]
  generalize (lg_sl ([.ref h0]) ++ List.replicate (4 - (lg_sl ([.ref h0])).length) Slot.unset).toArray = ls at hl ⊢
  have hl : lv_has ls 4 [(0, .ref h0)] := hl
  refine lv_aload_n hx hb d_LS_canSplit_0 rfl (lv_at hl 0 rfl) ?_
  refine va_get (D := (dC, dI)) (ci := 0) (v := .ref aV) (C := R_LS) (T := T_LS) (N := 16) hx hb hts in_LS hown hK hP 0 rfl rfl 5 (by decide) (hts _ k_294) (fun _ h9 => h9) rfl d_LS_canSplit_1 ?_
  refine lv_iconst (v := 0) hx hb d_LS_canSplit_4 (by decide) ?_
  refine va_aldq (C := "LeastSolutions$VectorList") hx hb hK hP 1 0 rfl rfl (show ¬ ((0 : Int32) < 0 ∨ 3 ≤ (0 : Int32).toNatClampNeg) from by decide) d_LS_canSplit_5 ?_
  rw [show va_rf (fV (0 : Int32).toNatClampNeg) = .ref v0 from by rw [show (0 : Int32).toNatClampNeg = 0 from by decide, hf0]; rfl]
  refine lv_astore_n hx hb d_LS_canSplit_6 rfl hl (by decide) rfl (fun ls hl => ?_)
  have hl : lv_has ls 4 [(1, .ref v0), (0, .ref h0)] := hl
  refine lv_aload_n hx hb d_LS_canSplit_7 rfl (lv_at hl 1 rfl) ?_
  refine va_get (D := (dC, dI)) (ci := 0) (v := .ref aV) (C := R_LS) (T := T_LS) (N := 16) hx hb hts in_LS hown hK hP 0 rfl rfl 5 (by decide) (hts _ k_294) (fun _ h9 => h9) rfl d_LS_canSplit_8 ?_
  refine lv_iconst (v := 1) hx hb d_LS_canSplit_11 (by decide) ?_
  refine va_aldq (C := "LeastSolutions$VectorList") hx hb hK hP 1 0 rfl rfl (show ¬ ((1 : Int32) < 0 ∨ 3 ≤ (1 : Int32).toNatClampNeg) from by decide) d_LS_canSplit_12 ?_
  rw [show va_rf (fV (1 : Int32).toNatClampNeg) = .ref v1 from by rw [show (1 : Int32).toNatClampNeg = 1 from by decide, hf1]; rfl]
  refine lv_astore_n hx hb d_LS_canSplit_13 rfl hl (by decide) rfl (fun ls hl => ?_)
  have hl : lv_has ls 4 [(2, .ref v1), (1, .ref v0), (0, .ref h0)] := hl
  refine lv_aload_n hx hb d_LS_canSplit_14 rfl (lv_at hl 1 rfl) ?_
  refine va_getN (D := (dC, dI)) (ci := 7) (v := .int 0) (C := R_VL) (T := T_VL) (N := 6) hx hb hts in_VL hown hK hP 2 rfl rfl 1 (by decide) (va_Nw.use rfl (hN.1 (Jvm.Cond.fieldLinkNest "LeastSolutions" (164 : Nat) "LeastSolutions$VectorList" "isThere" "Z" "LeastSolutions") nw_38)) (fun _ h9 => h9) rfl d_LS_canSplit_15 ?_
  refine lv_if_eq (tgt := 53) hx hb d_LS_canSplit_18 (by decide) (fun _ => ?_) (fun h9 => absurd (by decide) h9)
  refine lv_iconst (v := 0) hx hb d_LS_canSplit_53 (by decide) ?_
  exact W.zret (v := 0) (ty := .boolean) hx hb hr (by decide +kernel) (fun t ht hW => ⟨⟨0, (), rfl, rfl, trivial⟩, hS.F ht⟩) hS.2.2 d_LS_canSplit_54

set_option maxHeartbeats 4000000 in
set_option maxRecDepth 100000 in
theorem c_LS_split (l : Launch) (dC : Nat → ClassId) (dI : Nat → Nat → Nat) (h0 : Nat) (aT : Nat) (aW : Nat) (aB : Nat) (aL : Nat) (aS : Nat) (aV : Nat) (aC : Nat) (a7 : Nat) (a8 : Nat) (a9 : Nat) (a10 : Nat) (aE : Nat) (cV : ClassId) (fV : Nat → Option Nat) (v0 : Nat) (v1 : Nat) (v2 : Nat) (n0 : Nat) (n1 : Nat) (n2 : Nat) (hf0 : fV 0 = some v0) (hf1 : fV 1 = some v1) (hf2 : fV 2 = some v2) : Met l y_LS_split (Cond.code y_LS_split b_LS_split 3 (Option.some Jvm.ClassFile.FieldType.int) :: wd) { frames := 1, cells := 0, slots := 0, locals := 23 } (va_Pc [.ref h0] (fun U => va_P (dC, dI) cls [(h0, .inr (0, [.ref aT, .ref aW, .ref aB, .ref aL, .ref aS, .ref aV, .ref aC, .ref a7, .ref a8, .ref a9, .ref a10, .ref aE, .int 0, .int 0, .int 0, .int (-1)])), (aV, .inl (cV, 3, .inr (.inr (.inr (.inr fV))))), (v0, .inr (7, [.ref n0, .int 0, .int 0, .int 0, .int 0, .int 0])), (v1, .inr (7, [.ref n1, .int 0, .int 0, .int 0, .int 0, .int 0])), (v2, .inr (7, [.ref n2, .int 0, .int 0, .int 0, .int 0, .int 0]))] U.heap ∧ va_K (dC, dI) cls [(cV, .object "LeastSolutions$VectorList")] U ∧ nw_ok U)) (va_Qi (fun r (_ : Unit) => r = (-1)) (fun _ _ => True) (fun _ => False)) 0 0 (fun _ => False) := by
  refine Met.ofW (cc := b_LS_split) (maxL := 3) (ret := (Option.some Jvm.ClassFile.FieldType.int)) (by decide) rfl ?_
  intro p e s m args below meth c s₁ B hml hv
  obtain ⟨rfl, hP, hK, hN⟩ := hv
  have hx := B.exec
  have hb := B.bytes
  have hr := B.returns
  have hlocks := B.notSynchronized
  have hts : ∀ w ∈ wd, w.before ([.ref h0] : List Value).toArray s = true := fun w hw => atoms_spec (ws := (Cond.code y_LS_split b_LS_split 3 (Option.some Jvm.ClassFile.FieldType.int) :: wd)) B.pre w (List.mem_cons_of_mem _ hw)
  have hown : s.vm.findClass "LeastSolutions" = some m.cls := findClass_of_methodNamed B.named
  have hS : va_S (fun _ => False) s.heap s.heap [] := va_S.rf
  have hl := lv_entry ([.ref h0]) (n := 3) (Nat.le_of_ble_eq_true rfl)
  rw [lg_entry_eq]
  generalize (lg_sl ([.ref h0]) ++ List.replicate (3 - (lg_sl ([.ref h0])).length) Slot.unset).toArray = ls at hl ⊢
  have hl : lv_has ls 3 [(0, .ref h0)] := hl
  refine lv_aload_n hx hb d_LS_split_0 rfl (lv_at hl 0 rfl) ?_
  refine pu_calli (va_runV (As := []) (rest := []) ⟨hx, hb, hml, hown, hts⟩ (c_LS_canSplit l dC dI (h0) (aT) (aW) (aB) (aL) (aS) (aV) (aC) (a7) (a8) (a9) (a10) (aE) (cV) (fV) (v0) (v1) (v2) (n0) (n1) (n2) (hf0) (hf1) (hf2)) (wd_V (C := "LeastSolutions") 0 hts k_546 k_1 k_543 k_545 ks_LS_canSplit rfl rfl (by decide +kernel) ⟨Nat.le_of_ble_eq_true rfl, Nat.le_of_ble_eq_true rfl⟩) ⟨fun a U g mk q => by obtain ⟨q0, qP, qK, qN⟩ := q; exact ⟨q0, qP, va_K.moved (u := U) (U := U.calling g mk a) (Vm.Alike.refl U.vm) qK, nw_ok.same (s := U) (U := U.calling g mk a) rfl qN⟩, va_recv (ci := 0) (q0 := 0) hK hP rfl rfl, fun U hU hW => ⟨rfl, by rw [hU]; exact hP.sub (ws' := [(h0, .inr (0, [.ref aT, .ref aW, .ref aB, .ref aL, .ref aS, .ref aV, .ref aC, .ref a7, .ref a8, .ref a9, .ref a10, .ref aE, .int 0, .int 0, .int 0, .int (-1)])), (aV, .inl (cV, 3, .inr (.inr (.inr (.inr fV))))), (v0, .inr (7, [.ref n0, .int 0, .int 0, .int 0, .int 0, .int 0])), (v1, .inr (7, [.ref n1, .int 0, .int 0, .int 0, .int 0, .int 0])), (v2, .inr (7, [.ref n2, .int 0, .int 0, .int 0, .int 0, .int 0]))]) [0, 1, 2, 3, 4] rfl, va_K.moved hW.alike (hK.sub (tys' := [(cV, .object "LeastSolutions$VectorList")]) [0] rfl), nw_ok.warm hW hN⟩⟩ rfl rfl hl.1 rfl (lv_room (Nat.le_of_ble_eq_true rfl)) d_LS_split_1 ⟨Nat.le_of_ble_eq_true rfl, Nat.le_of_ble_eq_true rfl⟩) (fun r1 hr1 => ?_)
  try dsimp only at hr1
  subst hr1
  refine lv_if_ne (tgt := 9) hx hb d_LS_split_4 (by decide) (fun h9 => absurd (by decide) h9) (fun _ => ?_)
  refine lv_iconst (v := (-1)) hx hb d_LS_split_7 (by decide) ?_
  exact W.iret (v := (-1)) hx hb hr (fun t ht hW => ⟨⟨(-1), (), rfl, rfl, trivial⟩, hS.F ht⟩) hS.2.2 d_LS_split_8

set_option maxHeartbeats 4000000 in
set_option maxRecDepth 100000 in
theorem c_LS_at (l : Launch) (htr : l.stackTraces = false) (dC : Nat → ClassId) (dI : Nat → Nat → Nat) (h0 : Nat) (aT : Nat) (aW : Nat) (aB : Nat) (aL : Nat) (aS : Nat) (aV : Nat) (aC : Nat) (a7 : Nat) (a8 : Nat) (a9 : Nat) (a10 : Nat) (aE : Nat) (cV : ClassId) (fV : Nat → Option Nat) (v0 : Nat) (v1 : Nat) (v2 : Nat) (n0 : Nat) (n1 : Nat) (n2 : Nat) (what : Int32) (i : Int32) (column : Int32) (hf0 : fV 0 = some v0) (hf1 : fV 1 = some v1) (hf2 : fV 2 = some v2) : xt_Met l y_LS_at (Cond.code y_LS_at b_LS_at 4 (Option.some Jvm.ClassFile.FieldType.int) :: wd) { frames := 6, cells := 1, slots := 6, locals := 100 } (va_Pc [.ref h0, .int what, .int i, .int column] (fun U => va_P (dC, dI) cls [(h0, .inr (0, [.ref aT, .ref aW, .ref aB, .ref aL, .ref aS, .ref aV, .ref aC, .ref a7, .ref a8, .ref a9, .ref a10, .ref aE, .int 0, .int 0, .int 0, .int (-1)])), (aV, .inl (cV, 3, .inr (.inr (.inr (.inr fV))))), (v0, .inr (7, [.ref n0, .int 0, .int 0, .int 0, .int 0, .int 0])), (v1, .inr (7, [.ref n1, .int 0, .int 0, .int 0, .int 0, .int 0])), (v2, .inr (7, [.ref n2, .int 0, .int 0, .int 0, .int 0, .int 0]))] U.heap ∧ va_K (dC, dI) cls [(cV, .object "LeastSolutions$VectorList")] U ∧ nw_ok U ∧ xs_ok U)) (fun _ st x t => xt_X "java/lang/IndexOutOfBoundsException" st x t) 1 6 (fun _ => False) := by
  refine xt_ofW (cc := b_LS_at) (maxL := 4) (ret := (Option.some Jvm.ClassFile.FieldType.int)) (by decide) rfl ?_
  intro p e s m args below meth c s₁ B hml hne hv
  obtain ⟨rfl, hP, hK, hN, hX⟩ := hv
  have hx := B.exec
  have hb := B.bytes
  have hr := B.returns
  have hlocks := B.notSynchronized
  have hts : ∀ w ∈ wd, w.before ([.ref h0, .int what, .int i, .int column] : List Value).toArray s = true := fun w hw => atoms_spec (ws := (Cond.code y_LS_at b_LS_at 4 (Option.some Jvm.ClassFile.FieldType.int) :: wd)) B.pre w (List.mem_cons_of_mem _ hw)
  have hown : s.vm.findClass "LeastSolutions" = some m.cls := findClass_of_methodNamed B.named
  have hS : va_S (fun _ => False) s.heap s.heap [] := va_S.rf
  have hl := lv_entry ([.ref h0, .int what, .int i, .int column]) (n := 4) (Nat.le_of_ble_eq_true rfl)
  rw [lg_entry_eq]
  generalize (lg_sl ([.ref h0, .int what, .int i, .int column]) ++ List.replicate (4 - (lg_sl ([.ref h0, .int what, .int i, .int column])).length) Slot.unset).toArray = ls at hl ⊢
  have hl : lv_has ls 4 [(0, .ref h0), (1, .int what), (2, .int i), (3, .int column)] := hl
  refine lv_iload_n hx hb d_LS_at_0 rfl (lv_at hl 1 rfl) ?_
  refine lv_if_lt (tgt := 22) hx hb d_LS_at_1 (by decide) (fun hc1 => ?_) (fun hc1 => ?_)
  · exact xt_throw (names := ["java/lang/RuntimeException", "java/lang/Exception"]) (ia := 118) (ic := 120) hx hb htr hml hl hne hlocks hown (by decide +kernel) (by decide +kernel) (hts _ k_606) (hts _ k_17) (oa_IOOBE hts hX) d_LS_at_22 d_LS_at_25 d_LS_at_26 d_LS_at_29 (Nat.le_of_ble_eq_true rfl) (Nat.le_of_ble_eq_true rfl) (Nat.le_of_ble_eq_true rfl) (Nat.le_of_ble_eq_true rfl)
  · refine lv_iload_n hx hb d_LS_at_4 rfl (lv_at hl 1 rfl) ?_
    refine lv_iconst (v := 2) hx hb d_LS_at_5 (by decide) ?_
    refine lv_icmp_gt (tgt := 22) hx hb d_LS_at_6 (by decide) (fun hc2 => ?_) (fun hc2 => ?_)
    · exact xt_throw (names := ["java/lang/RuntimeException", "java/lang/Exception"]) (ia := 118) (ic := 120) hx hb htr hml hl hne hlocks hown (by decide +kernel) (by decide +kernel) (hts _ k_606) (hts _ k_17) (oa_IOOBE hts hX) d_LS_at_22 d_LS_at_25 d_LS_at_26 d_LS_at_29 (Nat.le_of_ble_eq_true rfl) (Nat.le_of_ble_eq_true rfl) (Nat.le_of_ble_eq_true rfl) (Nat.le_of_ble_eq_true rfl)
    · rcases x3_of hc1 hc2 with rfl | rfl | rfl
      · refine lv_aload_n hx hb d_LS_at_9 rfl (lv_at hl 0 rfl) ?_
        refine va_get (D := (dC, dI)) (ci := 0) (v := .ref aV) (C := R_LS) (T := T_LS) (N := 16) hx hb hts in_LS hown hK hP 0 rfl rfl 5 (by decide) (hts _ k_294) (fun _ h9 => h9) rfl d_LS_at_10 ?_
        refine lv_iload_n hx hb d_LS_at_13 rfl (lv_at hl 1 rfl) ?_
        refine va_aldq (C := "LeastSolutions$VectorList") hx hb hK hP 1 0 rfl rfl (show ¬ ((0 : Int32) < 0 ∨ 3 ≤ (0 : Int32).toNatClampNeg) from by decide) d_LS_at_14 ?_
        rw [show va_rf (fV (0 : Int32).toNatClampNeg) = .ref v0 from by rw [show (0 : Int32).toNatClampNeg = 0 from by decide, hf0]; rfl]
        refine lv_iload_n hx hb d_LS_at_15 rfl (lv_at hl 2 rfl) ?_
        refine pu_calli (va_runV (As := [.int i]) (rest := []) ⟨hx, hb, hml, hown, hts⟩ (c_VL_has l dC dI (v0) (n0) (i)) (wd_V (C := "LeastSolutions$VectorList") 1 hts k_589 k_10 k_586 k_587 k_588 rfl rfl (by decide +kernel) ⟨Nat.le_of_ble_eq_true rfl, Nat.le_of_ble_eq_true rfl⟩) ⟨fun a U g mk q => by obtain ⟨q0, qP, qK, qN⟩ := q; exact ⟨q0, qP, va_K.moved (u := U) (U := U.calling g mk a) (Vm.Alike.refl U.vm) qK, nw_ok.same (s := U) (U := U.calling g mk a) rfl qN⟩, va_recv (ci := 7) (q0 := 2) hK hP rfl rfl, fun U hU hW => ⟨rfl, by rw [hU]; exact hP.sub (ws' := [(v0, .inr (7, [.ref n0, .int 0, .int 0, .int 0, .int 0, .int 0]))]) [2] rfl, va_K.moved hW.alike (hK.sub (tys' := []) [] rfl), nw_ok.warm hW hN⟩⟩ rfl rfl hl.1 rfl (lv_room (Nat.le_of_ble_eq_true rfl)) d_LS_at_16 ⟨Nat.le_of_ble_eq_true rfl, Nat.le_of_ble_eq_true rfl⟩) (fun r1 hr1 => ?_)
        try dsimp only at hr1
        subst hr1
        refine lv_if_ne (tgt := 30) hx hb d_LS_at_19 (by decide) (fun h9 => absurd (by decide) h9) (fun _ => ?_)
        exact xt_throw (names := ["java/lang/RuntimeException", "java/lang/Exception"]) (ia := 118) (ic := 120) hx hb htr hml hl hne hlocks hown (by decide +kernel) (by decide +kernel) (hts _ k_606) (hts _ k_17) (oa_IOOBE hts hX) d_LS_at_22 d_LS_at_25 d_LS_at_26 d_LS_at_29 (Nat.le_of_ble_eq_true rfl) (Nat.le_of_ble_eq_true rfl) (Nat.le_of_ble_eq_true rfl) (Nat.le_of_ble_eq_true rfl)
      · refine lv_aload_n hx hb d_LS_at_9 rfl (lv_at hl 0 rfl) ?_
        refine va_get (D := (dC, dI)) (ci := 0) (v := .ref aV) (C := R_LS) (T := T_LS) (N := 16) hx hb hts in_LS hown hK hP 0 rfl rfl 5 (by decide) (hts _ k_294) (fun _ h9 => h9) rfl d_LS_at_10 ?_
        refine lv_iload_n hx hb d_LS_at_13 rfl (lv_at hl 1 rfl) ?_
        refine va_aldq (C := "LeastSolutions$VectorList") hx hb hK hP 1 0 rfl rfl (show ¬ ((1 : Int32) < 0 ∨ 3 ≤ (1 : Int32).toNatClampNeg) from by decide) d_LS_at_14 ?_
        rw [show va_rf (fV (1 : Int32).toNatClampNeg) = .ref v1 from by rw [show (1 : Int32).toNatClampNeg = 1 from by decide, hf1]; rfl]
        refine lv_iload_n hx hb d_LS_at_15 rfl (lv_at hl 2 rfl) ?_
        refine pu_calli (va_runV (As := [.int i]) (rest := []) ⟨hx, hb, hml, hown, hts⟩ (c_VL_has l dC dI (v1) (n1) (i)) (wd_V (C := "LeastSolutions$VectorList") 1 hts k_589 k_10 k_586 k_587 k_588 rfl rfl (by decide +kernel) ⟨Nat.le_of_ble_eq_true rfl, Nat.le_of_ble_eq_true rfl⟩) ⟨fun a U g mk q => by obtain ⟨q0, qP, qK, qN⟩ := q; exact ⟨q0, qP, va_K.moved (u := U) (U := U.calling g mk a) (Vm.Alike.refl U.vm) qK, nw_ok.same (s := U) (U := U.calling g mk a) rfl qN⟩, va_recv (ci := 7) (q0 := 3) hK hP rfl rfl, fun U hU hW => ⟨rfl, by rw [hU]; exact hP.sub (ws' := [(v1, .inr (7, [.ref n1, .int 0, .int 0, .int 0, .int 0, .int 0]))]) [3] rfl, va_K.moved hW.alike (hK.sub (tys' := []) [] rfl), nw_ok.warm hW hN⟩⟩ rfl rfl hl.1 rfl (lv_room (Nat.le_of_ble_eq_true rfl)) d_LS_at_16 ⟨Nat.le_of_ble_eq_true rfl, Nat.le_of_ble_eq_true rfl⟩) (fun r2 hr2 => ?_)
        try dsimp only at hr2
        subst hr2
        refine lv_if_ne (tgt := 30) hx hb d_LS_at_19 (by decide) (fun h9 => absurd (by decide) h9) (fun _ => ?_)
        exact xt_throw (names := ["java/lang/RuntimeException", "java/lang/Exception"]) (ia := 118) (ic := 120) hx hb htr hml hl hne hlocks hown (by decide +kernel) (by decide +kernel) (hts _ k_606) (hts _ k_17) (oa_IOOBE hts hX) d_LS_at_22 d_LS_at_25 d_LS_at_26 d_LS_at_29 (Nat.le_of_ble_eq_true rfl) (Nat.le_of_ble_eq_true rfl) (Nat.le_of_ble_eq_true rfl) (Nat.le_of_ble_eq_true rfl)
      · refine lv_aload_n hx hb d_LS_at_9 rfl (lv_at hl 0 rfl) ?_
        refine va_get (D := (dC, dI)) (ci := 0) (v := .ref aV) (C := R_LS) (T := T_LS) (N := 16) hx hb hts in_LS hown hK hP 0 rfl rfl 5 (by decide) (hts _ k_294) (fun _ h9 => h9) rfl d_LS_at_10 ?_
        refine lv_iload_n hx hb d_LS_at_13 rfl (lv_at hl 1 rfl) ?_
        refine va_aldq (C := "LeastSolutions$VectorList") hx hb hK hP 1 0 rfl rfl (show ¬ ((2 : Int32) < 0 ∨ 3 ≤ (2 : Int32).toNatClampNeg) from by decide) d_LS_at_14 ?_
        rw [show va_rf (fV (2 : Int32).toNatClampNeg) = .ref v2 from by rw [show (2 : Int32).toNatClampNeg = 2 from by decide, hf2]; rfl]
        refine lv_iload_n hx hb d_LS_at_15 rfl (lv_at hl 2 rfl) ?_
        refine pu_calli (va_runV (As := [.int i]) (rest := []) ⟨hx, hb, hml, hown, hts⟩ (c_VL_has l dC dI (v2) (n2) (i)) (wd_V (C := "LeastSolutions$VectorList") 1 hts k_589 k_10 k_586 k_587 k_588 rfl rfl (by decide +kernel) ⟨Nat.le_of_ble_eq_true rfl, Nat.le_of_ble_eq_true rfl⟩) ⟨fun a U g mk q => by obtain ⟨q0, qP, qK, qN⟩ := q; exact ⟨q0, qP, va_K.moved (u := U) (U := U.calling g mk a) (Vm.Alike.refl U.vm) qK, nw_ok.same (s := U) (U := U.calling g mk a) rfl qN⟩, va_recv (ci := 7) (q0 := 4) hK hP rfl rfl, fun U hU hW => ⟨rfl, by rw [hU]; exact hP.sub (ws' := [(v2, .inr (7, [.ref n2, .int 0, .int 0, .int 0, .int 0, .int 0]))]) [4] rfl, va_K.moved hW.alike (hK.sub (tys' := []) [] rfl), nw_ok.warm hW hN⟩⟩ rfl rfl hl.1 rfl (lv_room (Nat.le_of_ble_eq_true rfl)) d_LS_at_16 ⟨Nat.le_of_ble_eq_true rfl, Nat.le_of_ble_eq_true rfl⟩) (fun r3 hr3 => ?_)
        try dsimp only at hr3
        subst hr3
        refine lv_if_ne (tgt := 30) hx hb d_LS_at_19 (by decide) (fun h9 => absurd (by decide) h9) (fun _ => ?_)
        exact xt_throw (names := ["java/lang/RuntimeException", "java/lang/Exception"]) (ia := 118) (ic := 120) hx hb htr hml hl hne hlocks hown (by decide +kernel) (by decide +kernel) (hts _ k_606) (hts _ k_17) (oa_IOOBE hts hX) d_LS_at_22 d_LS_at_25 d_LS_at_26 d_LS_at_29 (Nat.le_of_ble_eq_true rfl) (Nat.le_of_ble_eq_true rfl) (Nat.le_of_ble_eq_true rfl) (Nat.le_of_ble_eq_true rfl)

set_option maxHeartbeats 4000000 in
set_option maxRecDepth 100000 in
theorem c_MO_split (l : Launch) (dC : Nat → ClassId) (dI : Nat → Nat → Nat) (m0 : Nat) (f_text : Nat) (f_kinds : Nat) (f_places : Nat) (f_values : Nat) (f_draftLetters : Nat) (f_draftNumbers : Nat) (f_draftSigns : Nat) (f_letters : Nat) (f_numbers : Nat) (f_isList : Nat) (f_bounds : Nat) (f_sizes : Nat) (f_lists : Nat) (f_told : Nat) (f_costs : Nat) (f_times : Nat) (f_bestOne : Nat) (f_basis : Nat) (f_one : Nat) (f_along : Nat) (f_now : Nat) (th : Int32) (sz : Nat) : Met l y_MO_split (Cond.code y_MO_split b_MO_split 5 (Option.some Jvm.ClassFile.FieldType.int) :: wd) { frames := 0, cells := 0, slots := 0, locals := 0 } (va_Pc [.ref m0] (fun U => U.heap.size = sz ∧ va_P (dC, dI) cls [(m0, .inr (9, [.int th, .ref f_text, .int 0, .int (-1), .ref f_kinds, .ref f_places, .ref f_values, .int 0, .ref f_draftLetters, .int 0, .int 0, .int 0, .ref f_draftNumbers, .ref f_draftSigns, .int 0, .int 0, .int 0, .int 0, .ref f_letters, .ref f_numbers, .ref f_isList, .ref f_bounds, .ref f_sizes, .ref f_lists, .ref f_told, .ref f_costs, .int 0, .ref f_times, .int 0, .ref f_bestOne, .ref f_basis, .int 0, .ref f_one, .int 0, .ref f_along, .ref f_now]))] U.heap ∧ va_K (dC, dI) cls [] U ∧ va_D (fun _ => True) [(m0, .inr (9, [.int th, .ref f_text, .int 0, .int (-1), .ref f_kinds, .ref f_places, .ref f_values, .int 0, .ref f_draftLetters, .int 0, .int 0, .int 0, .ref f_draftNumbers, .ref f_draftSigns, .int 0, .int 0, .int 0, .int 0, .ref f_letters, .ref f_numbers, .ref f_isList, .ref f_bounds, .ref f_sizes, .ref f_lists, .ref f_told, .ref f_costs, .int 0, .ref f_times, .int 0, .ref f_bestOne, .ref f_basis, .int 0, .ref f_one, .int 0, .ref f_along, .ref f_now]))] ∧ nw_ok U)) (va_Qi (fun r (_ : Unit) => r = (-1)) (fun (_ : Unit) t => va_P (dC, dI) cls [(m0, .inr (9, [.int 0, .ref f_text, .int 0, .int (-1), .ref f_kinds, .ref f_places, .ref f_values, .int 0, .ref f_draftLetters, .int 0, .int 0, .int 0, .ref f_draftNumbers, .ref f_draftSigns, .int 0, .int 0, .int 0, .int 0, .ref f_letters, .ref f_numbers, .ref f_isList, .ref f_bounds, .ref f_sizes, .ref f_lists, .ref f_told, .ref f_costs, .int 0, .ref f_times, .int 0, .ref f_bestOne, .ref f_basis, .int 0, .ref f_one, .int 0, .ref f_along, .ref f_now]))] t.heap ∧ va_K (dC, dI) cls [] t ∧ va_D (va_A [(m0, .inr (9, [.int th, .ref f_text, .int 0, .int (-1), .ref f_kinds, .ref f_places, .ref f_values, .int 0, .ref f_draftLetters, .int 0, .int 0, .int 0, .ref f_draftNumbers, .ref f_draftSigns, .int 0, .int 0, .int 0, .int 0, .ref f_letters, .ref f_numbers, .ref f_isList, .ref f_bounds, .ref f_sizes, .ref f_lists, .ref f_told, .ref f_costs, .int 0, .ref f_times, .int 0, .ref f_bestOne, .ref f_basis, .int 0, .ref f_one, .int 0, .ref f_along, .ref f_now]))] sz) [(m0, .inr (9, [.int 0, .ref f_text, .int 0, .int (-1), .ref f_kinds, .ref f_places, .ref f_values, .int 0, .ref f_draftLetters, .int 0, .int 0, .int 0, .ref f_draftNumbers, .ref f_draftSigns, .int 0, .int 0, .int 0, .int 0, .ref f_letters, .ref f_numbers, .ref f_isList, .ref f_bounds, .ref f_sizes, .ref f_lists, .ref f_told, .ref f_costs, .int 0, .ref f_times, .int 0, .ref f_bestOne, .ref f_basis, .int 0, .ref f_one, .int 0, .ref f_along, .ref f_now]))]) (va_A [(m0, .inr (9, [.int th, .ref f_text, .int 0, .int (-1), .ref f_kinds, .ref f_places, .ref f_values, .int 0, .ref f_draftLetters, .int 0, .int 0, .int 0, .ref f_draftNumbers, .ref f_draftSigns, .int 0, .int 0, .int 0, .int 0, .ref f_letters, .ref f_numbers, .ref f_isList, .ref f_bounds, .ref f_sizes, .ref f_lists, .ref f_told, .ref f_costs, .int 0, .ref f_times, .int 0, .ref f_bestOne, .ref f_basis, .int 0, .ref f_one, .int 0, .ref f_along, .ref f_now]))] sz)) 0 0 (va_A [(m0, .inr (9, [.int th, .ref f_text, .int 0, .int (-1), .ref f_kinds, .ref f_places, .ref f_values, .int 0, .ref f_draftLetters, .int 0, .int 0, .int 0, .ref f_draftNumbers, .ref f_draftSigns, .int 0, .int 0, .int 0, .int 0, .ref f_letters, .ref f_numbers, .ref f_isList, .ref f_bounds, .ref f_sizes, .ref f_lists, .ref f_told, .ref f_costs, .int 0, .ref f_times, .int 0, .ref f_bestOne, .ref f_basis, .int 0, .ref f_one, .int 0, .ref f_along, .ref f_now]))] sz) := by
  refine Met.ofW (cc := b_MO_split) (maxL := 5) (ret := (Option.some Jvm.ClassFile.FieldType.int)) (by decide) rfl ?_
  intro p e s m args below meth c s₁ B hml hv
  obtain ⟨rfl, hsz, hP, hK, hD0, hN⟩ := hv
  have hx := B.exec
  have hb := B.bytes
  have hr := B.returns
  have hlocks := B.notSynchronized
  have hts : ∀ w ∈ wd, w.before ([.ref m0] : List Value).toArray s = true := fun w hw => atoms_spec (ws := (Cond.code y_MO_split b_MO_split 5 (Option.some Jvm.ClassFile.FieldType.int) :: wd)) B.pre w (List.mem_cons_of_mem _ hw)
  have hown : s.vm.findClass "LeastSolutionsModel" = some m.cls := findClass_of_methodNamed B.named
  subst hsz
  have hD := hD0.self (sz := s.heap.size)
  generalize hAe : va_A [(m0, .inr (9, [.int th, .ref f_text, .int 0, .int (-1), .ref f_kinds, .ref f_places, .ref f_values, .int 0, .ref f_draftLetters, .int 0, .int 0, .int 0, .ref f_draftNumbers, .ref f_draftSigns, .int 0, .int 0, .int 0, .int 0, .ref f_letters, .ref f_numbers, .ref f_isList, .ref f_bounds, .ref f_sizes, .ref f_lists, .ref f_told, .ref f_costs, .int 0, .ref f_times, .int 0, .ref f_bestOne, .ref f_basis, .int 0, .ref f_one, .int 0, .ref f_along, .ref f_now]))] s.heap.size = A at hD ⊢
  have hA : ∀ q : Nat, s.heap.size ≤ q → A q := fun q h => by rw [← hAe]; exact Or.inr h
  have hS : va_S A s.heap s.heap [] := va_S.rf
  have hl := lv_entry ([.ref m0]) (n := 5) (Nat.le_of_ble_eq_true rfl)
  rw [lg_entry_eq]
  generalize (lg_sl ([.ref m0]) ++ List.replicate (5 - (lg_sl ([.ref m0])).length) Slot.unset).toArray = ls at hl ⊢
  have hl : lv_has ls 5 [(0, .ref m0)] := hl
  refine lv_aload_n hx hb d_MO_split_0 rfl (lv_at hl 0 rfl) ?_
  refine lv_iconst (v := 0) hx hb d_MO_split_1 (by decide) ?_
  refine va_put (D := (dC, dI)) (ci := 9) (v := .int 0) (ty := .int) (C := R_MO) (T := T_MO) (N := 36) hx hb hts in_MO t_MO t_MO_ok n_MO hown hK hP hD hS 0 rfl rfl 0 (by decide) (hts _ k_886) (fun _ h9 => h9) rfl (by decide +kernel) rfl rfl (Nat.le_of_ble_eq_true rfl) d_MO_split_2 (fun H1 locs hP hD hS => ?_)
  have hP : va_P (dC, dI) cls [(m0, .inr (9, [.int 0, .ref f_text, .int 0, .int (-1), .ref f_kinds, .ref f_places, .ref f_values, .int 0, .ref f_draftLetters, .int 0, .int 0, .int 0, .ref f_draftNumbers, .ref f_draftSigns, .int 0, .int 0, .int 0, .int 0, .ref f_letters, .ref f_numbers, .ref f_isList, .ref f_bounds, .ref f_sizes, .ref f_lists, .ref f_told, .ref f_costs, .int 0, .ref f_times, .int 0, .ref f_bestOne, .ref f_basis, .int 0, .ref f_one, .int 0, .ref f_along, .ref f_now]))] H1 := hP
  have hD : va_D A [(m0, .inr (9, [.int 0, .ref f_text, .int 0, .int (-1), .ref f_kinds, .ref f_places, .ref f_values, .int 0, .ref f_draftLetters, .int 0, .int 0, .int 0, .ref f_draftNumbers, .ref f_draftSigns, .int 0, .int 0, .int 0, .int 0, .ref f_letters, .ref f_numbers, .ref f_isList, .ref f_bounds, .ref f_sizes, .ref f_lists, .ref f_told, .ref f_costs, .int 0, .ref f_times, .int 0, .ref f_bestOne, .ref f_basis, .int 0, .ref f_one, .int 0, .ref f_along, .ref f_now]))] := hD
  refine lv_iconst (v := 0) hx hb d_MO_split_5 (by decide) ?_
  refine lv_istore_n hx hb d_MO_split_6 rfl hl (by decide) rfl (fun ls hl => ?_)
  have hl : lv_has ls 5 [(1, .int 0), (0, .ref m0)] := hl
  refine lv_iconst (v := 0) hx hb d_MO_split_7 (by decide) ?_
  refine lv_istore_n hx hb d_MO_split_8 rfl hl (by decide) rfl (fun ls hl => ?_)
  have hl : lv_has ls 5 [(2, .int 0), (1, .int 0), (0, .ref m0)] := hl
  refine lv_iload_n hx hb d_MO_split_9 rfl (lv_at hl 0 rfl) ?_
  refine lv_aload_n hx hb d_MO_split_10 rfl (lv_at hl 2 rfl) ?_
  refine va_get (D := (dC, dI)) (ci := 9) (v := .int 0) (C := R_MO) (T := T_MO) (N := 36) hx hb hts in_MO hown hK hP 0 rfl rfl 17 (by decide) (hts _ k_903) (fun _ h9 => h9) rfl d_MO_split_11 ?_
  refine lv_icmp_ge (tgt := 32) hx hb d_MO_split_14 (by decide) (fun _ => ?_) (fun h9 => absurd (by decide) h9)
  refine lv_aload_n hx hb d_MO_split_32 rfl (lv_at hl 2 rfl) ?_
  refine va_get (D := (dC, dI)) (ci := 9) (v := .int 0) (C := R_MO) (T := T_MO) (N := 36) hx hb hts in_MO hown hK hP 0 rfl rfl 14 (by decide) (hts _ k_900) (fun _ h9 => h9) rfl d_MO_split_33 ?_
  refine lv_if_eq (tgt := 96) hx hb d_MO_split_36 (by decide) (fun _ => ?_) (fun h9 => absurd (by decide) h9)
  refine lv_iconst (v := (-1)) hx hb d_MO_split_96 (by decide) ?_
  have hP9 := hP.sub (ws' := [(m0, .inr (9, [.int 0, .ref f_text, .int 0, .int (-1), .ref f_kinds, .ref f_places, .ref f_values, .int 0, .ref f_draftLetters, .int 0, .int 0, .int 0, .ref f_draftNumbers, .ref f_draftSigns, .int 0, .int 0, .int 0, .int 0, .ref f_letters, .ref f_numbers, .ref f_isList, .ref f_bounds, .ref f_sizes, .ref f_lists, .ref f_told, .ref f_costs, .int 0, .ref f_times, .int 0, .ref f_bestOne, .ref f_basis, .int 0, .ref f_one, .int 0, .ref f_along, .ref f_now]))]) [0] rfl
  have hD9 := hD.sub (ws' := [(m0, .inr (9, [.int 0, .ref f_text, .int 0, .int (-1), .ref f_kinds, .ref f_places, .ref f_values, .int 0, .ref f_draftLetters, .int 0, .int 0, .int 0, .ref f_draftNumbers, .ref f_draftSigns, .int 0, .int 0, .int 0, .int 0, .ref f_letters, .ref f_numbers, .ref f_isList, .ref f_bounds, .ref f_sizes, .ref f_lists, .ref f_told, .ref f_costs, .int 0, .ref f_times, .int 0, .ref f_bestOne, .ref f_basis, .int 0, .ref f_one, .int 0, .ref f_along, .ref f_now]))]) [0] (by decide) rfl
  have hK9 := hK.sub (tys' := []) [] rfl
  exact W.iret (v := (-1)) hx hb hr (fun t ht hW => ⟨⟨(-1), (), rfl, rfl, by rw [ht]; exact hP9, va_K.moved hW.alike hK9, hD9⟩, hS.F ht⟩) hS.2.2 d_MO_split_97
