/-- a class that can't be assigned to another, as the Statement says -/
def xc_ok (U : State) : Prop := ∃ cA cB, U.vm.findClass "java/lang/IllegalStateException" = some cA ∧ U.vm.findClass "java/lang/IllegalArgumentException" = some cB ∧ U.vm.assignable cA cB = false
theorem xc_ok.moved {s U : State} (hvm : s.vm.Alike U.vm) (h : xc_ok s) : xc_ok U := by
  obtain ⟨cA, cB, h1, h2, h3⟩ := h
  exact ⟨cA, cB, by rw [hvm.findClass]; exact h1, by rw [hvm.findClass]; exact h2, by rw [hvm.assignable]; exact h3⟩
theorem xp_hit {args : Array Value} {s : State} {own cls : String} {pc : Nat} {q : Nat × Nat × Nat × Nat} {r : List (Nat × Nat × Nat × Nat)} (h1 : q.1 ≤ pc) (h2 : pc < q.2.1) (h3 : q.2.2.2 ≠ 0) (hl : (Cond.classLink own q.2.2.2 cls).before args s = true) (hc : (Cond.castable cls cls).before args s = true) :
    xt_path args s own cls pc (q :: r) q.2.2.1 := by
  obtain ⟨cA, cB, e1, e2, e3⟩ := Cond.castable_spec hc
  exact ⟨⟨h1, h2, h3⟩, cls, cA, cB, hl, e1, e2, Or.inl ⟨e3, rfl⟩⟩
theorem xp_pass {args : Array Value} {s : State} {own : String} {pc h : Nat} {q : Nat × Nat × Nat × Nat} {r : List (Nat × Nat × Nat × Nat)} (h1 : q.1 ≤ pc) (h2 : pc < q.2.1) (h3 : q.2.2.2 ≠ 0) (hl : (Cond.classLink own q.2.2.2 "java/lang/IllegalArgumentException").before args s = true) (hc : xc_ok s)
    (hp : xt_path args s own "java/lang/IllegalStateException" pc r h) : xt_path args s own "java/lang/IllegalStateException" pc (q :: r) h := by
  obtain ⟨cA, cB, e1, e2, e3⟩ := hc
  exact ⟨⟨h1, h2, h3⟩, _, cA, cB, hl, e1, e2, Or.inr ⟨e3, hp⟩⟩

set_option maxHeartbeats 4000000 in
set_option maxRecDepth 100000 in
theorem c_LW_number (l : Launch) (htr : l.stackTraces = false) (dC : Nat → ClassId) (dI : Nat → Nat → Nat) (h0 : Nat) (aT : Nat) (aW : Nat) (aB : Nat) (aL : Nat) (aS : Nat) (aV : Nat) (aC : Nat) (a7 : Nat) (a8 : Nat) (a9 : Nat) (a10 : Nat) (aE : Nat) (e0 : Nat) (e1 : Nat) (e2 : Nat) (e3 : Nat) (e4 : Nat) (row : Int32) (column : Int32) (oo : Nat) : Met l y_LW_number (Cond.codeWith y_LW_number b_LW_number 5 (Option.some Jvm.ClassFile.FieldType.int)  [((0 : Nat), (10 : Nat), (13 : Nat), (13 : Nat))] :: wd) { frames := 7, cells := 1, slots := 6, locals := 122 } (va_Pc [.ref h0, .int row, .int column, .ref oo] (fun U => va_P (dC, dI) cls [(h0, .inr (0, [.ref aT, .ref aW, .ref aB, .ref aL, .ref aS, .ref aV, .ref aC, .ref a7, .ref a8, .ref a9, .ref a10, .ref aE, .int 0, .int 0, .int 0, .int (-1)])), (aE, .inr (4, [.ref e0, .ref e1, .ref e2, .ref e3, .ref e4, .int 0, .int 0, .int 0]))] U.heap ∧ va_K (dC, dI) cls [] U ∧ nw_ok U ∧ xs_ok U ∧ xc_ok U)) (va_Qi (fun r (_ : Unit) => r = 1) (fun _ _ => True) (fun _ => False)) 1 6 (fun _ => False) := by
  refine xh_ofW (cc := b_LW_number) (maxL := 5) (ret := (Option.some Jvm.ClassFile.FieldType.int)) (hs :=  [((0 : Nat), (10 : Nat), (13 : Nat), (13 : Nat))]) (by decide) rfl ?_
  intro p e s m args below meth c s₁ B hml htab hv
  obtain ⟨rfl, hP, hK, hN, hX, hXc⟩ := hv
  have hx := B.exec
  have hb := B.bytes
  have hr := B.returns
  have hlocks := B.notSynchronized
  have hts : ∀ w ∈ wd, w.before ([.ref h0, .int row, .int column, .ref oo] : List Value).toArray s = true := fun w hw => atoms_spec (ws := (Cond.codeWith y_LW_number b_LW_number 5 (Option.some Jvm.ClassFile.FieldType.int)  [((0 : Nat), (10 : Nat), (13 : Nat), (13 : Nat))] :: wd)) B.pre w (List.mem_cons_of_mem _ hw)
  have hown : s.vm.findClass "LeastSolutionsLaw" = some m.cls := findClass_of_methodNamed B.named
  have hS : va_S (fun _ => False) s.heap s.heap [] := va_S.rf
  have hl := lv_entry ([.ref h0, .int row, .int column, .ref oo]) (n := 5) (Nat.le_of_ble_eq_true rfl)
  rw [lg_entry_eq]
  generalize (lg_sl ([.ref h0, .int row, .int column, .ref oo]) ++ List.replicate (5 - (lg_sl ([.ref h0, .int row, .int column, .ref oo])).length) Slot.unset).toArray = ls at hl ⊢
  have hl : lv_has ls 5 [(0, .ref h0), (1, .int row), (2, .int column), (3, .ref oo)] := hl
  refine lv_aload_n hx hb d_LW_number_0 rfl (lv_at hl 3 rfl) ?_
  refine lv_iconst (v := 0) hx hb d_LW_number_1 (by decide) ?_
  refine lv_aload_n hx hb d_LW_number_2 rfl (lv_at hl 0 rfl) ?_
  refine lv_iload_n hx hb d_LW_number_3 rfl (lv_at hl 1 rfl) ?_
  refine lv_iload_n hx hb d_LW_number_4 rfl (lv_at hl 2 rfl) ?_
  refine xt_catch (cls := "java/lang/IndexOutOfBoundsException") (own := "LeastSolutionsLaw") (hpc := 13) (xt_runV (As := [.int row, .int column]) (rest := [.int 0, .ref oo]) ⟨hx, hb, hml, hown, hts⟩ (c_LS_number l htr dC dI (h0) (aT) (aW) (aB) (aL) (aS) (aV) (aC) (a7) (a8) (a9) (a10) (aE) (e0) (e1) (e2) (e3) (e4) (row) (column)) (wd_V (C := "LeastSolutions") 2 hts k_605 k_1 k_602 k_603 k_604 rfl rfl (by decide +kernel) ⟨Nat.le_of_ble_eq_true rfl, Nat.le_of_ble_eq_true rfl⟩) ⟨fun a U g mk q => by obtain ⟨q0, qP, qK, qN, qX⟩ := q; exact ⟨q0, qP, va_K.moved (u := U) (U := U.calling g mk a) (Vm.Alike.refl U.vm) qK, nw_ok.same (s := U) (U := U.calling g mk a) rfl qN, xs_ok.moved (s := U) (Vm.Alike.refl U.vm) (fun _ _ => rfl) qX⟩, va_recv (ci := 0) (q0 := 0) hK hP rfl rfl, fun U hU hW => ⟨rfl, by rw [hU]; exact hP.sub (ws' := [(h0, .inr (0, [.ref aT, .ref aW, .ref aB, .ref aL, .ref aS, .ref aV, .ref aC, .ref a7, .ref a8, .ref a9, .ref a10, .ref aE, .int 0, .int 0, .int 0, .int (-1)])), (aE, .inr (4, [.ref e0, .ref e1, .ref e2, .ref e3, .ref e4, .int 0, .int 0, .int 0]))]) [0, 1] rfl, va_K.moved hW.alike (hK.sub (tys' := []) [] rfl), nw_ok.warm hW hN, xs_ok.moved hW.alike (fun q _ => by rw [hU]) hX⟩⟩ rfl rfl hl.1 rfl (lv_room (Nat.le_of_ble_eq_true rfl)) d_LW_number_5 ⟨Nat.le_of_ble_eq_true rfl, Nat.le_of_ble_eq_true rfl⟩) htab hown (xp_hit (by decide) (by decide) (by decide) (hts _ k_601) (xs_w hX xd_0)) hS (fun x1 H1 locs hz1 hk1 hS => ?_)
  refine lv_astore hx hb d_LW_number_13 hl (by decide) rfl (fun ls hl => ?_)
  have hl : lv_has ls 5 [(4, .ref x1), (0, .ref h0), (1, .int row), (2, .int column), (3, .ref oo)] := hl
  refine lv_iconst (v := 1) hx hb d_LW_number_15 (by decide) ?_
  exact W.iret (v := 1) hx hb hr (fun t ht hW => ⟨⟨1, (), rfl, rfl, trivial⟩, hS.F ht⟩) hS.2.2 d_LW_number_16

set_option maxHeartbeats 4000000 in
set_option maxRecDepth 100000 in
theorem c_LW_solvable (l : Launch) (htr : l.stackTraces = false) (dC : Nat → ClassId) (dI : Nat → Nat → Nat) (h0 : Nat) (aT : Nat) (aW : Nat) (aB : Nat) (aL : Nat) (aS : Nat) (aV : Nat) (aC : Nat) (a7 : Nat) (a8 : Nat) (a9 : Nat) (a10 : Nat) (aE : Nat) (oo : Nat) : Met l y_LW_solvable (Cond.codeWith y_LW_solvable b_LW_solvable 3 (Option.some Jvm.ClassFile.FieldType.int)  [((0 : Nat), (8 : Nat), (11 : Nat), (19 : Nat))] :: wd) { frames := 8, cells := 1, slots := 6, locals := 140 } (va_Pc [.ref h0, .ref oo] (fun U => va_P (dC, dI) cls [(h0, .inr (0, [.ref aT, .ref aW, .ref aB, .ref aL, .ref aS, .ref aV, .ref aC, .ref a7, .ref a8, .ref a9, .ref a10, .ref aE, .int 0, .int 0, .int 0, .int (-1)]))] U.heap ∧ va_K (dC, dI) cls [] U ∧ nw_ok U ∧ xs_ok U ∧ xc_ok U)) (va_Qi (fun r (_ : Unit) => r = 1) (fun _ _ => True) (fun _ => False)) 1 6 (fun _ => False) := by
  refine xh_ofW (cc := b_LW_solvable) (maxL := 3) (ret := (Option.some Jvm.ClassFile.FieldType.int)) (hs :=  [((0 : Nat), (8 : Nat), (11 : Nat), (19 : Nat))]) (by decide) rfl ?_
  intro p e s m args below meth c s₁ B hml htab hv
  obtain ⟨rfl, hP, hK, hN, hX, hXc⟩ := hv
  have hx := B.exec
  have hb := B.bytes
  have hr := B.returns
  have hlocks := B.notSynchronized
  have hts : ∀ w ∈ wd, w.before ([.ref h0, .ref oo] : List Value).toArray s = true := fun w hw => atoms_spec (ws := (Cond.codeWith y_LW_solvable b_LW_solvable 3 (Option.some Jvm.ClassFile.FieldType.int)  [((0 : Nat), (8 : Nat), (11 : Nat), (19 : Nat))] :: wd)) B.pre w (List.mem_cons_of_mem _ hw)
  have hown : s.vm.findClass "LeastSolutionsLaw" = some m.cls := findClass_of_methodNamed B.named
  have hS : va_S (fun _ => False) s.heap s.heap [] := va_S.rf
  have hl := lv_entry ([.ref h0, .ref oo]) (n := 3) (Nat.le_of_ble_eq_true rfl)
  rw [lg_entry_eq]
  generalize (lg_sl ([.ref h0, .ref oo]) ++ List.replicate (3 - (lg_sl ([.ref h0, .ref oo])).length) Slot.unset).toArray = ls at hl ⊢
  have hl : lv_has ls 3 [(0, .ref h0), (1, .ref oo)] := hl
  refine lv_aload_n hx hb d_LW_solvable_0 rfl (lv_at hl 1 rfl) ?_
  refine lv_iconst (v := 0) hx hb d_LW_solvable_1 (by decide) ?_
  refine lv_aload_n hx hb d_LW_solvable_2 rfl (lv_at hl 0 rfl) ?_
  refine xt_catch (cls := "java/lang/IllegalStateException") (own := "LeastSolutionsLaw") (hpc := 11) (xt_runV (As := []) (rest := [.int 0, .ref oo]) ⟨hx, hb, hml, hown, hts⟩ (c_LS_solvable l htr dC dI (h0) (aT) (aW) (aB) (aL) (aS) (aV) (aC) (a7) (a8) (a9) (a10) (aE)) (wd_V (C := "LeastSolutions") 0 hts k_677 k_1 k_674 k_675 k_676 rfl rfl (by decide +kernel) ⟨Nat.le_of_ble_eq_true rfl, Nat.le_of_ble_eq_true rfl⟩) ⟨fun a U g mk q => by obtain ⟨q0, qP, qK, qN, qX⟩ := q; exact ⟨q0, qP, va_K.moved (u := U) (U := U.calling g mk a) (Vm.Alike.refl U.vm) qK, nw_ok.same (s := U) (U := U.calling g mk a) rfl qN, xs_ok.moved (s := U) (Vm.Alike.refl U.vm) (fun _ _ => rfl) qX⟩, va_recv (ci := 0) (q0 := 0) hK hP rfl rfl, fun U hU hW => ⟨rfl, by rw [hU]; exact hP.sub (ws' := [(h0, .inr (0, [.ref aT, .ref aW, .ref aB, .ref aL, .ref aS, .ref aV, .ref aC, .ref a7, .ref a8, .ref a9, .ref a10, .ref aE, .int 0, .int 0, .int 0, .int (-1)]))]) [0] rfl, va_K.moved hW.alike (hK.sub (tys' := []) [] rfl), nw_ok.warm hW hN, xs_ok.moved hW.alike (fun q _ => by rw [hU]) hX⟩⟩ rfl rfl hl.1 rfl (lv_room (Nat.le_of_ble_eq_true rfl)) d_LW_solvable_3 ⟨Nat.le_of_ble_eq_true rfl, Nat.le_of_ble_eq_true rfl⟩) htab hown (xp_hit (by decide) (by decide) (by decide) (hts _ k_673) (xs_w hX xd_1)) hS (fun x1 H1 locs hz1 hk1 hS => ?_)
  refine lv_astore_n hx hb d_LW_solvable_11 rfl hl (by decide) rfl (fun ls hl => ?_)
  have hl : lv_has ls 3 [(2, .ref x1), (0, .ref h0), (1, .ref oo)] := hl
  refine lv_iconst (v := 1) hx hb d_LW_solvable_12 (by decide) ?_
  exact W.iret (v := 1) hx hb hr (fun t ht hW => ⟨⟨1, (), rfl, rfl, trivial⟩, hS.F ht⟩) hS.2.2 d_LW_solvable_13

set_option maxHeartbeats 4000000 in
set_option maxRecDepth 100000 in
theorem c_LW_kernel (l : Launch) (htr : l.stackTraces = false) (dC : Nat → ClassId) (dI : Nat → Nat → Nat) (h0 : Nat) (aT : Nat) (aW : Nat) (aB : Nat) (aL : Nat) (aS : Nat) (aV : Nat) (aC : Nat) (a7 : Nat) (a8 : Nat) (a9 : Nat) (a10 : Nat) (aE : Nat) (oo : Nat) : Met l y_LW_kernel (Cond.codeWith y_LW_kernel b_LW_kernel 3 (Option.some Jvm.ClassFile.FieldType.int)  [((0 : Nat), (8 : Nat), (11 : Nat), (19 : Nat))] :: wd) { frames := 8, cells := 1, slots := 6, locals := 140 } (va_Pc [.ref h0, .ref oo] (fun U => va_P (dC, dI) cls [(h0, .inr (0, [.ref aT, .ref aW, .ref aB, .ref aL, .ref aS, .ref aV, .ref aC, .ref a7, .ref a8, .ref a9, .ref a10, .ref aE, .int 0, .int 0, .int 0, .int (-1)]))] U.heap ∧ va_K (dC, dI) cls [] U ∧ nw_ok U ∧ xs_ok U ∧ xc_ok U)) (va_Qi (fun r (_ : Unit) => r = 1) (fun _ _ => True) (fun _ => False)) 1 6 (fun _ => False) := by
  refine xh_ofW (cc := b_LW_kernel) (maxL := 3) (ret := (Option.some Jvm.ClassFile.FieldType.int)) (hs :=  [((0 : Nat), (8 : Nat), (11 : Nat), (19 : Nat))]) (by decide) rfl ?_
  intro p e s m args below meth c s₁ B hml htab hv
  obtain ⟨rfl, hP, hK, hN, hX, hXc⟩ := hv
  have hx := B.exec
  have hb := B.bytes
  have hr := B.returns
  have hlocks := B.notSynchronized
  have hts : ∀ w ∈ wd, w.before ([.ref h0, .ref oo] : List Value).toArray s = true := fun w hw => atoms_spec (ws := (Cond.codeWith y_LW_kernel b_LW_kernel 3 (Option.some Jvm.ClassFile.FieldType.int)  [((0 : Nat), (8 : Nat), (11 : Nat), (19 : Nat))] :: wd)) B.pre w (List.mem_cons_of_mem _ hw)
  have hown : s.vm.findClass "LeastSolutionsLaw" = some m.cls := findClass_of_methodNamed B.named
  have hS : va_S (fun _ => False) s.heap s.heap [] := va_S.rf
  have hl := lv_entry ([.ref h0, .ref oo]) (n := 3) (Nat.le_of_ble_eq_true rfl)
  rw [lg_entry_eq]
  generalize (lg_sl ([.ref h0, .ref oo]) ++ List.replicate (3 - (lg_sl ([.ref h0, .ref oo])).length) Slot.unset).toArray = ls at hl ⊢
  have hl : lv_has ls 3 [(0, .ref h0), (1, .ref oo)] := hl
  refine lv_aload_n hx hb d_LW_kernel_0 rfl (lv_at hl 1 rfl) ?_
  refine lv_iconst (v := 0) hx hb d_LW_kernel_1 (by decide) ?_
  refine lv_aload_n hx hb d_LW_kernel_2 rfl (lv_at hl 0 rfl) ?_
  refine xt_catch (cls := "java/lang/IllegalStateException") (own := "LeastSolutionsLaw") (hpc := 11) (xt_runV (As := []) (rest := [.int 0, .ref oo]) ⟨hx, hb, hml, hown, hts⟩ (c_LS_kernel l htr dC dI (h0) (aT) (aW) (aB) (aL) (aS) (aV) (aC) (a7) (a8) (a9) (a10) (aE)) (wd_V (C := "LeastSolutions") 0 hts k_711 k_1 k_708 k_709 k_710 rfl rfl (by decide +kernel) ⟨Nat.le_of_ble_eq_true rfl, Nat.le_of_ble_eq_true rfl⟩) ⟨fun a U g mk q => by obtain ⟨q0, qP, qK, qN, qX⟩ := q; exact ⟨q0, qP, va_K.moved (u := U) (U := U.calling g mk a) (Vm.Alike.refl U.vm) qK, nw_ok.same (s := U) (U := U.calling g mk a) rfl qN, xs_ok.moved (s := U) (Vm.Alike.refl U.vm) (fun _ _ => rfl) qX⟩, va_recv (ci := 0) (q0 := 0) hK hP rfl rfl, fun U hU hW => ⟨rfl, by rw [hU]; exact hP.sub (ws' := [(h0, .inr (0, [.ref aT, .ref aW, .ref aB, .ref aL, .ref aS, .ref aV, .ref aC, .ref a7, .ref a8, .ref a9, .ref a10, .ref aE, .int 0, .int 0, .int 0, .int (-1)]))]) [0] rfl, va_K.moved hW.alike (hK.sub (tys' := []) [] rfl), nw_ok.warm hW hN, xs_ok.moved hW.alike (fun q _ => by rw [hU]) hX⟩⟩ rfl rfl hl.1 rfl (lv_room (Nat.le_of_ble_eq_true rfl)) d_LW_kernel_3 ⟨Nat.le_of_ble_eq_true rfl, Nat.le_of_ble_eq_true rfl⟩) htab hown (xp_hit (by decide) (by decide) (by decide) (hts _ k_673) (xs_w hX xd_1)) hS (fun x1 H1 locs hz1 hk1 hS => ?_)
  refine lv_astore_n hx hb d_LW_kernel_11 rfl hl (by decide) rfl (fun ls hl => ?_)
  have hl : lv_has ls 3 [(2, .ref x1), (0, .ref h0), (1, .ref oo)] := hl
  refine lv_iconst (v := 1) hx hb d_LW_kernel_12 (by decide) ?_
  exact W.iret (v := 1) hx hb hr (fun t ht hW => ⟨⟨1, (), rfl, rfl, trivial⟩, hS.F ht⟩) hS.2.2 d_LW_kernel_13

set_option maxHeartbeats 4000000 in
set_option maxRecDepth 100000 in
theorem c_LW_holds (l : Launch) (htr : l.stackTraces = false) (dC : Nat → ClassId) (dI : Nat → Nat → Nat) (h0 : Nat) (aT : Nat) (aW : Nat) (aB : Nat) (aL : Nat) (aS : Nat) (aV : Nat) (aC : Nat) (a7 : Nat) (a8 : Nat) (a9 : Nat) (a10 : Nat) (aE : Nat) (oo : Nat) : Met l y_LW_holds (Cond.codeWith y_LW_holds b_LW_holds 3 (Option.some Jvm.ClassFile.FieldType.int)  [((0 : Nat), (8 : Nat), (11 : Nat), (19 : Nat))] :: wd) { frames := 8, cells := 1, slots := 6, locals := 140 } (va_Pc [.ref h0, .ref oo] (fun U => va_P (dC, dI) cls [(h0, .inr (0, [.ref aT, .ref aW, .ref aB, .ref aL, .ref aS, .ref aV, .ref aC, .ref a7, .ref a8, .ref a9, .ref a10, .ref aE, .int 0, .int 0, .int 0, .int (-1)]))] U.heap ∧ va_K (dC, dI) cls [] U ∧ nw_ok U ∧ xs_ok U ∧ xc_ok U)) (va_Qi (fun r (_ : Unit) => r = 1) (fun _ _ => True) (fun _ => False)) 1 6 (fun _ => False) := by
  refine xh_ofW (cc := b_LW_holds) (maxL := 3) (ret := (Option.some Jvm.ClassFile.FieldType.int)) (hs :=  [((0 : Nat), (8 : Nat), (11 : Nat), (19 : Nat))]) (by decide) rfl ?_
  intro p e s m args below meth c s₁ B hml htab hv
  obtain ⟨rfl, hP, hK, hN, hX, hXc⟩ := hv
  have hx := B.exec
  have hb := B.bytes
  have hr := B.returns
  have hlocks := B.notSynchronized
  have hts : ∀ w ∈ wd, w.before ([.ref h0, .ref oo] : List Value).toArray s = true := fun w hw => atoms_spec (ws := (Cond.codeWith y_LW_holds b_LW_holds 3 (Option.some Jvm.ClassFile.FieldType.int)  [((0 : Nat), (8 : Nat), (11 : Nat), (19 : Nat))] :: wd)) B.pre w (List.mem_cons_of_mem _ hw)
  have hown : s.vm.findClass "LeastSolutionsLaw" = some m.cls := findClass_of_methodNamed B.named
  have hS : va_S (fun _ => False) s.heap s.heap [] := va_S.rf
  have hl := lv_entry ([.ref h0, .ref oo]) (n := 3) (Nat.le_of_ble_eq_true rfl)
  rw [lg_entry_eq]
  generalize (lg_sl ([.ref h0, .ref oo]) ++ List.replicate (3 - (lg_sl ([.ref h0, .ref oo])).length) Slot.unset).toArray = ls at hl ⊢
  have hl : lv_has ls 3 [(0, .ref h0), (1, .ref oo)] := hl
  refine lv_aload_n hx hb d_LW_holds_0 rfl (lv_at hl 1 rfl) ?_
  refine lv_iconst (v := 0) hx hb d_LW_holds_1 (by decide) ?_
  refine lv_aload_n hx hb d_LW_holds_2 rfl (lv_at hl 0 rfl) ?_
  refine xt_catch (cls := "java/lang/IllegalStateException") (own := "LeastSolutionsLaw") (hpc := 11) (xt_runV (As := []) (rest := [.int 0, .ref oo]) ⟨hx, hb, hml, hown, hts⟩ (c_LS_holds l htr dC dI (h0) (aT) (aW) (aB) (aL) (aS) (aV) (aC) (a7) (a8) (a9) (a10) (aE)) (wd_V (C := "LeastSolutions") 0 hts k_844 k_1 k_841 k_842 k_843 rfl rfl (by decide +kernel) ⟨Nat.le_of_ble_eq_true rfl, Nat.le_of_ble_eq_true rfl⟩) ⟨fun a U g mk q => by obtain ⟨q0, qP, qK, qN, qX⟩ := q; exact ⟨q0, qP, va_K.moved (u := U) (U := U.calling g mk a) (Vm.Alike.refl U.vm) qK, nw_ok.same (s := U) (U := U.calling g mk a) rfl qN, xs_ok.moved (s := U) (Vm.Alike.refl U.vm) (fun _ _ => rfl) qX⟩, va_recv (ci := 0) (q0 := 0) hK hP rfl rfl, fun U hU hW => ⟨rfl, by rw [hU]; exact hP.sub (ws' := [(h0, .inr (0, [.ref aT, .ref aW, .ref aB, .ref aL, .ref aS, .ref aV, .ref aC, .ref a7, .ref a8, .ref a9, .ref a10, .ref aE, .int 0, .int 0, .int 0, .int (-1)]))]) [0] rfl, va_K.moved hW.alike (hK.sub (tys' := []) [] rfl), nw_ok.warm hW hN, xs_ok.moved hW.alike (fun q _ => by rw [hU]) hX⟩⟩ rfl rfl hl.1 rfl (lv_room (Nat.le_of_ble_eq_true rfl)) d_LW_holds_3 ⟨Nat.le_of_ble_eq_true rfl, Nat.le_of_ble_eq_true rfl⟩) htab hown (xp_hit (by decide) (by decide) (by decide) (hts _ k_673) (xs_w hX xd_1)) hS (fun x1 H1 locs hz1 hk1 hS => ?_)
  refine lv_astore_n hx hb d_LW_holds_11 rfl hl (by decide) rfl (fun ls hl => ?_)
  have hl : lv_has ls 3 [(2, .ref x1), (0, .ref h0), (1, .ref oo)] := hl
  refine lv_iconst (v := 1) hx hb d_LW_holds_12 (by decide) ?_
  exact W.iret (v := 1) hx hb hr (fun t ht hW => ⟨⟨1, (), rfl, rfl, trivial⟩, hS.F ht⟩) hS.2.2 d_LW_holds_13

set_option maxHeartbeats 4000000 in
set_option maxRecDepth 100000 in
theorem c_LW_kernelAt (l : Launch) (htr : l.stackTraces = false) (dC : Nat → ClassId) (dI : Nat → Nat → Nat) (h0 : Nat) (aT : Nat) (aW : Nat) (aB : Nat) (aL : Nat) (aS : Nat) (aV : Nat) (aC : Nat) (a7 : Nat) (a8 : Nat) (a9 : Nat) (a10 : Nat) (aE : Nat) (b0 : Nat) (b1 : Nat) (b2 : Nat) (b3 : Nat) (b4 : Nat) (i : Int32) (column : Int32) (oo : Nat) : Met l y_LW_kernelAt (Cond.codeWith y_LW_kernelAt b_LW_kernelAt 5 (Option.some Jvm.ClassFile.FieldType.int)  [((0 : Nat), (9 : Nat), (12 : Nat), (13 : Nat))] :: wd) { frames := 7, cells := 1, slots := 6, locals := 122 } (va_Pc [.ref h0, .int i, .int column, .ref oo] (fun U => va_P (dC, dI) cls [(h0, .inr (0, [.ref aT, .ref aW, .ref aB, .ref aL, .ref aS, .ref aV, .ref aC, .ref a7, .ref a8, .ref a9, .ref a10, .ref aE, .int 0, .int 0, .int 0, .int (-1)])), (aL, .inr (5, [.ref b0, .ref b1, .ref b2, .ref b3, .ref b4, .int 0, .int 0, .int 0, .int 0]))] U.heap ∧ va_K (dC, dI) cls [] U ∧ nw_ok U ∧ xs_ok U ∧ xc_ok U)) (va_Qi (fun r (_ : Unit) => r = 1) (fun _ _ => True) (fun _ => False)) 1 6 (fun _ => False) := by
  refine xh_ofW (cc := b_LW_kernelAt) (maxL := 5) (ret := (Option.some Jvm.ClassFile.FieldType.int)) (hs :=  [((0 : Nat), (9 : Nat), (12 : Nat), (13 : Nat))]) (by decide) rfl ?_
  intro p e s m args below meth c s₁ B hml htab hv
  obtain ⟨rfl, hP, hK, hN, hX, hXc⟩ := hv
  have hx := B.exec
  have hb := B.bytes
  have hr := B.returns
  have hlocks := B.notSynchronized
  have hts : ∀ w ∈ wd, w.before ([.ref h0, .int i, .int column, .ref oo] : List Value).toArray s = true := fun w hw => atoms_spec (ws := (Cond.codeWith y_LW_kernelAt b_LW_kernelAt 5 (Option.some Jvm.ClassFile.FieldType.int)  [((0 : Nat), (9 : Nat), (12 : Nat), (13 : Nat))] :: wd)) B.pre w (List.mem_cons_of_mem _ hw)
  have hown : s.vm.findClass "LeastSolutionsLaw" = some m.cls := findClass_of_methodNamed B.named
  have hS : va_S (fun _ => False) s.heap s.heap [] := va_S.rf
  have hl := lv_entry ([.ref h0, .int i, .int column, .ref oo]) (n := 5) (Nat.le_of_ble_eq_true rfl)
  rw [lg_entry_eq]
  generalize (lg_sl ([.ref h0, .int i, .int column, .ref oo]) ++ List.replicate (5 - (lg_sl ([.ref h0, .int i, .int column, .ref oo])).length) Slot.unset).toArray = ls at hl ⊢
  have hl : lv_has ls 5 [(0, .ref h0), (1, .int i), (2, .int column), (3, .ref oo)] := hl
  refine lv_aload_n hx hb d_LW_kernelAt_0 rfl (lv_at hl 3 rfl) ?_
  refine lv_iconst (v := 0) hx hb d_LW_kernelAt_1 (by decide) ?_
  refine lv_aload_n hx hb d_LW_kernelAt_2 rfl (lv_at hl 0 rfl) ?_
  refine lv_iload_n hx hb d_LW_kernelAt_3 rfl (lv_at hl 1 rfl) ?_
  refine lv_iload_n hx hb d_LW_kernelAt_4 rfl (lv_at hl 2 rfl) ?_
  refine xt_catch (cls := "java/lang/IndexOutOfBoundsException") (own := "LeastSolutionsLaw") (hpc := 12) (xt_runV (As := [.int i, .int column]) (rest := [.int 0, .ref oo]) ⟨hx, hb, hml, hown, hts⟩ (c_LS_kernelAt l htr dC dI (h0) (aT) (aW) (aB) (aL) (aS) (aV) (aC) (a7) (a8) (a9) (a10) (aE) (b0) (b1) (b2) (b3) (b4) (i) (column)) (wd_V (C := "LeastSolutions") 2 hts k_718 k_1 k_715 k_716 k_717 rfl rfl (by decide +kernel) ⟨Nat.le_of_ble_eq_true rfl, Nat.le_of_ble_eq_true rfl⟩) ⟨fun a U g mk q => by obtain ⟨q0, qP, qK, qN, qX⟩ := q; exact ⟨q0, qP, va_K.moved (u := U) (U := U.calling g mk a) (Vm.Alike.refl U.vm) qK, nw_ok.same (s := U) (U := U.calling g mk a) rfl qN, xs_ok.moved (s := U) (Vm.Alike.refl U.vm) (fun _ _ => rfl) qX⟩, va_recv (ci := 0) (q0 := 0) hK hP rfl rfl, fun U hU hW => ⟨rfl, by rw [hU]; exact hP.sub (ws' := [(h0, .inr (0, [.ref aT, .ref aW, .ref aB, .ref aL, .ref aS, .ref aV, .ref aC, .ref a7, .ref a8, .ref a9, .ref a10, .ref aE, .int 0, .int 0, .int 0, .int (-1)])), (aL, .inr (5, [.ref b0, .ref b1, .ref b2, .ref b3, .ref b4, .int 0, .int 0, .int 0, .int 0]))]) [0, 1] rfl, va_K.moved hW.alike (hK.sub (tys' := []) [] rfl), nw_ok.warm hW hN, xs_ok.moved hW.alike (fun q _ => by rw [hU]) hX⟩⟩ rfl rfl hl.1 rfl (lv_room (Nat.le_of_ble_eq_true rfl)) d_LW_kernelAt_5 ⟨Nat.le_of_ble_eq_true rfl, Nat.le_of_ble_eq_true rfl⟩) htab hown (xp_hit (by decide) (by decide) (by decide) (hts _ k_601) (xs_w hX xd_0)) hS (fun x1 H1 locs hz1 hk1 hS => ?_)
  refine lv_astore hx hb d_LW_kernelAt_12 hl (by decide) rfl (fun ls hl => ?_)
  have hl : lv_has ls 5 [(4, .ref x1), (0, .ref h0), (1, .int i), (2, .int column), (3, .ref oo)] := hl
  refine lv_iconst (v := 1) hx hb d_LW_kernelAt_14 (by decide) ?_
  exact W.iret (v := 1) hx hb hr (fun t ht hW => ⟨⟨1, (), rfl, rfl, trivial⟩, hS.F ht⟩) hS.2.2 d_LW_kernelAt_15

set_option maxHeartbeats 4000000 in
set_option maxRecDepth 100000 in
theorem c_LW_work_1 (l : Launch) (htr : l.stackTraces = false) (dC : Nat → ClassId) (dI : Nat → Nat → Nat) (h0 : Nat) (aT : Nat) (aW : Nat) (aB : Nat) (aL : Nat) (aS : Nat) (aV : Nat) (aC : Nat) (a7 : Nat) (a8 : Nat) (a9 : Nat) (a10 : Nat) (aE : Nat) (what : Int32) (bound : Int32) (oo : Nat) (g0 : what < 0 ∨ 2 < what ∨ bound < 0 ∨ (if what = 2 then (10 : Int32) else 16) < bound) : Met l y_LW_work (Cond.codeWith y_LW_work b_LW_work 5 (Option.some Jvm.ClassFile.FieldType.int)  [((0 : Nat), (10 : Nat), (13 : Nat), (31 : Nat)), ((0 : Nat), (10 : Nat), (17 : Nat), (19 : Nat))] :: wd) { frames := 8, cells := 1, slots := 6, locals := 144 } (va_Pc [.ref h0, .int what, .int bound, .ref oo] (fun U => va_P (dC, dI) cls [(h0, .inr (0, [.ref aT, .ref aW, .ref aB, .ref aL, .ref aS, .ref aV, .ref aC, .ref a7, .ref a8, .ref a9, .ref a10, .ref aE, .int 0, .int 0, .int 0, .int (-1)]))] U.heap ∧ va_K (dC, dI) cls [] U ∧ nw_ok U ∧ xs_ok U ∧ xc_ok U)) (va_Qi (fun r (_ : Unit) => r = 1) (fun _ _ => True) (fun _ => False)) 1 6 (fun _ => False) := by
  refine xh_ofW (cc := b_LW_work) (maxL := 5) (ret := (Option.some Jvm.ClassFile.FieldType.int)) (hs :=  [((0 : Nat), (10 : Nat), (13 : Nat), (31 : Nat)), ((0 : Nat), (10 : Nat), (17 : Nat), (19 : Nat))]) (by decide) rfl ?_
  intro p e s m args below meth c s₁ B hml htab hv
  obtain ⟨rfl, hP, hK, hN, hX, hXc⟩ := hv
  have hx := B.exec
  have hb := B.bytes
  have hr := B.returns
  have hlocks := B.notSynchronized
  have hts : ∀ w ∈ wd, w.before ([.ref h0, .int what, .int bound, .ref oo] : List Value).toArray s = true := fun w hw => atoms_spec (ws := (Cond.codeWith y_LW_work b_LW_work 5 (Option.some Jvm.ClassFile.FieldType.int)  [((0 : Nat), (10 : Nat), (13 : Nat), (31 : Nat)), ((0 : Nat), (10 : Nat), (17 : Nat), (19 : Nat))] :: wd)) B.pre w (List.mem_cons_of_mem _ hw)
  have hown : s.vm.findClass "LeastSolutionsLaw" = some m.cls := findClass_of_methodNamed B.named
  have hS : va_S (fun _ => False) s.heap s.heap [] := va_S.rf
  have hl := lv_entry ([.ref h0, .int what, .int bound, .ref oo]) (n := 5) (Nat.le_of_ble_eq_true rfl)
  rw [lg_entry_eq]
  generalize (lg_sl ([.ref h0, .int what, .int bound, .ref oo]) ++ List.replicate (5 - (lg_sl ([.ref h0, .int what, .int bound, .ref oo])).length) Slot.unset).toArray = ls at hl ⊢
  have hl : lv_has ls 5 [(0, .ref h0), (1, .int what), (2, .int bound), (3, .ref oo)] := hl
  refine lv_aload_n hx hb d_LW_work_0 rfl (lv_at hl 3 rfl) ?_
  refine lv_iconst (v := 0) hx hb d_LW_work_1 (by decide) ?_
  refine lv_aload_n hx hb d_LW_work_2 rfl (lv_at hl 0 rfl) ?_
  refine lv_iload_n hx hb d_LW_work_3 rfl (lv_at hl 1 rfl) ?_
  refine lv_iload_n hx hb d_LW_work_4 rfl (lv_at hl 2 rfl) ?_
  refine xt_catch (cls := "java/lang/IllegalArgumentException") (own := "LeastSolutionsLaw") (hpc := 13) (xt_runV (As := [.int what, .int bound]) (rest := [.int 0, .ref oo]) ⟨hx, hb, hml, hown, hts⟩ (c_LS_work_IA l htr dC dI (h0) (aT) (aW) (aB) (aL) (aS) (aV) (aC) (a7) (a8) (a9) (a10) (aE) (what) (bound) (g0)) (wd_V (C := "LeastSolutions") 2 hts k_734 k_1 k_731 k_732 k_733 rfl rfl (by decide +kernel) ⟨Nat.le_of_ble_eq_true rfl, Nat.le_of_ble_eq_true rfl⟩) ⟨fun a U g mk q => by obtain ⟨q0, qP, qK, qN, qX⟩ := q; exact ⟨q0, qP, va_K.moved (u := U) (U := U.calling g mk a) (Vm.Alike.refl U.vm) qK, nw_ok.same (s := U) (U := U.calling g mk a) rfl qN, xs_ok.moved (s := U) (Vm.Alike.refl U.vm) (fun _ _ => rfl) qX⟩, va_recv (ci := 0) (q0 := 0) hK hP rfl rfl, fun U hU hW => ⟨rfl, by rw [hU]; exact hP.sub (ws' := [(h0, .inr (0, [.ref aT, .ref aW, .ref aB, .ref aL, .ref aS, .ref aV, .ref aC, .ref a7, .ref a8, .ref a9, .ref a10, .ref aE, .int 0, .int 0, .int 0, .int (-1)]))]) [0] rfl, va_K.moved hW.alike (hK.sub (tys' := []) [] rfl), nw_ok.warm hW hN, xs_ok.moved hW.alike (fun q _ => by rw [hU]) hX⟩⟩ rfl rfl hl.1 rfl (lv_room (Nat.le_of_ble_eq_true rfl)) d_LW_work_5 ⟨Nat.le_of_ble_eq_true rfl, Nat.le_of_ble_eq_true rfl⟩) htab hown (xp_hit (by decide) (by decide) (by decide) (hts _ k_730) (xs_w hX xd_2)) hS (fun x1 H1 locs hz1 hk1 hS => ?_)
  refine lv_astore hx hb d_LW_work_13 hl (by decide) rfl (fun ls hl => ?_)
  have hl : lv_has ls 5 [(4, .ref x1), (0, .ref h0), (1, .int what), (2, .int bound), (3, .ref oo)] := hl
  refine lv_iconst (v := 1) hx hb d_LW_work_15 (by decide) ?_
  exact W.iret (v := 1) hx hb hr (fun t ht hW => ⟨⟨1, (), rfl, rfl, trivial⟩, hS.F ht⟩) hS.2.2 d_LW_work_16

set_option maxHeartbeats 4000000 in
set_option maxRecDepth 100000 in
theorem c_LW_work_2 (l : Launch) (htr : l.stackTraces = false) (dC : Nat → ClassId) (dI : Nat → Nat → Nat) (h0 : Nat) (aT : Nat) (aW : Nat) (aB : Nat) (aL : Nat) (aS : Nat) (aV : Nat) (aC : Nat) (a7 : Nat) (a8 : Nat) (a9 : Nat) (a10 : Nat) (aE : Nat) (what : Int32) (bound : Int32) (oo : Nat) (g1 : ¬ what < 0) (g2 : ¬ 2 < what) (g3 : ¬ bound < 0) (g4 : ¬ (if what = 2 then (10 : Int32) else 16) < bound) : Met l y_LW_work (Cond.codeWith y_LW_work b_LW_work 5 (Option.some Jvm.ClassFile.FieldType.int)  [((0 : Nat), (10 : Nat), (13 : Nat), (31 : Nat)), ((0 : Nat), (10 : Nat), (17 : Nat), (19 : Nat))] :: wd) { frames := 8, cells := 1, slots := 6, locals := 143 } (va_Pc [.ref h0, .int what, .int bound, .ref oo] (fun U => va_P (dC, dI) cls [(h0, .inr (0, [.ref aT, .ref aW, .ref aB, .ref aL, .ref aS, .ref aV, .ref aC, .ref a7, .ref a8, .ref a9, .ref a10, .ref aE, .int 0, .int 0, .int 0, .int (-1)]))] U.heap ∧ va_K (dC, dI) cls [] U ∧ nw_ok U ∧ xs_ok U ∧ xc_ok U)) (va_Qi (fun r (_ : Unit) => r = 2) (fun _ _ => True) (fun _ => False)) 1 6 (fun _ => False) := by
  refine xh_ofW (cc := b_LW_work) (maxL := 5) (ret := (Option.some Jvm.ClassFile.FieldType.int)) (hs :=  [((0 : Nat), (10 : Nat), (13 : Nat), (31 : Nat)), ((0 : Nat), (10 : Nat), (17 : Nat), (19 : Nat))]) (by decide) rfl ?_
  intro p e s m args below meth c s₁ B hml htab hv
  obtain ⟨rfl, hP, hK, hN, hX, hXc⟩ := hv
  have hx := B.exec
  have hb := B.bytes
  have hr := B.returns
  have hlocks := B.notSynchronized
  have hts : ∀ w ∈ wd, w.before ([.ref h0, .int what, .int bound, .ref oo] : List Value).toArray s = true := fun w hw => atoms_spec (ws := (Cond.codeWith y_LW_work b_LW_work 5 (Option.some Jvm.ClassFile.FieldType.int)  [((0 : Nat), (10 : Nat), (13 : Nat), (31 : Nat)), ((0 : Nat), (10 : Nat), (17 : Nat), (19 : Nat))] :: wd)) B.pre w (List.mem_cons_of_mem _ hw)
  have hown : s.vm.findClass "LeastSolutionsLaw" = some m.cls := findClass_of_methodNamed B.named
  have hS : va_S (fun _ => False) s.heap s.heap [] := va_S.rf
  have hl := lv_entry ([.ref h0, .int what, .int bound, .ref oo]) (n := 5) (Nat.le_of_ble_eq_true rfl)
  rw [lg_entry_eq]
  generalize (lg_sl ([.ref h0, .int what, .int bound, .ref oo]) ++ List.replicate (5 - (lg_sl ([.ref h0, .int what, .int bound, .ref oo])).length) Slot.unset).toArray = ls at hl ⊢
  have hl : lv_has ls 5 [(0, .ref h0), (1, .int what), (2, .int bound), (3, .ref oo)] := hl
  refine lv_aload_n hx hb d_LW_work_0 rfl (lv_at hl 3 rfl) ?_
  refine lv_iconst (v := 0) hx hb d_LW_work_1 (by decide) ?_
  refine lv_aload_n hx hb d_LW_work_2 rfl (lv_at hl 0 rfl) ?_
  refine lv_iload_n hx hb d_LW_work_3 rfl (lv_at hl 1 rfl) ?_
  refine lv_iload_n hx hb d_LW_work_4 rfl (lv_at hl 2 rfl) ?_
  refine xt_catch (cls := "java/lang/IllegalStateException") (own := "LeastSolutionsLaw") (hpc := 17) (xt_runV (As := [.int what, .int bound]) (rest := [.int 0, .ref oo]) ⟨hx, hb, hml, hown, hts⟩ (c_LS_work_IS l htr dC dI (h0) (aT) (aW) (aB) (aL) (aS) (aV) (aC) (a7) (a8) (a9) (a10) (aE) (what) (bound) (g1) (g2) (g3) (g4)) (wd_V (C := "LeastSolutions") 2 hts k_734 k_1 k_731 k_732 k_733 rfl rfl (by decide +kernel) ⟨Nat.le_of_ble_eq_true rfl, Nat.le_of_ble_eq_true rfl⟩) ⟨fun a U g mk q => by obtain ⟨q0, qP, qK, qN, qX⟩ := q; exact ⟨q0, qP, va_K.moved (u := U) (U := U.calling g mk a) (Vm.Alike.refl U.vm) qK, nw_ok.same (s := U) (U := U.calling g mk a) rfl qN, xs_ok.moved (s := U) (Vm.Alike.refl U.vm) (fun _ _ => rfl) qX⟩, va_recv (ci := 0) (q0 := 0) hK hP rfl rfl, fun U hU hW => ⟨rfl, by rw [hU]; exact hP.sub (ws' := [(h0, .inr (0, [.ref aT, .ref aW, .ref aB, .ref aL, .ref aS, .ref aV, .ref aC, .ref a7, .ref a8, .ref a9, .ref a10, .ref aE, .int 0, .int 0, .int 0, .int (-1)]))]) [0] rfl, va_K.moved hW.alike (hK.sub (tys' := []) [] rfl), nw_ok.warm hW hN, xs_ok.moved hW.alike (fun q _ => by rw [hU]) hX⟩⟩ rfl rfl hl.1 rfl (lv_room (Nat.le_of_ble_eq_true rfl)) d_LW_work_5 ⟨Nat.le_of_ble_eq_true rfl, Nat.le_of_ble_eq_true rfl⟩) htab hown (xp_pass (by decide) (by decide) (by decide) (hts _ k_730) hXc (xp_hit (by decide) (by decide) (by decide) (hts _ k_673) (xs_w hX xd_1))) hS (fun x1 H1 locs hz1 hk1 hS => ?_)
  refine lv_astore hx hb d_LW_work_17 hl (by decide) rfl (fun ls hl => ?_)
  have hl : lv_has ls 5 [(4, .ref x1), (0, .ref h0), (1, .int what), (2, .int bound), (3, .ref oo)] := hl
  refine lv_iconst (v := 2) hx hb d_LW_work_19 (by decide) ?_
  exact W.iret (v := 2) hx hb hr (fun t ht hW => ⟨⟨2, (), rfl, rfl, trivial⟩, hS.F ht⟩) hS.2.2 d_LW_work_20

set_option maxHeartbeats 4000000 in
set_option maxRecDepth 100000 in
theorem c_LW_at (l : Launch) (htr : l.stackTraces = false) (dC : Nat → ClassId) (dI : Nat → Nat → Nat) (h0 : Nat) (aT : Nat) (aW : Nat) (aB : Nat) (aL : Nat) (aS : Nat) (aV : Nat) (aC : Nat) (a7 : Nat) (a8 : Nat) (a9 : Nat) (a10 : Nat) (aE : Nat) (cV : ClassId) (fV : Nat → Option Nat) (v0 : Nat) (v1 : Nat) (v2 : Nat) (n0 : Nat) (n1 : Nat) (n2 : Nat) (what : Int32) (i : Int32) (column : Int32) (oo : Nat) (hf0 : fV 0 = some v0) (hf1 : fV 1 = some v1) (hf2 : fV 2 = some v2) : Met l y_LW_at (Cond.codeWith y_LW_at b_LW_at 6 (Option.some Jvm.ClassFile.FieldType.int)  [((0 : Nat), (12 : Nat), (15 : Nat), (13 : Nat))] :: wd) { frames := 7, cells := 1, slots := 6, locals := 123 } (va_Pc [.ref h0, .int what, .int i, .int column, .ref oo] (fun U => va_P (dC, dI) cls [(h0, .inr (0, [.ref aT, .ref aW, .ref aB, .ref aL, .ref aS, .ref aV, .ref aC, .ref a7, .ref a8, .ref a9, .ref a10, .ref aE, .int 0, .int 0, .int 0, .int (-1)])), (aV, .inl (cV, 3, .inr (.inr (.inr (.inr fV))))), (v0, .inr (7, [.ref n0, .int 0, .int 0, .int 0, .int 0, .int 0])), (v1, .inr (7, [.ref n1, .int 0, .int 0, .int 0, .int 0, .int 0])), (v2, .inr (7, [.ref n2, .int 0, .int 0, .int 0, .int 0, .int 0]))] U.heap ∧ va_K (dC, dI) cls [(cV, .object "LeastSolutions$VectorList")] U ∧ nw_ok U ∧ xs_ok U ∧ xc_ok U)) (va_Qi (fun r (_ : Unit) => r = 1) (fun _ _ => True) (fun _ => False)) 1 6 (fun _ => False) := by
  refine xh_ofW (cc := b_LW_at) (maxL := 6) (ret := (Option.some Jvm.ClassFile.FieldType.int)) (hs :=  [((0 : Nat), (12 : Nat), (15 : Nat), (13 : Nat))]) (by decide) rfl ?_
  intro p e s m args below meth c s₁ B hml htab hv
  obtain ⟨rfl, hP, hK, hN, hX, hXc⟩ := hv
  have hx := B.exec
  have hb := B.bytes
  have hr := B.returns
  have hlocks := B.notSynchronized
  have hts : ∀ w ∈ wd, w.before ([.ref h0, .int what, .int i, .int column, .ref oo] : List Value).toArray s = true := fun w hw => atoms_spec (ws := (Cond.codeWith y_LW_at b_LW_at 6 (Option.some Jvm.ClassFile.FieldType.int)  [((0 : Nat), (12 : Nat), (15 : Nat), (13 : Nat))] :: wd)) B.pre w (List.mem_cons_of_mem _ hw)
  have hown : s.vm.findClass "LeastSolutionsLaw" = some m.cls := findClass_of_methodNamed B.named
  have hS : va_S (fun _ => False) s.heap s.heap [] := va_S.rf
  have hl := lv_entry ([.ref h0, .int what, .int i, .int column, .ref oo]) (n := 6) (Nat.le_of_ble_eq_true rfl)
  rw [lg_entry_eq]
  generalize (lg_sl ([.ref h0, .int what, .int i, .int column, .ref oo]) ++ List.replicate (6 - (lg_sl ([.ref h0, .int what, .int i, .int column, .ref oo])).length) Slot.unset).toArray = ls at hl ⊢
  have hl : lv_has ls 6 [(0, .ref h0), (1, .int what), (2, .int i), (3, .int column), (4, .ref oo)] := hl
  refine lv_aload hx hb d_LW_at_0 (lv_at hl 4 rfl) ?_
  refine lv_iconst (v := 0) hx hb d_LW_at_2 (by decide) ?_
  refine lv_aload_n hx hb d_LW_at_3 rfl (lv_at hl 0 rfl) ?_
  refine lv_iload_n hx hb d_LW_at_4 rfl (lv_at hl 1 rfl) ?_
  refine lv_iload_n hx hb d_LW_at_5 rfl (lv_at hl 2 rfl) ?_
  refine lv_iload_n hx hb d_LW_at_6 rfl (lv_at hl 3 rfl) ?_
  refine xt_catch (cls := "java/lang/IndexOutOfBoundsException") (own := "LeastSolutionsLaw") (hpc := 15) (xt_runV (As := [.int what, .int i, .int column]) (rest := [.int 0, .ref oo]) ⟨hx, hb, hml, hown, hts⟩ (c_LS_at l htr dC dI (h0) (aT) (aW) (aB) (aL) (aS) (aV) (aC) (a7) (a8) (a9) (a10) (aE) (cV) (fV) (v0) (v1) (v2) (n0) (n1) (n2) (what) (i) (column) (hf0) (hf1) (hf2)) (wd_V (C := "LeastSolutions") 3 hts k_826 k_1 k_823 k_824 k_825 rfl rfl (by decide +kernel) ⟨Nat.le_of_ble_eq_true rfl, Nat.le_of_ble_eq_true rfl⟩) ⟨fun a U g mk q => by obtain ⟨q0, qP, qK, qN, qX⟩ := q; exact ⟨q0, qP, va_K.moved (u := U) (U := U.calling g mk a) (Vm.Alike.refl U.vm) qK, nw_ok.same (s := U) (U := U.calling g mk a) rfl qN, xs_ok.moved (s := U) (Vm.Alike.refl U.vm) (fun _ _ => rfl) qX⟩, va_recv (ci := 0) (q0 := 0) hK hP rfl rfl, fun U hU hW => ⟨rfl, by rw [hU]; exact hP.sub (ws' := [(h0, .inr (0, [.ref aT, .ref aW, .ref aB, .ref aL, .ref aS, .ref aV, .ref aC, .ref a7, .ref a8, .ref a9, .ref a10, .ref aE, .int 0, .int 0, .int 0, .int (-1)])), (aV, .inl (cV, 3, .inr (.inr (.inr (.inr fV))))), (v0, .inr (7, [.ref n0, .int 0, .int 0, .int 0, .int 0, .int 0])), (v1, .inr (7, [.ref n1, .int 0, .int 0, .int 0, .int 0, .int 0])), (v2, .inr (7, [.ref n2, .int 0, .int 0, .int 0, .int 0, .int 0]))]) [0, 1, 2, 3, 4] rfl, va_K.moved hW.alike (hK.sub (tys' := [(cV, .object "LeastSolutions$VectorList")]) [0] rfl), nw_ok.warm hW hN, xs_ok.moved hW.alike (fun q _ => by rw [hU]) hX⟩⟩ rfl rfl hl.1 rfl (lv_room (Nat.le_of_ble_eq_true rfl)) d_LW_at_7 ⟨Nat.le_of_ble_eq_true rfl, Nat.le_of_ble_eq_true rfl⟩) htab hown (xp_hit (by decide) (by decide) (by decide) (hts _ k_601) (xs_w hX xd_0)) hS (fun x1 H1 locs hz1 hk1 hS => ?_)
  refine lv_astore hx hb d_LW_at_15 hl (by decide) rfl (fun ls hl => ?_)
  have hl : lv_has ls 6 [(5, .ref x1), (0, .ref h0), (1, .int what), (2, .int i), (3, .int column), (4, .ref oo)] := hl
  refine lv_iconst (v := 1) hx hb d_LW_at_17 (by decide) ?_
  exact W.iret (v := 1) hx hb hr (fun t ht hW => ⟨⟨1, (), rfl, rfl, trivial⟩, hS.F ht⟩) hS.2.2 d_LW_at_18

set_option maxHeartbeats 4000000 in
set_option maxRecDepth 100000 in
theorem c_LW_tell (l : Launch) (htr : l.stackTraces = false) (dC : Nat → ClassId) (dI : Nat → Nat → Nat) (h0 : Nat) (aT : Nat) (aW : Nat) (aB : Nat) (aL : Nat) (aS : Nat) (aV : Nat) (aC : Nat) (a7 : Nat) (a8 : Nat) (a9 : Nat) (a10 : Nat) (aE : Nat) (e0 : Nat) (e1 : Nat) (e2 : Nat) (e3 : Nat) (e4 : Nat) (column : Int32) (value : Int32) : Met l y_LW_tell (Cond.codeWith y_LW_tell b_LW_tell 4 (Option.some Jvm.ClassFile.FieldType.int)  [((0 : Nat), (6 : Nat), (9 : Nat), (13 : Nat)), ((0 : Nat), (6 : Nat), (12 : Nat), (31 : Nat))] :: wd) { frames := 8, cells := 1, slots := 6, locals := 143 } (va_Pc [.ref h0, .int column, .int value] (fun U => va_P (dC, dI) cls [(h0, .inr (0, [.ref aT, .ref aW, .ref aB, .ref aL, .ref aS, .ref aV, .ref aC, .ref a7, .ref a8, .ref a9, .ref a10, .ref aE, .int 0, .int 0, .int 0, .int (-1)])), (aE, .inr (4, [.ref e0, .ref e1, .ref e2, .ref e3, .ref e4, .int 0, .int 0, .int 0]))] U.heap ∧ va_K (dC, dI) cls [] U ∧ nw_ok U ∧ xs_ok U ∧ xc_ok U)) (va_Qi (fun r (_ : Unit) => r = 1) (fun _ _ => True) (fun _ => False)) 1 6 (fun _ => False) := by
  refine xh_ofW (cc := b_LW_tell) (maxL := 4) (ret := (Option.some Jvm.ClassFile.FieldType.int)) (hs :=  [((0 : Nat), (6 : Nat), (9 : Nat), (13 : Nat)), ((0 : Nat), (6 : Nat), (12 : Nat), (31 : Nat))]) (by decide) rfl ?_
  intro p e s m args below meth c s₁ B hml htab hv
  obtain ⟨rfl, hP, hK, hN, hX, hXc⟩ := hv
  have hx := B.exec
  have hb := B.bytes
  have hr := B.returns
  have hlocks := B.notSynchronized
  have hts : ∀ w ∈ wd, w.before ([.ref h0, .int column, .int value] : List Value).toArray s = true := fun w hw => atoms_spec (ws := (Cond.codeWith y_LW_tell b_LW_tell 4 (Option.some Jvm.ClassFile.FieldType.int)  [((0 : Nat), (6 : Nat), (9 : Nat), (13 : Nat)), ((0 : Nat), (6 : Nat), (12 : Nat), (31 : Nat))] :: wd)) B.pre w (List.mem_cons_of_mem _ hw)
  have hown : s.vm.findClass "LeastSolutionsLaw" = some m.cls := findClass_of_methodNamed B.named
  have hS : va_S (fun _ => False) s.heap s.heap [] := va_S.rf
  have hl := lv_entry ([.ref h0, .int column, .int value]) (n := 4) (Nat.le_of_ble_eq_true rfl)
  rw [lg_entry_eq]
  generalize (lg_sl ([.ref h0, .int column, .int value]) ++ List.replicate (4 - (lg_sl ([.ref h0, .int column, .int value])).length) Slot.unset).toArray = ls at hl ⊢
  have hl : lv_has ls 4 [(0, .ref h0), (1, .int column), (2, .int value)] := hl
  refine lv_aload_n hx hb d_LW_tell_0 rfl (lv_at hl 0 rfl) ?_
  refine lv_iload_n hx hb d_LW_tell_1 rfl (lv_at hl 1 rfl) ?_
  refine lv_iload_n hx hb d_LW_tell_2 rfl (lv_at hl 2 rfl) ?_
  refine xt_catch (cls := "java/lang/IndexOutOfBoundsException") (own := "LeastSolutionsLaw") (hpc := 9) (xt_runV (As := [.int column, .int value]) (rest := []) ⟨hx, hb, hml, hown, hts⟩ (c_LS_tell l htr dC dI (h0) (aT) (aW) (aB) (aL) (aS) (aV) (aC) (a7) (a8) (a9) (a10) (aE) (e0) (e1) (e2) (e3) (e4) (column) (value)) (wd_V (C := "LeastSolutions") 2 hts k_834 k_1 k_831 k_832 k_833 rfl rfl (by decide +kernel) ⟨Nat.le_of_ble_eq_true rfl, Nat.le_of_ble_eq_true rfl⟩) ⟨fun a U g mk q => by obtain ⟨q0, qP, qK, qN, qX⟩ := q; exact ⟨q0, qP, va_K.moved (u := U) (U := U.calling g mk a) (Vm.Alike.refl U.vm) qK, nw_ok.same (s := U) (U := U.calling g mk a) rfl qN, xs_ok.moved (s := U) (Vm.Alike.refl U.vm) (fun _ _ => rfl) qX⟩, va_recv (ci := 0) (q0 := 0) hK hP rfl rfl, fun U hU hW => ⟨rfl, by rw [hU]; exact hP.sub (ws' := [(h0, .inr (0, [.ref aT, .ref aW, .ref aB, .ref aL, .ref aS, .ref aV, .ref aC, .ref a7, .ref a8, .ref a9, .ref a10, .ref aE, .int 0, .int 0, .int 0, .int (-1)])), (aE, .inr (4, [.ref e0, .ref e1, .ref e2, .ref e3, .ref e4, .int 0, .int 0, .int 0]))]) [0, 1] rfl, va_K.moved hW.alike (hK.sub (tys' := []) [] rfl), nw_ok.warm hW hN, xs_ok.moved hW.alike (fun q _ => by rw [hU]) hX⟩⟩ rfl rfl hl.1 rfl (lv_room (Nat.le_of_ble_eq_true rfl)) d_LW_tell_3 ⟨Nat.le_of_ble_eq_true rfl, Nat.le_of_ble_eq_true rfl⟩) htab hown (xp_hit (by decide) (by decide) (by decide) (hts _ k_601) (xs_w hX xd_0)) hS (fun x1 H1 locs hz1 hk1 hS => ?_)
  refine lv_astore_n hx hb d_LW_tell_9 rfl hl (by decide) rfl (fun ls hl => ?_)
  have hl : lv_has ls 4 [(3, .ref x1), (0, .ref h0), (1, .int column), (2, .int value)] := hl
  refine lv_iconst (v := 1) hx hb d_LW_tell_10 (by decide) ?_
  exact W.iret (v := 1) hx hb hr (fun t ht hW => ⟨⟨1, (), rfl, rfl, trivial⟩, hS.F ht⟩) hS.2.2 d_LW_tell_11

set_option maxHeartbeats 4000000 in
set_option maxRecDepth 100000 in
theorem c_LW_cost (l : Launch) (htr : l.stackTraces = false) (dC : Nat → ClassId) (dI : Nat → Nat → Nat) (h0 : Nat) (aT : Nat) (aW : Nat) (aB : Nat) (aL : Nat) (aS : Nat) (aV : Nat) (aC : Nat) (a7 : Nat) (a8 : Nat) (a9 : Nat) (a10 : Nat) (aE : Nat) (e0 : Nat) (e1 : Nat) (e2 : Nat) (e3 : Nat) (e4 : Nat) (column : Int32) (value : Int32) : Met l y_LW_cost (Cond.codeWith y_LW_cost b_LW_cost 4 (Option.some Jvm.ClassFile.FieldType.int)  [((0 : Nat), (6 : Nat), (9 : Nat), (13 : Nat)), ((0 : Nat), (6 : Nat), (12 : Nat), (31 : Nat))] :: wd) { frames := 8, cells := 1, slots := 6, locals := 143 } (va_Pc [.ref h0, .int column, .int value] (fun U => va_P (dC, dI) cls [(h0, .inr (0, [.ref aT, .ref aW, .ref aB, .ref aL, .ref aS, .ref aV, .ref aC, .ref a7, .ref a8, .ref a9, .ref a10, .ref aE, .int 0, .int 0, .int 0, .int (-1)])), (aE, .inr (4, [.ref e0, .ref e1, .ref e2, .ref e3, .ref e4, .int 0, .int 0, .int 0]))] U.heap ∧ va_K (dC, dI) cls [] U ∧ nw_ok U ∧ xs_ok U ∧ xc_ok U)) (va_Qi (fun r (_ : Unit) => r = 1) (fun _ _ => True) (fun _ => False)) 1 6 (fun _ => False) := by
  refine xh_ofW (cc := b_LW_cost) (maxL := 4) (ret := (Option.some Jvm.ClassFile.FieldType.int)) (hs :=  [((0 : Nat), (6 : Nat), (9 : Nat), (13 : Nat)), ((0 : Nat), (6 : Nat), (12 : Nat), (31 : Nat))]) (by decide) rfl ?_
  intro p e s m args below meth c s₁ B hml htab hv
  obtain ⟨rfl, hP, hK, hN, hX, hXc⟩ := hv
  have hx := B.exec
  have hb := B.bytes
  have hr := B.returns
  have hlocks := B.notSynchronized
  have hts : ∀ w ∈ wd, w.before ([.ref h0, .int column, .int value] : List Value).toArray s = true := fun w hw => atoms_spec (ws := (Cond.codeWith y_LW_cost b_LW_cost 4 (Option.some Jvm.ClassFile.FieldType.int)  [((0 : Nat), (6 : Nat), (9 : Nat), (13 : Nat)), ((0 : Nat), (6 : Nat), (12 : Nat), (31 : Nat))] :: wd)) B.pre w (List.mem_cons_of_mem _ hw)
  have hown : s.vm.findClass "LeastSolutionsLaw" = some m.cls := findClass_of_methodNamed B.named
  have hS : va_S (fun _ => False) s.heap s.heap [] := va_S.rf
  have hl := lv_entry ([.ref h0, .int column, .int value]) (n := 4) (Nat.le_of_ble_eq_true rfl)
  rw [lg_entry_eq]
  generalize (lg_sl ([.ref h0, .int column, .int value]) ++ List.replicate (4 - (lg_sl ([.ref h0, .int column, .int value])).length) Slot.unset).toArray = ls at hl ⊢
  have hl : lv_has ls 4 [(0, .ref h0), (1, .int column), (2, .int value)] := hl
  refine lv_aload_n hx hb d_LW_cost_0 rfl (lv_at hl 0 rfl) ?_
  refine lv_iload_n hx hb d_LW_cost_1 rfl (lv_at hl 1 rfl) ?_
  refine lv_iload_n hx hb d_LW_cost_2 rfl (lv_at hl 2 rfl) ?_
  refine xt_catch (cls := "java/lang/IndexOutOfBoundsException") (own := "LeastSolutionsLaw") (hpc := 9) (xt_runV (As := [.int column, .int value]) (rest := []) ⟨hx, hb, hml, hown, hts⟩ (c_LS_cost l htr dC dI (h0) (aT) (aW) (aB) (aL) (aS) (aV) (aC) (a7) (a8) (a9) (a10) (aE) (e0) (e1) (e2) (e3) (e4) (column) (value)) (wd_V (C := "LeastSolutions") 2 hts k_851 k_1 k_848 k_849 k_850 rfl rfl (by decide +kernel) ⟨Nat.le_of_ble_eq_true rfl, Nat.le_of_ble_eq_true rfl⟩) ⟨fun a U g mk q => by obtain ⟨q0, qP, qK, qN, qX⟩ := q; exact ⟨q0, qP, va_K.moved (u := U) (U := U.calling g mk a) (Vm.Alike.refl U.vm) qK, nw_ok.same (s := U) (U := U.calling g mk a) rfl qN, xs_ok.moved (s := U) (Vm.Alike.refl U.vm) (fun _ _ => rfl) qX⟩, va_recv (ci := 0) (q0 := 0) hK hP rfl rfl, fun U hU hW => ⟨rfl, by rw [hU]; exact hP.sub (ws' := [(h0, .inr (0, [.ref aT, .ref aW, .ref aB, .ref aL, .ref aS, .ref aV, .ref aC, .ref a7, .ref a8, .ref a9, .ref a10, .ref aE, .int 0, .int 0, .int 0, .int (-1)])), (aE, .inr (4, [.ref e0, .ref e1, .ref e2, .ref e3, .ref e4, .int 0, .int 0, .int 0]))]) [0, 1] rfl, va_K.moved hW.alike (hK.sub (tys' := []) [] rfl), nw_ok.warm hW hN, xs_ok.moved hW.alike (fun q _ => by rw [hU]) hX⟩⟩ rfl rfl hl.1 rfl (lv_room (Nat.le_of_ble_eq_true rfl)) d_LW_cost_3 ⟨Nat.le_of_ble_eq_true rfl, Nat.le_of_ble_eq_true rfl⟩) htab hown (xp_hit (by decide) (by decide) (by decide) (hts _ k_601) (xs_w hX xd_0)) hS (fun x1 H1 locs hz1 hk1 hS => ?_)
  refine lv_astore_n hx hb d_LW_cost_9 rfl hl (by decide) rfl (fun ls hl => ?_)
  have hl : lv_has ls 4 [(3, .ref x1), (0, .ref h0), (1, .int column), (2, .int value)] := hl
  refine lv_iconst (v := 1) hx hb d_LW_cost_10 (by decide) ?_
  exact W.iret (v := 1) hx hb hr (fun t ht hW => ⟨⟨1, (), rfl, rfl, trivial⟩, hS.F ht⟩) hS.2.2 d_LW_cost_11

set_option maxHeartbeats 4000000 in
set_option maxRecDepth 100000 in
theorem c_LW_best_1 (l : Launch) (htr : l.stackTraces = false) (dC : Nat → ClassId) (dI : Nat → Nat → Nat) (h0 : Nat) (aT : Nat) (aW : Nat) (aB : Nat) (aL : Nat) (aS : Nat) (aV : Nat) (aC : Nat) (a7 : Nat) (a8 : Nat) (a9 : Nat) (a10 : Nat) (aE : Nat) (bound : Int32) (oo : Nat) (g0 : bound < 0 ∨ 16 < bound) : Met l y_LW_best (Cond.codeWith y_LW_best b_LW_best 4 (Option.some Jvm.ClassFile.FieldType.int)  [((0 : Nat), (9 : Nat), (12 : Nat), (31 : Nat)), ((0 : Nat), (9 : Nat), (15 : Nat), (19 : Nat)), ((0 : Nat), (9 : Nat), (18 : Nat), (51 : Nat))] :: wd) { frames := 8, cells := 1, slots := 6, locals := 142 } (va_Pc [.ref h0, .int bound, .ref oo] (fun U => va_P (dC, dI) cls [(h0, .inr (0, [.ref aT, .ref aW, .ref aB, .ref aL, .ref aS, .ref aV, .ref aC, .ref a7, .ref a8, .ref a9, .ref a10, .ref aE, .int 0, .int 0, .int 0, .int (-1)]))] U.heap ∧ va_K (dC, dI) cls [] U ∧ nw_ok U ∧ xs_ok U ∧ xc_ok U)) (va_Qi (fun r (_ : Unit) => r = 1) (fun _ _ => True) (fun _ => False)) 1 6 (fun _ => False) := by
  refine xh_ofW (cc := b_LW_best) (maxL := 4) (ret := (Option.some Jvm.ClassFile.FieldType.int)) (hs :=  [((0 : Nat), (9 : Nat), (12 : Nat), (31 : Nat)), ((0 : Nat), (9 : Nat), (15 : Nat), (19 : Nat)), ((0 : Nat), (9 : Nat), (18 : Nat), (51 : Nat))]) (by decide) rfl ?_
  intro p e s m args below meth c s₁ B hml htab hv
  obtain ⟨rfl, hP, hK, hN, hX, hXc⟩ := hv
  have hx := B.exec
  have hb := B.bytes
  have hr := B.returns
  have hlocks := B.notSynchronized
  have hts : ∀ w ∈ wd, w.before ([.ref h0, .int bound, .ref oo] : List Value).toArray s = true := fun w hw => atoms_spec (ws := (Cond.codeWith y_LW_best b_LW_best 4 (Option.some Jvm.ClassFile.FieldType.int)  [((0 : Nat), (9 : Nat), (12 : Nat), (31 : Nat)), ((0 : Nat), (9 : Nat), (15 : Nat), (19 : Nat)), ((0 : Nat), (9 : Nat), (18 : Nat), (51 : Nat))] :: wd)) B.pre w (List.mem_cons_of_mem _ hw)
  have hown : s.vm.findClass "LeastSolutionsLaw" = some m.cls := findClass_of_methodNamed B.named
  have hS : va_S (fun _ => False) s.heap s.heap [] := va_S.rf
  have hl := lv_entry ([.ref h0, .int bound, .ref oo]) (n := 4) (Nat.le_of_ble_eq_true rfl)
  rw [lg_entry_eq]
  generalize (lg_sl ([.ref h0, .int bound, .ref oo]) ++ List.replicate (4 - (lg_sl ([.ref h0, .int bound, .ref oo])).length) Slot.unset).toArray = ls at hl ⊢
  have hl : lv_has ls 4 [(0, .ref h0), (1, .int bound), (2, .ref oo)] := hl
  refine lv_aload_n hx hb d_LW_best_0 rfl (lv_at hl 2 rfl) ?_
  refine lv_iconst (v := 0) hx hb d_LW_best_1 (by decide) ?_
  refine lv_aload_n hx hb d_LW_best_2 rfl (lv_at hl 0 rfl) ?_
  refine lv_iload_n hx hb d_LW_best_3 rfl (lv_at hl 1 rfl) ?_
  refine xt_catch (cls := "java/lang/IllegalArgumentException") (own := "LeastSolutionsLaw") (hpc := 12) (xt_runV (As := [.int bound]) (rest := [.int 0, .ref oo]) ⟨hx, hb, hml, hown, hts⟩ (c_LS_best_IA l htr dC dI (h0) (aT) (aW) (aB) (aL) (aS) (aV) (aC) (a7) (a8) (a9) (a10) (aE) (bound) (g0)) (wd_V (C := "LeastSolutions") 1 hts k_859 k_1 k_856 k_857 k_858 rfl rfl (by decide +kernel) ⟨Nat.le_of_ble_eq_true rfl, Nat.le_of_ble_eq_true rfl⟩) ⟨fun a U g mk q => by obtain ⟨q0, qP, qK, qN, qX⟩ := q; exact ⟨q0, qP, va_K.moved (u := U) (U := U.calling g mk a) (Vm.Alike.refl U.vm) qK, nw_ok.same (s := U) (U := U.calling g mk a) rfl qN, xs_ok.moved (s := U) (Vm.Alike.refl U.vm) (fun _ _ => rfl) qX⟩, va_recv (ci := 0) (q0 := 0) hK hP rfl rfl, fun U hU hW => ⟨rfl, by rw [hU]; exact hP.sub (ws' := [(h0, .inr (0, [.ref aT, .ref aW, .ref aB, .ref aL, .ref aS, .ref aV, .ref aC, .ref a7, .ref a8, .ref a9, .ref a10, .ref aE, .int 0, .int 0, .int 0, .int (-1)]))]) [0] rfl, va_K.moved hW.alike (hK.sub (tys' := []) [] rfl), nw_ok.warm hW hN, xs_ok.moved hW.alike (fun q _ => by rw [hU]) hX⟩⟩ rfl rfl hl.1 rfl (lv_room (Nat.le_of_ble_eq_true rfl)) d_LW_best_4 ⟨Nat.le_of_ble_eq_true rfl, Nat.le_of_ble_eq_true rfl⟩) htab hown (xp_hit (by decide) (by decide) (by decide) (hts _ k_730) (xs_w hX xd_2)) hS (fun x1 H1 locs hz1 hk1 hS => ?_)
  refine lv_astore_n hx hb d_LW_best_12 rfl hl (by decide) rfl (fun ls hl => ?_)
  have hl : lv_has ls 4 [(3, .ref x1), (0, .ref h0), (1, .int bound), (2, .ref oo)] := hl
  refine lv_iconst (v := 1) hx hb d_LW_best_13 (by decide) ?_
  exact W.iret (v := 1) hx hb hr (fun t ht hW => ⟨⟨1, (), rfl, rfl, trivial⟩, hS.F ht⟩) hS.2.2 d_LW_best_14

set_option maxHeartbeats 4000000 in
set_option maxRecDepth 100000 in
theorem c_LW_best_2 (l : Launch) (htr : l.stackTraces = false) (dC : Nat → ClassId) (dI : Nat → Nat → Nat) (h0 : Nat) (aT : Nat) (aW : Nat) (aB : Nat) (aL : Nat) (aS : Nat) (aV : Nat) (aC : Nat) (a7 : Nat) (a8 : Nat) (a9 : Nat) (a10 : Nat) (aE : Nat) (bound : Int32) (oo : Nat) (g1 : ¬ bound < 0) (g2 : ¬ 16 < bound) : Met l y_LW_best (Cond.codeWith y_LW_best b_LW_best 4 (Option.some Jvm.ClassFile.FieldType.int)  [((0 : Nat), (9 : Nat), (12 : Nat), (31 : Nat)), ((0 : Nat), (9 : Nat), (15 : Nat), (19 : Nat)), ((0 : Nat), (9 : Nat), (18 : Nat), (51 : Nat))] :: wd) { frames := 8, cells := 1, slots := 6, locals := 141 } (va_Pc [.ref h0, .int bound, .ref oo] (fun U => va_P (dC, dI) cls [(h0, .inr (0, [.ref aT, .ref aW, .ref aB, .ref aL, .ref aS, .ref aV, .ref aC, .ref a7, .ref a8, .ref a9, .ref a10, .ref aE, .int 0, .int 0, .int 0, .int (-1)]))] U.heap ∧ va_K (dC, dI) cls [] U ∧ nw_ok U ∧ xs_ok U ∧ xc_ok U)) (va_Qi (fun r (_ : Unit) => r = 2) (fun _ _ => True) (fun _ => False)) 1 6 (fun _ => False) := by
  refine xh_ofW (cc := b_LW_best) (maxL := 4) (ret := (Option.some Jvm.ClassFile.FieldType.int)) (hs :=  [((0 : Nat), (9 : Nat), (12 : Nat), (31 : Nat)), ((0 : Nat), (9 : Nat), (15 : Nat), (19 : Nat)), ((0 : Nat), (9 : Nat), (18 : Nat), (51 : Nat))]) (by decide) rfl ?_
  intro p e s m args below meth c s₁ B hml htab hv
  obtain ⟨rfl, hP, hK, hN, hX, hXc⟩ := hv
  have hx := B.exec
  have hb := B.bytes
  have hr := B.returns
  have hlocks := B.notSynchronized
  have hts : ∀ w ∈ wd, w.before ([.ref h0, .int bound, .ref oo] : List Value).toArray s = true := fun w hw => atoms_spec (ws := (Cond.codeWith y_LW_best b_LW_best 4 (Option.some Jvm.ClassFile.FieldType.int)  [((0 : Nat), (9 : Nat), (12 : Nat), (31 : Nat)), ((0 : Nat), (9 : Nat), (15 : Nat), (19 : Nat)), ((0 : Nat), (9 : Nat), (18 : Nat), (51 : Nat))] :: wd)) B.pre w (List.mem_cons_of_mem _ hw)
  have hown : s.vm.findClass "LeastSolutionsLaw" = some m.cls := findClass_of_methodNamed B.named
  have hS : va_S (fun _ => False) s.heap s.heap [] := va_S.rf
  have hl := lv_entry ([.ref h0, .int bound, .ref oo]) (n := 4) (Nat.le_of_ble_eq_true rfl)
  rw [lg_entry_eq]
  generalize (lg_sl ([.ref h0, .int bound, .ref oo]) ++ List.replicate (4 - (lg_sl ([.ref h0, .int bound, .ref oo])).length) Slot.unset).toArray = ls at hl ⊢
  have hl : lv_has ls 4 [(0, .ref h0), (1, .int bound), (2, .ref oo)] := hl
  refine lv_aload_n hx hb d_LW_best_0 rfl (lv_at hl 2 rfl) ?_
  refine lv_iconst (v := 0) hx hb d_LW_best_1 (by decide) ?_
  refine lv_aload_n hx hb d_LW_best_2 rfl (lv_at hl 0 rfl) ?_
  refine lv_iload_n hx hb d_LW_best_3 rfl (lv_at hl 1 rfl) ?_
  refine xt_catch (cls := "java/lang/IllegalStateException") (own := "LeastSolutionsLaw") (hpc := 15) (xt_runV (As := [.int bound]) (rest := [.int 0, .ref oo]) ⟨hx, hb, hml, hown, hts⟩ (c_LS_best_IS l htr dC dI (h0) (aT) (aW) (aB) (aL) (aS) (aV) (aC) (a7) (a8) (a9) (a10) (aE) (bound) (g1) (g2)) (wd_V (C := "LeastSolutions") 1 hts k_859 k_1 k_856 k_857 k_858 rfl rfl (by decide +kernel) ⟨Nat.le_of_ble_eq_true rfl, Nat.le_of_ble_eq_true rfl⟩) ⟨fun a U g mk q => by obtain ⟨q0, qP, qK, qN, qX⟩ := q; exact ⟨q0, qP, va_K.moved (u := U) (U := U.calling g mk a) (Vm.Alike.refl U.vm) qK, nw_ok.same (s := U) (U := U.calling g mk a) rfl qN, xs_ok.moved (s := U) (Vm.Alike.refl U.vm) (fun _ _ => rfl) qX⟩, va_recv (ci := 0) (q0 := 0) hK hP rfl rfl, fun U hU hW => ⟨rfl, by rw [hU]; exact hP.sub (ws' := [(h0, .inr (0, [.ref aT, .ref aW, .ref aB, .ref aL, .ref aS, .ref aV, .ref aC, .ref a7, .ref a8, .ref a9, .ref a10, .ref aE, .int 0, .int 0, .int 0, .int (-1)]))]) [0] rfl, va_K.moved hW.alike (hK.sub (tys' := []) [] rfl), nw_ok.warm hW hN, xs_ok.moved hW.alike (fun q _ => by rw [hU]) hX⟩⟩ rfl rfl hl.1 rfl (lv_room (Nat.le_of_ble_eq_true rfl)) d_LW_best_4 ⟨Nat.le_of_ble_eq_true rfl, Nat.le_of_ble_eq_true rfl⟩) htab hown (xp_pass (by decide) (by decide) (by decide) (hts _ k_730) hXc (xp_hit (by decide) (by decide) (by decide) (hts _ k_673) (xs_w hX xd_1))) hS (fun x1 H1 locs hz1 hk1 hS => ?_)
  refine lv_astore_n hx hb d_LW_best_15 rfl hl (by decide) rfl (fun ls hl => ?_)
  have hl : lv_has ls 4 [(3, .ref x1), (0, .ref h0), (1, .int bound), (2, .ref oo)] := hl
  refine lv_iconst (v := 2) hx hb d_LW_best_16 (by decide) ?_
  exact W.iret (v := 2) hx hb hr (fun t ht hW => ⟨⟨2, (), rfl, rfl, trivial⟩, hS.F ht⟩) hS.2.2 d_LW_best_17
