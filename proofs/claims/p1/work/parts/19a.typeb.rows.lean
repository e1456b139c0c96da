theorem okc1 {x : Int64} {i : Int32} {d : Nat} (hs : ((8 * i).toInt64.toUInt64 &&& Int64.toUInt64 63).toBitVec.toNat % 64 = d) (h : ok x d) : ¬ bc x i < 32 := by
  rw [bc_eq x i d hs]
  have := yb_lt x d
  have := h.1
  exact nI_nlt (b := 32) (by omega) (by omega)
theorem okc2 {x : Int64} {i : Int32} {d : Nat} (hs : ((8 * i).toInt64.toUInt64 &&& Int64.toUInt64 63).toBitVec.toNat % 64 = d) (h : ok x d) : bc x i ≤ 126 := by
  rw [bc_eq x i d hs]
  have := yb_lt x d
  have := h.2
  exact nI_le (b := 126) (by omega) (by omega)
theorem okc {x : Int64} {i : Int32} {d : Nat} (hs : ((8 * i).toInt64.toUInt64 &&& Int64.toUInt64 63).toBitVec.toNat % 64 = d) (h1 : ¬ bc x i < 32) (h2 : bc x i ≤ 126) : ok x d := by
  rw [bc_eq x i d hs] at h1 h2
  have := yb_lt x d
  refine ⟨Nat.not_lt.mp fun h => h1 (nI_lt (b := 32) h (by omega)), Nat.not_lt.mp fun h => nI_ge (a := 126) h (by omega) h2⟩
theorem okm1 {x : Int64} {i : Int32} {d : Nat} (hs : ((8 * i).toInt64 &&& 63).toBitVec.smod 64 = BitVec.ofNat 64 d) (hd : d = 0 ∨ d = 8 ∨ d = 16 ∨ d = 24 ∨ d = 32 ∨ d = 40 ∨ d = 48 ∨ d = 56) (h : ok x d) : ¬ lg_cmp (bm x i) 32 < 0 := by
  rw [lg_lt0, bm_eq x i d hs hd]
  have := yb_lt x d
  have h1 := h.1
  intro h2
  have := (lN_lt (a := yb x d) (b := 32) (by omega) (by omega)).mp h2
  omega
theorem okm2 {x : Int64} {i : Int32} {d : Nat} (hs : ((8 * i).toInt64 &&& 63).toBitVec.smod 64 = BitVec.ofNat 64 d) (hd : d = 0 ∨ d = 8 ∨ d = 16 ∨ d = 24 ∨ d = 32 ∨ d = 40 ∨ d = 48 ∨ d = 56) (h : ok x d) : ¬ 0 < lg_cmp (bm x i) 126 := by
  rw [lg_gt0, bm_eq x i d hs hd]
  have := yb_lt x d
  have h1 := h.2
  intro h2
  have := (lN_lt (a := 126) (b := yb x d) (by omega) (by omega)).mp h2
  omega
theorem okm {x : Int64} {i : Int32} {d : Nat} (hs : ((8 * i).toInt64 &&& 63).toBitVec.smod 64 = BitVec.ofNat 64 d) (hd : d = 0 ∨ d = 8 ∨ d = 16 ∨ d = 24 ∨ d = 32 ∨ d = 40 ∨ d = 48 ∨ d = 56) (h1 : ¬ lg_cmp (bm x i) 32 < 0) (h2 : ¬ 0 < lg_cmp (bm x i) 126) : ok x d := by
  rw [lg_lt0, bm_eq x i d hs hd] at h1
  rw [lg_gt0, bm_eq x i d hs hd] at h2
  have := yb_lt x d
  refine ⟨Nat.not_lt.mp fun h => h1 ((lN_lt (a := yb x d) (b := 32) (by omega) (by omega)).mpr h), Nat.not_lt.mp fun h => h2 ((lN_lt (a := 126) (b := yb x d) (by omega) (by omega)).mpr h)⟩
set_option maxHeartbeats 4000000 in
set_option maxRecDepth 100000 in
theorem c_TX_byteOf (l : Launch) (dC : Nat → ClassId) (dI : Nat → Nat → Nat) (x : Int64) (i : Int32) : Met l y_TX_byteOf (Cond.code y_TX_byteOf b_TX_byteOf 3 (Option.some Jvm.ClassFile.FieldType.int) :: wd) { frames := 0, cells := 0, slots := 0, locals := 0 } (va_Pc [.long x, .int i] (fun U => va_P (dC, dI) cls [] U.heap ∧ va_K (dC, dI) cls [] U ∧ nw_ok U)) (va_Qi (fun r (_ : Unit) => r = (bc x i)) (fun _ _ => True) (fun _ => False)) 0 0 (fun _ => False) := by
  refine Met.ofW (cc := b_TX_byteOf) (maxL := 3) (ret := (Option.some Jvm.ClassFile.FieldType.int)) (by decide) rfl ?_
  intro p e s m args below meth c s₁ B hml hv
  obtain ⟨rfl, hP, hK, hN⟩ := hv
  have hx := B.exec
  have hb := B.bytes
  have hr := B.returns
  have hlocks := B.notSynchronized
  have hts : ∀ w ∈ wd, w.before ([.long x, .int i] : List Value).toArray s = true := fun w hw => atoms_spec (ws := (Cond.code y_TX_byteOf b_TX_byteOf 3 (Option.some Jvm.ClassFile.FieldType.int) :: wd)) B.pre w (List.mem_cons_of_mem _ hw)
  have hown : s.vm.findClass "LeastSolutions$Text" = some m.cls := findClass_of_methodNamed B.named
  have hS : va_S (fun _ => False) s.heap s.heap [] := va_S.rf
  have hl := lv_entry ([.long x, .int i]) (n := 3) (Nat.le_of_ble_eq_true rfl)
  rw [lg_entry_eq]
  generalize (lg_sl ([.long x, .int i]) ++ List.replicate (3 - (lg_sl ([.long x, .int i])).length) Slot.unset).toArray = ls at hl ⊢
  have hl : lv_has ls 3 [(0, .long x), (2, .int i)] := hl
  refine lv_lload_n hx hb d_TX_byteOf_0 rfl (lv_at hl 0 rfl) ?_
  refine lv_bipush (v := 8) hx hb d_TX_byteOf_1 (by decide) ?_
  refine lv_iload_n hx hb d_TX_byteOf_3 rfl (lv_at hl 1 rfl) ?_
  refine lv_imul hx hb d_TX_byteOf_4 ?_
  refine lv_lushr (v := (x.toUInt64 >>> (((8 * i) : Int32).toInt64.toUInt64 &&& Int64.toUInt64 63)).toInt64) hx hb d_TX_byteOf_5 rfl ?_
  refine lv_l2i (v := (x.toUInt64 >>> (((8 * i) : Int32).toInt64.toUInt64 &&& Int64.toUInt64 63)).toInt64.toInt32) hx hb d_TX_byteOf_6 rfl ?_
  refine lv_sipush (v := 255) hx hb d_TX_byteOf_7 (by decide) ?_
  refine lv_iand hx hb d_TX_byteOf_10 ?_
  exact W.iret (v := ((x.toUInt64 >>> (((8 * i) : Int32).toInt64.toUInt64 &&& Int64.toUInt64 63)).toInt64.toInt32 &&& 255)) hx hb hr (fun t ht hW => ⟨⟨((x.toUInt64 >>> (((8 * i) : Int32).toInt64.toUInt64 &&& Int64.toUInt64 63)).toInt64.toInt32 &&& 255), (), rfl, rfl, trivial⟩, hS.F ht⟩) hS.2.2 d_TX_byteOf_11

set_option maxHeartbeats 4000000 in
set_option maxRecDepth 100000 in
theorem c_TX_areTypable_1y (l : Launch) (dC : Nat → ClassId) (dI : Nat → Nat → Nat) (x : Int64) (g : ok x 0) : Met l y_TX_areTypable (Cond.code y_TX_areTypable b_TX_areTypable 5 (Option.some Jvm.ClassFile.FieldType.boolean) :: wd) { frames := 1, cells := 0, slots := 0, locals := 22 } (va_Pc [.long x, .int 1] (fun U => va_P (dC, dI) cls [] U.heap ∧ va_K (dC, dI) cls [] U ∧ nw_ok U)) (va_Qi (fun r (_ : Unit) => r = 1) (fun _ _ => True) (fun _ => False)) 0 0 (fun _ => False) := by
  refine Met.ofW (cc := b_TX_areTypable) (maxL := 5) (ret := (Option.some Jvm.ClassFile.FieldType.boolean)) (by decide) rfl ?_
  intro p e s m args below meth c s₁ B hml hv
  obtain ⟨rfl, hP, hK, hN⟩ := hv
  have hx := B.exec
  have hb := B.bytes
  have hr := B.returns
  have hlocks := B.notSynchronized
  have hts : ∀ w ∈ wd, w.before ([.long x, .int 1] : List Value).toArray s = true := fun w hw => atoms_spec (ws := (Cond.code y_TX_areTypable b_TX_areTypable 5 (Option.some Jvm.ClassFile.FieldType.boolean) :: wd)) B.pre w (List.mem_cons_of_mem _ hw)
  have hown : s.vm.findClass "LeastSolutions$Text" = some m.cls := findClass_of_methodNamed B.named
  have hS : va_S (fun _ => False) s.heap s.heap [] := va_S.rf
  have hl := lv_entry ([.long x, .int 1]) (n := 5) (Nat.le_of_ble_eq_true rfl)
  rw [lg_entry_eq]
  generalize (lg_sl ([.long x, .int 1]) ++ List.replicate (5 - (lg_sl ([.long x, .int 1])).length) Slot.unset).toArray = ls at hl ⊢
  have hl : lv_has ls 5 [(0, .long x), (2, .int 1)] := hl
  refine lv_iconst (v := 0) hx hb d_TX_areTypable_0 (by decide) ?_
  refine lv_istore_n hx hb d_TX_areTypable_1 rfl hl (by decide) rfl (fun ls hl => ?_)
  have hl : lv_has ls 5 [(3, .int 0), (0, .long x), (2, .int 1)] := hl
  refine lv_iload_n hx hb d_TX_areTypable_2 rfl (lv_at hl 0 rfl) ?_
  refine lv_iload_n hx hb d_TX_areTypable_3 rfl (lv_at hl 2 rfl) ?_
  refine lv_icmp_ge (tgt := 36) hx hb d_TX_areTypable_4 (by decide) (fun h9 => absurd h9 (by decide)) (fun _ => ?_)
  refine lv_lload_n hx hb d_TX_areTypable_7 rfl (lv_at hl 1 rfl) ?_
  refine lv_iload_n hx hb d_TX_areTypable_8 rfl (lv_at hl 0 rfl) ?_
  refine pu_calli (va_runS (As := [.long x, .int 0]) (rest := []) ⟨hx, hb, hml, hown, hts⟩ (c_TX_byteOf l dC dI (x) (0)) (wd_S 2 hts k_351 k_2 k_349 k_350 rfl rfl (by decide +kernel) ⟨Nat.le_of_ble_eq_true rfl, Nat.le_of_ble_eq_true rfl⟩) ⟨fun a U g mk q => by obtain ⟨q0, qP, qK, qN⟩ := q; exact ⟨q0, qP, va_K.moved (u := U) (U := U.calling g mk a) (Vm.Alike.refl U.vm) qK, nw_ok.same (s := U) (U := U.calling g mk a) rfl qN⟩, fun U hU hW => ⟨rfl, by rw [hU]; exact hP.sub (ws' := []) [] rfl, va_K.moved hW.alike (hK.sub (tys' := []) [] rfl), nw_ok.warm hW hN⟩⟩ rfl rfl hl.1 rfl (lv_room (Nat.le_of_ble_eq_true rfl)) d_TX_areTypable_9 ⟨Nat.le_of_ble_eq_true rfl, Nat.le_of_ble_eq_true rfl⟩) (fun r1 hr1 => ?_)
  try dsimp only at hr1
  subst hr1
  refine lv_istore hx hb d_TX_areTypable_12 hl (by decide) rfl (fun ls hl => ?_)
  have hl : lv_has ls 5 [(4, .int (bc x 0)), (3, .int 0), (0, .long x), (2, .int 1)] := hl
  refine lv_iload hx hb d_TX_areTypable_14 (lv_at hl 0 rfl) ?_
  refine lv_bipush (v := 32) hx hb d_TX_areTypable_16 (by decide) ?_
  refine lv_icmp_lt (tgt := 28) hx hb d_TX_areTypable_18 (by decide) (fun h9 => absurd h9 (okc1 (d := 0) (by decide) (g))) (fun _ => ?_)
  refine lv_iload hx hb d_TX_areTypable_21 (lv_at hl 0 rfl) ?_
  refine lv_bipush (v := 126) hx hb d_TX_areTypable_23 (by decide) ?_
  refine lv_icmp_le (tgt := 30) hx hb d_TX_areTypable_25 (by decide) (fun _ => ?_) (fun h9 => absurd (okc2 (d := 0) (by decide) (g)) h9)
  refine lv_iinc (k := 1) (v := 1) hx hb d_TX_areTypable_30 hl rfl (by decide) (by decide) rfl (fun ls hl => ?_)
  have hl : lv_has ls 5 [(3, .int 1), (4, .int (bc x 0)), (0, .long x), (2, .int 1)] := hl
  refine lv_goto (tgt := 2) hx hb d_TX_areTypable_33 (by decide) ?_
  refine lv_iload_n hx hb d_TX_areTypable_2 rfl (lv_at hl 0 rfl) ?_
  refine lv_iload_n hx hb d_TX_areTypable_3 rfl (lv_at hl 3 rfl) ?_
  refine lv_icmp_ge (tgt := 36) hx hb d_TX_areTypable_4 (by decide) (fun _ => ?_) (fun h9 => absurd (by decide) h9)
  refine lv_iconst (v := 1) hx hb d_TX_areTypable_36 (by decide) ?_
  exact W.zret (v := 1) (ty := .boolean) hx hb hr (by decide +kernel) (fun t ht hW => ⟨⟨1, (), rfl, rfl, trivial⟩, hS.F ht⟩) hS.2.2 d_TX_areTypable_37

set_option maxHeartbeats 4000000 in
set_option maxRecDepth 100000 in
theorem c_TX_areTypable_1n (l : Launch) (dC : Nat → ClassId) (dI : Nat → Nat → Nat) (x : Int64) (g : ¬ (ok x 0)) : Met l y_TX_areTypable (Cond.code y_TX_areTypable b_TX_areTypable 5 (Option.some Jvm.ClassFile.FieldType.boolean) :: wd) { frames := 1, cells := 0, slots := 0, locals := 22 } (va_Pc [.long x, .int 1] (fun U => va_P (dC, dI) cls [] U.heap ∧ va_K (dC, dI) cls [] U ∧ nw_ok U)) (va_Qi (fun r (_ : Unit) => r = 0) (fun _ _ => True) (fun _ => False)) 0 0 (fun _ => False) := by
  refine Met.ofW (cc := b_TX_areTypable) (maxL := 5) (ret := (Option.some Jvm.ClassFile.FieldType.boolean)) (by decide) rfl ?_
  intro p e s m args below meth c s₁ B hml hv
  obtain ⟨rfl, hP, hK, hN⟩ := hv
  have hx := B.exec
  have hb := B.bytes
  have hr := B.returns
  have hlocks := B.notSynchronized
  have hts : ∀ w ∈ wd, w.before ([.long x, .int 1] : List Value).toArray s = true := fun w hw => atoms_spec (ws := (Cond.code y_TX_areTypable b_TX_areTypable 5 (Option.some Jvm.ClassFile.FieldType.boolean) :: wd)) B.pre w (List.mem_cons_of_mem _ hw)
  have hown : s.vm.findClass "LeastSolutions$Text" = some m.cls := findClass_of_methodNamed B.named
  have hS : va_S (fun _ => False) s.heap s.heap [] := va_S.rf
  have hl := lv_entry ([.long x, .int 1]) (n := 5) (Nat.le_of_ble_eq_true rfl)
  rw [lg_entry_eq]
  generalize (lg_sl ([.long x, .int 1]) ++ List.replicate (5 - (lg_sl ([.long x, .int 1])).length) Slot.unset).toArray = ls at hl ⊢
  have hl : lv_has ls 5 [(0, .long x), (2, .int 1)] := hl
  refine lv_iconst (v := 0) hx hb d_TX_areTypable_0 (by decide) ?_
  refine lv_istore_n hx hb d_TX_areTypable_1 rfl hl (by decide) rfl (fun ls hl => ?_)
  have hl : lv_has ls 5 [(3, .int 0), (0, .long x), (2, .int 1)] := hl
  refine lv_iload_n hx hb d_TX_areTypable_2 rfl (lv_at hl 0 rfl) ?_
  refine lv_iload_n hx hb d_TX_areTypable_3 rfl (lv_at hl 2 rfl) ?_
  refine lv_icmp_ge (tgt := 36) hx hb d_TX_areTypable_4 (by decide) (fun h9 => absurd h9 (by decide)) (fun _ => ?_)
  refine lv_lload_n hx hb d_TX_areTypable_7 rfl (lv_at hl 1 rfl) ?_
  refine lv_iload_n hx hb d_TX_areTypable_8 rfl (lv_at hl 0 rfl) ?_
  refine pu_calli (va_runS (As := [.long x, .int 0]) (rest := []) ⟨hx, hb, hml, hown, hts⟩ (c_TX_byteOf l dC dI (x) (0)) (wd_S 2 hts k_351 k_2 k_349 k_350 rfl rfl (by decide +kernel) ⟨Nat.le_of_ble_eq_true rfl, Nat.le_of_ble_eq_true rfl⟩) ⟨fun a U g mk q => by obtain ⟨q0, qP, qK, qN⟩ := q; exact ⟨q0, qP, va_K.moved (u := U) (U := U.calling g mk a) (Vm.Alike.refl U.vm) qK, nw_ok.same (s := U) (U := U.calling g mk a) rfl qN⟩, fun U hU hW => ⟨rfl, by rw [hU]; exact hP.sub (ws' := []) [] rfl, va_K.moved hW.alike (hK.sub (tys' := []) [] rfl), nw_ok.warm hW hN⟩⟩ rfl rfl hl.1 rfl (lv_room (Nat.le_of_ble_eq_true rfl)) d_TX_areTypable_9 ⟨Nat.le_of_ble_eq_true rfl, Nat.le_of_ble_eq_true rfl⟩) (fun r1 hr1 => ?_)
  try dsimp only at hr1
  subst hr1
  refine lv_istore hx hb d_TX_areTypable_12 hl (by decide) rfl (fun ls hl => ?_)
  have hl : lv_has ls 5 [(4, .int (bc x 0)), (3, .int 0), (0, .long x), (2, .int 1)] := hl
  refine lv_iload hx hb d_TX_areTypable_14 (lv_at hl 0 rfl) ?_
  refine lv_bipush (v := 32) hx hb d_TX_areTypable_16 (by decide) ?_
  refine lv_icmp_lt (tgt := 28) hx hb d_TX_areTypable_18 (by decide) (fun hc1 => ?_) (fun hc1 => ?_)
  · refine lv_iconst (v := 0) hx hb d_TX_areTypable_28 (by decide) ?_
    exact W.zret (v := 0) (ty := .boolean) hx hb hr (by decide +kernel) (fun t ht hW => ⟨⟨0, (), rfl, rfl, trivial⟩, hS.F ht⟩) hS.2.2 d_TX_areTypable_29
  · refine lv_iload hx hb d_TX_areTypable_21 (lv_at hl 0 rfl) ?_
    refine lv_bipush (v := 126) hx hb d_TX_areTypable_23 (by decide) ?_
    refine lv_icmp_le (tgt := 30) hx hb d_TX_areTypable_25 (by decide) (fun hc2 => ?_) (fun hc2 => ?_)
    · refine lv_iinc (k := 1) (v := 1) hx hb d_TX_areTypable_30 hl rfl (by decide) (by decide) rfl (fun ls hl => ?_)
      have hl : lv_has ls 5 [(3, .int 1), (4, .int (bc x 0)), (0, .long x), (2, .int 1)] := hl
      refine lv_goto (tgt := 2) hx hb d_TX_areTypable_33 (by decide) ?_
      refine lv_iload_n hx hb d_TX_areTypable_2 rfl (lv_at hl 0 rfl) ?_
      refine lv_iload_n hx hb d_TX_areTypable_3 rfl (lv_at hl 3 rfl) ?_
      refine lv_icmp_ge (tgt := 36) hx hb d_TX_areTypable_4 (by decide) (fun _ => ?_) (fun h9 => absurd (by decide) h9)
      exact absurd (okc (d := 0) (by decide) hc1 hc2) g
    · refine lv_iconst (v := 0) hx hb d_TX_areTypable_28 (by decide) ?_
      exact W.zret (v := 0) (ty := .boolean) hx hb hr (by decide +kernel) (fun t ht hW => ⟨⟨0, (), rfl, rfl, trivial⟩, hS.F ht⟩) hS.2.2 d_TX_areTypable_29

set_option maxHeartbeats 4000000 in
set_option maxRecDepth 100000 in
theorem c_TX_areTypable_2y (l : Launch) (dC : Nat → ClassId) (dI : Nat → Nat → Nat) (x : Int64) (g : ok x 0 ∧ ok x 8) : Met l y_TX_areTypable (Cond.code y_TX_areTypable b_TX_areTypable 5 (Option.some Jvm.ClassFile.FieldType.boolean) :: wd) { frames := 1, cells := 0, slots := 0, locals := 22 } (va_Pc [.long x, .int 2] (fun U => va_P (dC, dI) cls [] U.heap ∧ va_K (dC, dI) cls [] U ∧ nw_ok U)) (va_Qi (fun r (_ : Unit) => r = 1) (fun _ _ => True) (fun _ => False)) 0 0 (fun _ => False) := by
  refine Met.ofW (cc := b_TX_areTypable) (maxL := 5) (ret := (Option.some Jvm.ClassFile.FieldType.boolean)) (by decide) rfl ?_
  intro p e s m args below meth c s₁ B hml hv
  obtain ⟨rfl, hP, hK, hN⟩ := hv
  have hx := B.exec
  have hb := B.bytes
  have hr := B.returns
  have hlocks := B.notSynchronized
  have hts : ∀ w ∈ wd, w.before ([.long x, .int 2] : List Value).toArray s = true := fun w hw => atoms_spec (ws := (Cond.code y_TX_areTypable b_TX_areTypable 5 (Option.some Jvm.ClassFile.FieldType.boolean) :: wd)) B.pre w (List.mem_cons_of_mem _ hw)
  have hown : s.vm.findClass "LeastSolutions$Text" = some m.cls := findClass_of_methodNamed B.named
  have hS : va_S (fun _ => False) s.heap s.heap [] := va_S.rf
  have hl := lv_entry ([.long x, .int 2]) (n := 5) (Nat.le_of_ble_eq_true rfl)
  rw [lg_entry_eq]
  generalize (lg_sl ([.long x, .int 2]) ++ List.replicate (5 - (lg_sl ([.long x, .int 2])).length) Slot.unset).toArray = ls at hl ⊢
  have hl : lv_has ls 5 [(0, .long x), (2, .int 2)] := hl
  refine lv_iconst (v := 0) hx hb d_TX_areTypable_0 (by decide) ?_
  refine lv_istore_n hx hb d_TX_areTypable_1 rfl hl (by decide) rfl (fun ls hl => ?_)
  have hl : lv_has ls 5 [(3, .int 0), (0, .long x), (2, .int 2)] := hl
  refine lv_iload_n hx hb d_TX_areTypable_2 rfl (lv_at hl 0 rfl) ?_
  refine lv_iload_n hx hb d_TX_areTypable_3 rfl (lv_at hl 2 rfl) ?_
  refine lv_icmp_ge (tgt := 36) hx hb d_TX_areTypable_4 (by decide) (fun h9 => absurd h9 (by decide)) (fun _ => ?_)
  refine lv_lload_n hx hb d_TX_areTypable_7 rfl (lv_at hl 1 rfl) ?_
  refine lv_iload_n hx hb d_TX_areTypable_8 rfl (lv_at hl 0 rfl) ?_
  refine pu_calli (va_runS (As := [.long x, .int 0]) (rest := []) ⟨hx, hb, hml, hown, hts⟩ (c_TX_byteOf l dC dI (x) (0)) (wd_S 2 hts k_351 k_2 k_349 k_350 rfl rfl (by decide +kernel) ⟨Nat.le_of_ble_eq_true rfl, Nat.le_of_ble_eq_true rfl⟩) ⟨fun a U g mk q => by obtain ⟨q0, qP, qK, qN⟩ := q; exact ⟨q0, qP, va_K.moved (u := U) (U := U.calling g mk a) (Vm.Alike.refl U.vm) qK, nw_ok.same (s := U) (U := U.calling g mk a) rfl qN⟩, fun U hU hW => ⟨rfl, by rw [hU]; exact hP.sub (ws' := []) [] rfl, va_K.moved hW.alike (hK.sub (tys' := []) [] rfl), nw_ok.warm hW hN⟩⟩ rfl rfl hl.1 rfl (lv_room (Nat.le_of_ble_eq_true rfl)) d_TX_areTypable_9 ⟨Nat.le_of_ble_eq_true rfl, Nat.le_of_ble_eq_true rfl⟩) (fun r1 hr1 => ?_)
  try dsimp only at hr1
  subst hr1
  refine lv_istore hx hb d_TX_areTypable_12 hl (by decide) rfl (fun ls hl => ?_)
  have hl : lv_has ls 5 [(4, .int (bc x 0)), (3, .int 0), (0, .long x), (2, .int 2)] := hl
  refine lv_iload hx hb d_TX_areTypable_14 (lv_at hl 0 rfl) ?_
  refine lv_bipush (v := 32) hx hb d_TX_areTypable_16 (by decide) ?_
  refine lv_icmp_lt (tgt := 28) hx hb d_TX_areTypable_18 (by decide) (fun h9 => absurd h9 (okc1 (d := 0) (by decide) (g.1))) (fun _ => ?_)
  refine lv_iload hx hb d_TX_areTypable_21 (lv_at hl 0 rfl) ?_
  refine lv_bipush (v := 126) hx hb d_TX_areTypable_23 (by decide) ?_
  refine lv_icmp_le (tgt := 30) hx hb d_TX_areTypable_25 (by decide) (fun _ => ?_) (fun h9 => absurd (okc2 (d := 0) (by decide) (g.1)) h9)
  refine lv_iinc (k := 1) (v := 1) hx hb d_TX_areTypable_30 hl rfl (by decide) (by decide) rfl (fun ls hl => ?_)
  have hl : lv_has ls 5 [(3, .int 1), (4, .int (bc x 0)), (0, .long x), (2, .int 2)] := hl
  refine lv_goto (tgt := 2) hx hb d_TX_areTypable_33 (by decide) ?_
  refine lv_iload_n hx hb d_TX_areTypable_2 rfl (lv_at hl 0 rfl) ?_
  refine lv_iload_n hx hb d_TX_areTypable_3 rfl (lv_at hl 3 rfl) ?_
  refine lv_icmp_ge (tgt := 36) hx hb d_TX_areTypable_4 (by decide) (fun h9 => absurd h9 (by decide)) (fun _ => ?_)
  refine lv_lload_n hx hb d_TX_areTypable_7 rfl (lv_at hl 2 rfl) ?_
  refine lv_iload_n hx hb d_TX_areTypable_8 rfl (lv_at hl 0 rfl) ?_
  refine pu_calli (va_runS (As := [.long x, .int 1]) (rest := []) ⟨hx, hb, hml, hown, hts⟩ (c_TX_byteOf l dC dI (x) (1)) (wd_S 2 hts k_351 k_2 k_349 k_350 rfl rfl (by decide +kernel) ⟨Nat.le_of_ble_eq_true rfl, Nat.le_of_ble_eq_true rfl⟩) ⟨fun a U g mk q => by obtain ⟨q0, qP, qK, qN⟩ := q; exact ⟨q0, qP, va_K.moved (u := U) (U := U.calling g mk a) (Vm.Alike.refl U.vm) qK, nw_ok.same (s := U) (U := U.calling g mk a) rfl qN⟩, fun U hU hW => ⟨rfl, by rw [hU]; exact hP.sub (ws' := []) [] rfl, va_K.moved hW.alike (hK.sub (tys' := []) [] rfl), nw_ok.warm hW hN⟩⟩ rfl rfl hl.1 rfl (lv_room (Nat.le_of_ble_eq_true rfl)) d_TX_areTypable_9 ⟨Nat.le_of_ble_eq_true rfl, Nat.le_of_ble_eq_true rfl⟩) (fun r2 hr2 => ?_)
  try dsimp only at hr2
  subst hr2
  refine lv_istore hx hb d_TX_areTypable_12 hl (by decide) rfl (fun ls hl => ?_)
  have hl : lv_has ls 5 [(4, .int (bc x 1)), (3, .int 1), (0, .long x), (2, .int 2)] := hl
  refine lv_iload hx hb d_TX_areTypable_14 (lv_at hl 0 rfl) ?_
  refine lv_bipush (v := 32) hx hb d_TX_areTypable_16 (by decide) ?_
  refine lv_icmp_lt (tgt := 28) hx hb d_TX_areTypable_18 (by decide) (fun h9 => absurd h9 (okc1 (d := 8) (by decide) (g.2))) (fun _ => ?_)
  refine lv_iload hx hb d_TX_areTypable_21 (lv_at hl 0 rfl) ?_
  refine lv_bipush (v := 126) hx hb d_TX_areTypable_23 (by decide) ?_
  refine lv_icmp_le (tgt := 30) hx hb d_TX_areTypable_25 (by decide) (fun _ => ?_) (fun h9 => absurd (okc2 (d := 8) (by decide) (g.2)) h9)
  refine lv_iinc (k := 1) (v := 2) hx hb d_TX_areTypable_30 hl rfl (by decide) (by decide) rfl (fun ls hl => ?_)
  have hl : lv_has ls 5 [(3, .int 2), (4, .int (bc x 1)), (0, .long x), (2, .int 2)] := hl
  refine lv_goto (tgt := 2) hx hb d_TX_areTypable_33 (by decide) ?_
  refine lv_iload_n hx hb d_TX_areTypable_2 rfl (lv_at hl 0 rfl) ?_
  refine lv_iload_n hx hb d_TX_areTypable_3 rfl (lv_at hl 3 rfl) ?_
  refine lv_icmp_ge (tgt := 36) hx hb d_TX_areTypable_4 (by decide) (fun _ => ?_) (fun h9 => absurd (by decide) h9)
  refine lv_iconst (v := 1) hx hb d_TX_areTypable_36 (by decide) ?_
  exact W.zret (v := 1) (ty := .boolean) hx hb hr (by decide +kernel) (fun t ht hW => ⟨⟨1, (), rfl, rfl, trivial⟩, hS.F ht⟩) hS.2.2 d_TX_areTypable_37

set_option maxHeartbeats 4000000 in
set_option maxRecDepth 100000 in
theorem c_TX_areTypable_2n (l : Launch) (dC : Nat → ClassId) (dI : Nat → Nat → Nat) (x : Int64) (g : ¬ (ok x 0 ∧ ok x 8)) : Met l y_TX_areTypable (Cond.code y_TX_areTypable b_TX_areTypable 5 (Option.some Jvm.ClassFile.FieldType.boolean) :: wd) { frames := 1, cells := 0, slots := 0, locals := 22 } (va_Pc [.long x, .int 2] (fun U => va_P (dC, dI) cls [] U.heap ∧ va_K (dC, dI) cls [] U ∧ nw_ok U)) (va_Qi (fun r (_ : Unit) => r = 0) (fun _ _ => True) (fun _ => False)) 0 0 (fun _ => False) := by
  refine Met.ofW (cc := b_TX_areTypable) (maxL := 5) (ret := (Option.some Jvm.ClassFile.FieldType.boolean)) (by decide) rfl ?_
  intro p e s m args below meth c s₁ B hml hv
  obtain ⟨rfl, hP, hK, hN⟩ := hv
  have hx := B.exec
  have hb := B.bytes
  have hr := B.returns
  have hlocks := B.notSynchronized
  have hts : ∀ w ∈ wd, w.before ([.long x, .int 2] : List Value).toArray s = true := fun w hw => atoms_spec (ws := (Cond.code y_TX_areTypable b_TX_areTypable 5 (Option.some Jvm.ClassFile.FieldType.boolean) :: wd)) B.pre w (List.mem_cons_of_mem _ hw)
  have hown : s.vm.findClass "LeastSolutions$Text" = some m.cls := findClass_of_methodNamed B.named
  have hS : va_S (fun _ => False) s.heap s.heap [] := va_S.rf
  have hl := lv_entry ([.long x, .int 2]) (n := 5) (Nat.le_of_ble_eq_true rfl)
  rw [lg_entry_eq]
  generalize (lg_sl ([.long x, .int 2]) ++ List.replicate (5 - (lg_sl ([.long x, .int 2])).length) Slot.unset).toArray = ls at hl ⊢
  have hl : lv_has ls 5 [(0, .long x), (2, .int 2)] := hl
  refine lv_iconst (v := 0) hx hb d_TX_areTypable_0 (by decide) ?_
  refine lv_istore_n hx hb d_TX_areTypable_1 rfl hl (by decide) rfl (fun ls hl => ?_)
  have hl : lv_has ls 5 [(3, .int 0), (0, .long x), (2, .int 2)] := hl
  refine lv_iload_n hx hb d_TX_areTypable_2 rfl (lv_at hl 0 rfl) ?_
  refine lv_iload_n hx hb d_TX_areTypable_3 rfl (lv_at hl 2 rfl) ?_
  refine lv_icmp_ge (tgt := 36) hx hb d_TX_areTypable_4 (by decide) (fun h9 => absurd h9 (by decide)) (fun _ => ?_)
  refine lv_lload_n hx hb d_TX_areTypable_7 rfl (lv_at hl 1 rfl) ?_
  refine lv_iload_n hx hb d_TX_areTypable_8 rfl (lv_at hl 0 rfl) ?_
  refine pu_calli (va_runS (As := [.long x, .int 0]) (rest := []) ⟨hx, hb, hml, hown, hts⟩ (c_TX_byteOf l dC dI (x) (0)) (wd_S 2 hts k_351 k_2 k_349 k_350 rfl rfl (by decide +kernel) ⟨Nat.le_of_ble_eq_true rfl, Nat.le_of_ble_eq_true rfl⟩) ⟨fun a U g mk q => by obtain ⟨q0, qP, qK, qN⟩ := q; exact ⟨q0, qP, va_K.moved (u := U) (U := U.calling g mk a) (Vm.Alike.refl U.vm) qK, nw_ok.same (s := U) (U := U.calling g mk a) rfl qN⟩, fun U hU hW => ⟨rfl, by rw [hU]; exact hP.sub (ws' := []) [] rfl, va_K.moved hW.alike (hK.sub (tys' := []) [] rfl), nw_ok.warm hW hN⟩⟩ rfl rfl hl.1 rfl (lv_room (Nat.le_of_ble_eq_true rfl)) d_TX_areTypable_9 ⟨Nat.le_of_ble_eq_true rfl, Nat.le_of_ble_eq_true rfl⟩) (fun r1 hr1 => ?_)
  try dsimp only at hr1
  subst hr1
  refine lv_istore hx hb d_TX_areTypable_12 hl (by decide) rfl (fun ls hl => ?_)
  have hl : lv_has ls 5 [(4, .int (bc x 0)), (3, .int 0), (0, .long x), (2, .int 2)] := hl
  refine lv_iload hx hb d_TX_areTypable_14 (lv_at hl 0 rfl) ?_
  refine lv_bipush (v := 32) hx hb d_TX_areTypable_16 (by decide) ?_
  refine lv_icmp_lt (tgt := 28) hx hb d_TX_areTypable_18 (by decide) (fun hc1 => ?_) (fun hc1 => ?_)
  · refine lv_iconst (v := 0) hx hb d_TX_areTypable_28 (by decide) ?_
    exact W.zret (v := 0) (ty := .boolean) hx hb hr (by decide +kernel) (fun t ht hW => ⟨⟨0, (), rfl, rfl, trivial⟩, hS.F ht⟩) hS.2.2 d_TX_areTypable_29
  · refine lv_iload hx hb d_TX_areTypable_21 (lv_at hl 0 rfl) ?_
    refine lv_bipush (v := 126) hx hb d_TX_areTypable_23 (by decide) ?_
    refine lv_icmp_le (tgt := 30) hx hb d_TX_areTypable_25 (by decide) (fun hc2 => ?_) (fun hc2 => ?_)
    · refine lv_iinc (k := 1) (v := 1) hx hb d_TX_areTypable_30 hl rfl (by decide) (by decide) rfl (fun ls hl => ?_)
      have hl : lv_has ls 5 [(3, .int 1), (4, .int (bc x 0)), (0, .long x), (2, .int 2)] := hl
      refine lv_goto (tgt := 2) hx hb d_TX_areTypable_33 (by decide) ?_
      refine lv_iload_n hx hb d_TX_areTypable_2 rfl (lv_at hl 0 rfl) ?_
      refine lv_iload_n hx hb d_TX_areTypable_3 rfl (lv_at hl 3 rfl) ?_
      refine lv_icmp_ge (tgt := 36) hx hb d_TX_areTypable_4 (by decide) (fun h9 => absurd h9 (by decide)) (fun _ => ?_)
      refine lv_lload_n hx hb d_TX_areTypable_7 rfl (lv_at hl 2 rfl) ?_
      refine lv_iload_n hx hb d_TX_areTypable_8 rfl (lv_at hl 0 rfl) ?_
      refine pu_calli (va_runS (As := [.long x, .int 1]) (rest := []) ⟨hx, hb, hml, hown, hts⟩ (c_TX_byteOf l dC dI (x) (1)) (wd_S 2 hts k_351 k_2 k_349 k_350 rfl rfl (by decide +kernel) ⟨Nat.le_of_ble_eq_true rfl, Nat.le_of_ble_eq_true rfl⟩) ⟨fun a U g mk q => by obtain ⟨q0, qP, qK, qN⟩ := q; exact ⟨q0, qP, va_K.moved (u := U) (U := U.calling g mk a) (Vm.Alike.refl U.vm) qK, nw_ok.same (s := U) (U := U.calling g mk a) rfl qN⟩, fun U hU hW => ⟨rfl, by rw [hU]; exact hP.sub (ws' := []) [] rfl, va_K.moved hW.alike (hK.sub (tys' := []) [] rfl), nw_ok.warm hW hN⟩⟩ rfl rfl hl.1 rfl (lv_room (Nat.le_of_ble_eq_true rfl)) d_TX_areTypable_9 ⟨Nat.le_of_ble_eq_true rfl, Nat.le_of_ble_eq_true rfl⟩) (fun r2 hr2 => ?_)
      try dsimp only at hr2
      subst hr2
      refine lv_istore hx hb d_TX_areTypable_12 hl (by decide) rfl (fun ls hl => ?_)
      have hl : lv_has ls 5 [(4, .int (bc x 1)), (3, .int 1), (0, .long x), (2, .int 2)] := hl
      refine lv_iload hx hb d_TX_areTypable_14 (lv_at hl 0 rfl) ?_
      refine lv_bipush (v := 32) hx hb d_TX_areTypable_16 (by decide) ?_
      refine lv_icmp_lt (tgt := 28) hx hb d_TX_areTypable_18 (by decide) (fun hc3 => ?_) (fun hc3 => ?_)
      · refine lv_iconst (v := 0) hx hb d_TX_areTypable_28 (by decide) ?_
        exact W.zret (v := 0) (ty := .boolean) hx hb hr (by decide +kernel) (fun t ht hW => ⟨⟨0, (), rfl, rfl, trivial⟩, hS.F ht⟩) hS.2.2 d_TX_areTypable_29
      · refine lv_iload hx hb d_TX_areTypable_21 (lv_at hl 0 rfl) ?_
        refine lv_bipush (v := 126) hx hb d_TX_areTypable_23 (by decide) ?_
        refine lv_icmp_le (tgt := 30) hx hb d_TX_areTypable_25 (by decide) (fun hc4 => ?_) (fun hc4 => ?_)
        · refine lv_iinc (k := 1) (v := 2) hx hb d_TX_areTypable_30 hl rfl (by decide) (by decide) rfl (fun ls hl => ?_)
          have hl : lv_has ls 5 [(3, .int 2), (4, .int (bc x 1)), (0, .long x), (2, .int 2)] := hl
          refine lv_goto (tgt := 2) hx hb d_TX_areTypable_33 (by decide) ?_
          refine lv_iload_n hx hb d_TX_areTypable_2 rfl (lv_at hl 0 rfl) ?_
          refine lv_iload_n hx hb d_TX_areTypable_3 rfl (lv_at hl 3 rfl) ?_
          refine lv_icmp_ge (tgt := 36) hx hb d_TX_areTypable_4 (by decide) (fun _ => ?_) (fun h9 => absurd (by decide) h9)
          exact absurd ⟨okc (d := 0) (by decide) hc1 hc2, okc (d := 8) (by decide) hc3 hc4⟩ g
        · refine lv_iconst (v := 0) hx hb d_TX_areTypable_28 (by decide) ?_
          exact W.zret (v := 0) (ty := .boolean) hx hb hr (by decide +kernel) (fun t ht hW => ⟨⟨0, (), rfl, rfl, trivial⟩, hS.F ht⟩) hS.2.2 d_TX_areTypable_29
    · refine lv_iconst (v := 0) hx hb d_TX_areTypable_28 (by decide) ?_
      exact W.zret (v := 0) (ty := .boolean) hx hb hr (by decide +kernel) (fun t ht hW => ⟨⟨0, (), rfl, rfl, trivial⟩, hS.F ht⟩) hS.2.2 d_TX_areTypable_29

set_option maxHeartbeats 4000000 in
set_option maxRecDepth 100000 in
theorem c_TX_areTypable_3y (l : Launch) (dC : Nat → ClassId) (dI : Nat → Nat → Nat) (x : Int64) (g : ok x 0 ∧ ok x 8 ∧ ok x 16) : Met l y_TX_areTypable (Cond.code y_TX_areTypable b_TX_areTypable 5 (Option.some Jvm.ClassFile.FieldType.boolean) :: wd) { frames := 1, cells := 0, slots := 0, locals := 22 } (va_Pc [.long x, .int 3] (fun U => va_P (dC, dI) cls [] U.heap ∧ va_K (dC, dI) cls [] U ∧ nw_ok U)) (va_Qi (fun r (_ : Unit) => r = 1) (fun _ _ => True) (fun _ => False)) 0 0 (fun _ => False) := by
  refine Met.ofW (cc := b_TX_areTypable) (maxL := 5) (ret := (Option.some Jvm.ClassFile.FieldType.boolean)) (by decide) rfl ?_
  intro p e s m args below meth c s₁ B hml hv
  obtain ⟨rfl, hP, hK, hN⟩ := hv
  have hx := B.exec
  have hb := B.bytes
  have hr := B.returns
  have hlocks := B.notSynchronized
  have hts : ∀ w ∈ wd, w.before ([.long x, .int 3] : List Value).toArray s = true := fun w hw => atoms_spec (ws := (Cond.code y_TX_areTypable b_TX_areTypable 5 (Option.some Jvm.ClassFile.FieldType.boolean) :: wd)) B.pre w (List.mem_cons_of_mem _ hw)
  have hown : s.vm.findClass "LeastSolutions$Text" = some m.cls := findClass_of_methodNamed B.named
  have hS : va_S (fun _ => False) s.heap s.heap [] := va_S.rf
  have hl := lv_entry ([.long x, .int 3]) (n := 5) (Nat.le_of_ble_eq_true rfl)
  rw [lg_entry_eq]
  generalize (lg_sl ([.long x, .int 3]) ++ List.replicate (5 - (lg_sl ([.long x, .int 3])).length) Slot.unset).toArray = ls at hl ⊢
  have hl : lv_has ls 5 [(0, .long x), (2, .int 3)] := hl
  refine lv_iconst (v := 0) hx hb d_TX_areTypable_0 (by decide) ?_
  refine lv_istore_n hx hb d_TX_areTypable_1 rfl hl (by decide) rfl (fun ls hl => ?_)
  have hl : lv_has ls 5 [(3, .int 0), (0, .long x), (2, .int 3)] := hl
  refine lv_iload_n hx hb d_TX_areTypable_2 rfl (lv_at hl 0 rfl) ?_
  refine lv_iload_n hx hb d_TX_areTypable_3 rfl (lv_at hl 2 rfl) ?_
  refine lv_icmp_ge (tgt := 36) hx hb d_TX_areTypable_4 (by decide) (fun h9 => absurd h9 (by decide)) (fun _ => ?_)
  refine lv_lload_n hx hb d_TX_areTypable_7 rfl (lv_at hl 1 rfl) ?_
  refine lv_iload_n hx hb d_TX_areTypable_8 rfl (lv_at hl 0 rfl) ?_
  refine pu_calli (va_runS (As := [.long x, .int 0]) (rest := []) ⟨hx, hb, hml, hown, hts⟩ (c_TX_byteOf l dC dI (x) (0)) (wd_S 2 hts k_351 k_2 k_349 k_350 rfl rfl (by decide +kernel) ⟨Nat.le_of_ble_eq_true rfl, Nat.le_of_ble_eq_true rfl⟩) ⟨fun a U g mk q => by obtain ⟨q0, qP, qK, qN⟩ := q; exact ⟨q0, qP, va_K.moved (u := U) (U := U.calling g mk a) (Vm.Alike.refl U.vm) qK, nw_ok.same (s := U) (U := U.calling g mk a) rfl qN⟩, fun U hU hW => ⟨rfl, by rw [hU]; exact hP.sub (ws' := []) [] rfl, va_K.moved hW.alike (hK.sub (tys' := []) [] rfl), nw_ok.warm hW hN⟩⟩ rfl rfl hl.1 rfl (lv_room (Nat.le_of_ble_eq_true rfl)) d_TX_areTypable_9 ⟨Nat.le_of_ble_eq_true rfl, Nat.le_of_ble_eq_true rfl⟩) (fun r1 hr1 => ?_)
  try dsimp only at hr1
  subst hr1
  refine lv_istore hx hb d_TX_areTypable_12 hl (by decide) rfl (fun ls hl => ?_)
  have hl : lv_has ls 5 [(4, .int (bc x 0)), (3, .int 0), (0, .long x), (2, .int 3)] := hl
  refine lv_iload hx hb d_TX_areTypable_14 (lv_at hl 0 rfl) ?_
  refine lv_bipush (v := 32) hx hb d_TX_areTypable_16 (by decide) ?_
  refine lv_icmp_lt (tgt := 28) hx hb d_TX_areTypable_18 (by decide) (fun h9 => absurd h9 (okc1 (d := 0) (by decide) (g.1))) (fun _ => ?_)
  refine lv_iload hx hb d_TX_areTypable_21 (lv_at hl 0 rfl) ?_
  refine lv_bipush (v := 126) hx hb d_TX_areTypable_23 (by decide) ?_
  refine lv_icmp_le (tgt := 30) hx hb d_TX_areTypable_25 (by decide) (fun _ => ?_) (fun h9 => absurd (okc2 (d := 0) (by decide) (g.1)) h9)
  refine lv_iinc (k := 1) (v := 1) hx hb d_TX_areTypable_30 hl rfl (by decide) (by decide) rfl (fun ls hl => ?_)
  have hl : lv_has ls 5 [(3, .int 1), (4, .int (bc x 0)), (0, .long x), (2, .int 3)] := hl
  refine lv_goto (tgt := 2) hx hb d_TX_areTypable_33 (by decide) ?_
  refine lv_iload_n hx hb d_TX_areTypable_2 rfl (lv_at hl 0 rfl) ?_
  refine lv_iload_n hx hb d_TX_areTypable_3 rfl (lv_at hl 3 rfl) ?_
  refine lv_icmp_ge (tgt := 36) hx hb d_TX_areTypable_4 (by decide) (fun h9 => absurd h9 (by decide)) (fun _ => ?_)
  refine lv_lload_n hx hb d_TX_areTypable_7 rfl (lv_at hl 2 rfl) ?_
  refine lv_iload_n hx hb d_TX_areTypable_8 rfl (lv_at hl 0 rfl) ?_
  refine pu_calli (va_runS (As := [.long x, .int 1]) (rest := []) ⟨hx, hb, hml, hown, hts⟩ (c_TX_byteOf l dC dI (x) (1)) (wd_S 2 hts k_351 k_2 k_349 k_350 rfl rfl (by decide +kernel) ⟨Nat.le_of_ble_eq_true rfl, Nat.le_of_ble_eq_true rfl⟩) ⟨fun a U g mk q => by obtain ⟨q0, qP, qK, qN⟩ := q; exact ⟨q0, qP, va_K.moved (u := U) (U := U.calling g mk a) (Vm.Alike.refl U.vm) qK, nw_ok.same (s := U) (U := U.calling g mk a) rfl qN⟩, fun U hU hW => ⟨rfl, by rw [hU]; exact hP.sub (ws' := []) [] rfl, va_K.moved hW.alike (hK.sub (tys' := []) [] rfl), nw_ok.warm hW hN⟩⟩ rfl rfl hl.1 rfl (lv_room (Nat.le_of_ble_eq_true rfl)) d_TX_areTypable_9 ⟨Nat.le_of_ble_eq_true rfl, Nat.le_of_ble_eq_true rfl⟩) (fun r2 hr2 => ?_)
  try dsimp only at hr2
  subst hr2
  refine lv_istore hx hb d_TX_areTypable_12 hl (by decide) rfl (fun ls hl => ?_)
  have hl : lv_has ls 5 [(4, .int (bc x 1)), (3, .int 1), (0, .long x), (2, .int 3)] := hl
  refine lv_iload hx hb d_TX_areTypable_14 (lv_at hl 0 rfl) ?_
  refine lv_bipush (v := 32) hx hb d_TX_areTypable_16 (by decide) ?_
  refine lv_icmp_lt (tgt := 28) hx hb d_TX_areTypable_18 (by decide) (fun h9 => absurd h9 (okc1 (d := 8) (by decide) (g.2.1))) (fun _ => ?_)
  refine lv_iload hx hb d_TX_areTypable_21 (lv_at hl 0 rfl) ?_
  refine lv_bipush (v := 126) hx hb d_TX_areTypable_23 (by decide) ?_
  refine lv_icmp_le (tgt := 30) hx hb d_TX_areTypable_25 (by decide) (fun _ => ?_) (fun h9 => absurd (okc2 (d := 8) (by decide) (g.2.1)) h9)
  refine lv_iinc (k := 1) (v := 2) hx hb d_TX_areTypable_30 hl rfl (by decide) (by decide) rfl (fun ls hl => ?_)
  have hl : lv_has ls 5 [(3, .int 2), (4, .int (bc x 1)), (0, .long x), (2, .int 3)] := hl
  refine lv_goto (tgt := 2) hx hb d_TX_areTypable_33 (by decide) ?_
  refine lv_iload_n hx hb d_TX_areTypable_2 rfl (lv_at hl 0 rfl) ?_
  refine lv_iload_n hx hb d_TX_areTypable_3 rfl (lv_at hl 3 rfl) ?_
  refine lv_icmp_ge (tgt := 36) hx hb d_TX_areTypable_4 (by decide) (fun h9 => absurd h9 (by decide)) (fun _ => ?_)
  refine lv_lload_n hx hb d_TX_areTypable_7 rfl (lv_at hl 2 rfl) ?_
  refine lv_iload_n hx hb d_TX_areTypable_8 rfl (lv_at hl 0 rfl) ?_
  refine pu_calli (va_runS (As := [.long x, .int 2]) (rest := []) ⟨hx, hb, hml, hown, hts⟩ (c_TX_byteOf l dC dI (x) (2)) (wd_S 2 hts k_351 k_2 k_349 k_350 rfl rfl (by decide +kernel) ⟨Nat.le_of_ble_eq_true rfl, Nat.le_of_ble_eq_true rfl⟩) ⟨fun a U g mk q => by obtain ⟨q0, qP, qK, qN⟩ := q; exact ⟨q0, qP, va_K.moved (u := U) (U := U.calling g mk a) (Vm.Alike.refl U.vm) qK, nw_ok.same (s := U) (U := U.calling g mk a) rfl qN⟩, fun U hU hW => ⟨rfl, by rw [hU]; exact hP.sub (ws' := []) [] rfl, va_K.moved hW.alike (hK.sub (tys' := []) [] rfl), nw_ok.warm hW hN⟩⟩ rfl rfl hl.1 rfl (lv_room (Nat.le_of_ble_eq_true rfl)) d_TX_areTypable_9 ⟨Nat.le_of_ble_eq_true rfl, Nat.le_of_ble_eq_true rfl⟩) (fun r3 hr3 => ?_)
  try dsimp only at hr3
  subst hr3
  refine lv_istore hx hb d_TX_areTypable_12 hl (by decide) rfl (fun ls hl => ?_)
  have hl : lv_has ls 5 [(4, .int (bc x 2)), (3, .int 2), (0, .long x), (2, .int 3)] := hl
  refine lv_iload hx hb d_TX_areTypable_14 (lv_at hl 0 rfl) ?_
  refine lv_bipush (v := 32) hx hb d_TX_areTypable_16 (by decide) ?_
  refine lv_icmp_lt (tgt := 28) hx hb d_TX_areTypable_18 (by decide) (fun h9 => absurd h9 (okc1 (d := 16) (by decide) (g.2.2))) (fun _ => ?_)
  refine lv_iload hx hb d_TX_areTypable_21 (lv_at hl 0 rfl) ?_
  refine lv_bipush (v := 126) hx hb d_TX_areTypable_23 (by decide) ?_
  refine lv_icmp_le (tgt := 30) hx hb d_TX_areTypable_25 (by decide) (fun _ => ?_) (fun h9 => absurd (okc2 (d := 16) (by decide) (g.2.2)) h9)
  refine lv_iinc (k := 1) (v := 3) hx hb d_TX_areTypable_30 hl rfl (by decide) (by decide) rfl (fun ls hl => ?_)
  have hl : lv_has ls 5 [(3, .int 3), (4, .int (bc x 2)), (0, .long x), (2, .int 3)] := hl
  refine lv_goto (tgt := 2) hx hb d_TX_areTypable_33 (by decide) ?_
  refine lv_iload_n hx hb d_TX_areTypable_2 rfl (lv_at hl 0 rfl) ?_
  refine lv_iload_n hx hb d_TX_areTypable_3 rfl (lv_at hl 3 rfl) ?_
  refine lv_icmp_ge (tgt := 36) hx hb d_TX_areTypable_4 (by decide) (fun _ => ?_) (fun h9 => absurd (by decide) h9)
  refine lv_iconst (v := 1) hx hb d_TX_areTypable_36 (by decide) ?_
  exact W.zret (v := 1) (ty := .boolean) hx hb hr (by decide +kernel) (fun t ht hW => ⟨⟨1, (), rfl, rfl, trivial⟩, hS.F ht⟩) hS.2.2 d_TX_areTypable_37

set_option maxHeartbeats 4000000 in
set_option maxRecDepth 100000 in
theorem c_TX_areTypable_3n (l : Launch) (dC : Nat → ClassId) (dI : Nat → Nat → Nat) (x : Int64) (g : ¬ (ok x 0 ∧ ok x 8 ∧ ok x 16)) : Met l y_TX_areTypable (Cond.code y_TX_areTypable b_TX_areTypable 5 (Option.some Jvm.ClassFile.FieldType.boolean) :: wd) { frames := 1, cells := 0, slots := 0, locals := 22 } (va_Pc [.long x, .int 3] (fun U => va_P (dC, dI) cls [] U.heap ∧ va_K (dC, dI) cls [] U ∧ nw_ok U)) (va_Qi (fun r (_ : Unit) => r = 0) (fun _ _ => True) (fun _ => False)) 0 0 (fun _ => False) := by
  refine Met.ofW (cc := b_TX_areTypable) (maxL := 5) (ret := (Option.some Jvm.ClassFile.FieldType.boolean)) (by decide) rfl ?_
  intro p e s m args below meth c s₁ B hml hv
  obtain ⟨rfl, hP, hK, hN⟩ := hv
  have hx := B.exec
  have hb := B.bytes
  have hr := B.returns
  have hlocks := B.notSynchronized
  have hts : ∀ w ∈ wd, w.before ([.long x, .int 3] : List Value).toArray s = true := fun w hw => atoms_spec (ws := (Cond.code y_TX_areTypable b_TX_areTypable 5 (Option.some Jvm.ClassFile.FieldType.boolean) :: wd)) B.pre w (List.mem_cons_of_mem _ hw)
  have hown : s.vm.findClass "LeastSolutions$Text" = some m.cls := findClass_of_methodNamed B.named
  have hS : va_S (fun _ => False) s.heap s.heap [] := va_S.rf
  have hl := lv_entry ([.long x, .int 3]) (n := 5) (Nat.le_of_ble_eq_true rfl)
  rw [lg_entry_eq]
  generalize (lg_sl ([.long x, .int 3]) ++ List.replicate (5 - (lg_sl ([.long x, .int 3])).length) Slot.unset).toArray = ls at hl ⊢
  have hl : lv_has ls 5 [(0, .long x), (2, .int 3)] := hl
  refine lv_iconst (v := 0) hx hb d_TX_areTypable_0 (by decide) ?_
  refine lv_istore_n hx hb d_TX_areTypable_1 rfl hl (by decide) rfl (fun ls hl => ?_)
  have hl : lv_has ls 5 [(3, .int 0), (0, .long x), (2, .int 3)] := hl
  refine lv_iload_n hx hb d_TX_areTypable_2 rfl (lv_at hl 0 rfl) ?_
  refine lv_iload_n hx hb d_TX_areTypable_3 rfl (lv_at hl 2 rfl) ?_
  refine lv_icmp_ge (tgt := 36) hx hb d_TX_areTypable_4 (by decide) (fun h9 => absurd h9 (by decide)) (fun _ => ?_)
  refine lv_lload_n hx hb d_TX_areTypable_7 rfl (lv_at hl 1 rfl) ?_
  refine lv_iload_n hx hb d_TX_areTypable_8 rfl (lv_at hl 0 rfl) ?_
  refine pu_calli (va_runS (As := [.long x, .int 0]) (rest := []) ⟨hx, hb, hml, hown, hts⟩ (c_TX_byteOf l dC dI (x) (0)) (wd_S 2 hts k_351 k_2 k_349 k_350 rfl rfl (by decide +kernel) ⟨Nat.le_of_ble_eq_true rfl, Nat.le_of_ble_eq_true rfl⟩) ⟨fun a U g mk q => by obtain ⟨q0, qP, qK, qN⟩ := q; exact ⟨q0, qP, va_K.moved (u := U) (U := U.calling g mk a) (Vm.Alike.refl U.vm) qK, nw_ok.same (s := U) (U := U.calling g mk a) rfl qN⟩, fun U hU hW => ⟨rfl, by rw [hU]; exact hP.sub (ws' := []) [] rfl, va_K.moved hW.alike (hK.sub (tys' := []) [] rfl), nw_ok.warm hW hN⟩⟩ rfl rfl hl.1 rfl (lv_room (Nat.le_of_ble_eq_true rfl)) d_TX_areTypable_9 ⟨Nat.le_of_ble_eq_true rfl, Nat.le_of_ble_eq_true rfl⟩) (fun r1 hr1 => ?_)
  try dsimp only at hr1
  subst hr1
  refine lv_istore hx hb d_TX_areTypable_12 hl (by decide) rfl (fun ls hl => ?_)
  have hl : lv_has ls 5 [(4, .int (bc x 0)), (3, .int 0), (0, .long x), (2, .int 3)] := hl
  refine lv_iload hx hb d_TX_areTypable_14 (lv_at hl 0 rfl) ?_
  refine lv_bipush (v := 32) hx hb d_TX_areTypable_16 (by decide) ?_
  refine lv_icmp_lt (tgt := 28) hx hb d_TX_areTypable_18 (by decide) (fun hc1 => ?_) (fun hc1 => ?_)
  · refine lv_iconst (v := 0) hx hb d_TX_areTypable_28 (by decide) ?_
    exact W.zret (v := 0) (ty := .boolean) hx hb hr (by decide +kernel) (fun t ht hW => ⟨⟨0, (), rfl, rfl, trivial⟩, hS.F ht⟩) hS.2.2 d_TX_areTypable_29
  · refine lv_iload hx hb d_TX_areTypable_21 (lv_at hl 0 rfl) ?_
    refine lv_bipush (v := 126) hx hb d_TX_areTypable_23 (by decide) ?_
    refine lv_icmp_le (tgt := 30) hx hb d_TX_areTypable_25 (by decide) (fun hc2 => ?_) (fun hc2 => ?_)
    · refine lv_iinc (k := 1) (v := 1) hx hb d_TX_areTypable_30 hl rfl (by decide) (by decide) rfl (fun ls hl => ?_)
      have hl : lv_has ls 5 [(3, .int 1), (4, .int (bc x 0)), (0, .long x), (2, .int 3)] := hl
      refine lv_goto (tgt := 2) hx hb d_TX_areTypable_33 (by decide) ?_
      refine lv_iload_n hx hb d_TX_areTypable_2 rfl (lv_at hl 0 rfl) ?_
      refine lv_iload_n hx hb d_TX_areTypable_3 rfl (lv_at hl 3 rfl) ?_
      refine lv_icmp_ge (tgt := 36) hx hb d_TX_areTypable_4 (by decide) (fun h9 => absurd h9 (by decide)) (fun _ => ?_)
      refine lv_lload_n hx hb d_TX_areTypable_7 rfl (lv_at hl 2 rfl) ?_
      refine lv_iload_n hx hb d_TX_areTypable_8 rfl (lv_at hl 0 rfl) ?_
      refine pu_calli (va_runS (As := [.long x, .int 1]) (rest := []) ⟨hx, hb, hml, hown, hts⟩ (c_TX_byteOf l dC dI (x) (1)) (wd_S 2 hts k_351 k_2 k_349 k_350 rfl rfl (by decide +kernel) ⟨Nat.le_of_ble_eq_true rfl, Nat.le_of_ble_eq_true rfl⟩) ⟨fun a U g mk q => by obtain ⟨q0, qP, qK, qN⟩ := q; exact ⟨q0, qP, va_K.moved (u := U) (U := U.calling g mk a) (Vm.Alike.refl U.vm) qK, nw_ok.same (s := U) (U := U.calling g mk a) rfl qN⟩, fun U hU hW => ⟨rfl, by rw [hU]; exact hP.sub (ws' := []) [] rfl, va_K.moved hW.alike (hK.sub (tys' := []) [] rfl), nw_ok.warm hW hN⟩⟩ rfl rfl hl.1 rfl (lv_room (Nat.le_of_ble_eq_true rfl)) d_TX_areTypable_9 ⟨Nat.le_of_ble_eq_true rfl, Nat.le_of_ble_eq_true rfl⟩) (fun r2 hr2 => ?_)
      try dsimp only at hr2
      subst hr2
      refine lv_istore hx hb d_TX_areTypable_12 hl (by decide) rfl (fun ls hl => ?_)
      have hl : lv_has ls 5 [(4, .int (bc x 1)), (3, .int 1), (0, .long x), (2, .int 3)] := hl
      refine lv_iload hx hb d_TX_areTypable_14 (lv_at hl 0 rfl) ?_
      refine lv_bipush (v := 32) hx hb d_TX_areTypable_16 (by decide) ?_
      refine lv_icmp_lt (tgt := 28) hx hb d_TX_areTypable_18 (by decide) (fun hc3 => ?_) (fun hc3 => ?_)
      · refine lv_iconst (v := 0) hx hb d_TX_areTypable_28 (by decide) ?_
        exact W.zret (v := 0) (ty := .boolean) hx hb hr (by decide +kernel) (fun t ht hW => ⟨⟨0, (), rfl, rfl, trivial⟩, hS.F ht⟩) hS.2.2 d_TX_areTypable_29
      · refine lv_iload hx hb d_TX_areTypable_21 (lv_at hl 0 rfl) ?_
        refine lv_bipush (v := 126) hx hb d_TX_areTypable_23 (by decide) ?_
        refine lv_icmp_le (tgt := 30) hx hb d_TX_areTypable_25 (by decide) (fun hc4 => ?_) (fun hc4 => ?_)
        · refine lv_iinc (k := 1) (v := 2) hx hb d_TX_areTypable_30 hl rfl (by decide) (by decide) rfl (fun ls hl => ?_)
          have hl : lv_has ls 5 [(3, .int 2), (4, .int (bc x 1)), (0, .long x), (2, .int 3)] := hl
          refine lv_goto (tgt := 2) hx hb d_TX_areTypable_33 (by decide) ?_
          refine lv_iload_n hx hb d_TX_areTypable_2 rfl (lv_at hl 0 rfl) ?_
          refine lv_iload_n hx hb d_TX_areTypable_3 rfl (lv_at hl 3 rfl) ?_
          refine lv_icmp_ge (tgt := 36) hx hb d_TX_areTypable_4 (by decide) (fun h9 => absurd h9 (by decide)) (fun _ => ?_)
          refine lv_lload_n hx hb d_TX_areTypable_7 rfl (lv_at hl 2 rfl) ?_
          refine lv_iload_n hx hb d_TX_areTypable_8 rfl (lv_at hl 0 rfl) ?_
          refine pu_calli (va_runS (As := [.long x, .int 2]) (rest := []) ⟨hx, hb, hml, hown, hts⟩ (c_TX_byteOf l dC dI (x) (2)) (wd_S 2 hts k_351 k_2 k_349 k_350 rfl rfl (by decide +kernel) ⟨Nat.le_of_ble_eq_true rfl, Nat.le_of_ble_eq_true rfl⟩) ⟨fun a U g mk q => by obtain ⟨q0, qP, qK, qN⟩ := q; exact ⟨q0, qP, va_K.moved (u := U) (U := U.calling g mk a) (Vm.Alike.refl U.vm) qK, nw_ok.same (s := U) (U := U.calling g mk a) rfl qN⟩, fun U hU hW => ⟨rfl, by rw [hU]; exact hP.sub (ws' := []) [] rfl, va_K.moved hW.alike (hK.sub (tys' := []) [] rfl), nw_ok.warm hW hN⟩⟩ rfl rfl hl.1 rfl (lv_room (Nat.le_of_ble_eq_true rfl)) d_TX_areTypable_9 ⟨Nat.le_of_ble_eq_true rfl, Nat.le_of_ble_eq_true rfl⟩) (fun r3 hr3 => ?_)
          try dsimp only at hr3
          subst hr3
          refine lv_istore hx hb d_TX_areTypable_12 hl (by decide) rfl (fun ls hl => ?_)
          have hl : lv_has ls 5 [(4, .int (bc x 2)), (3, .int 2), (0, .long x), (2, .int 3)] := hl
          refine lv_iload hx hb d_TX_areTypable_14 (lv_at hl 0 rfl) ?_
          refine lv_bipush (v := 32) hx hb d_TX_areTypable_16 (by decide) ?_
          refine lv_icmp_lt (tgt := 28) hx hb d_TX_areTypable_18 (by decide) (fun hc5 => ?_) (fun hc5 => ?_)
          · refine lv_iconst (v := 0) hx hb d_TX_areTypable_28 (by decide) ?_
            exact W.zret (v := 0) (ty := .boolean) hx hb hr (by decide +kernel) (fun t ht hW => ⟨⟨0, (), rfl, rfl, trivial⟩, hS.F ht⟩) hS.2.2 d_TX_areTypable_29
          · refine lv_iload hx hb d_TX_areTypable_21 (lv_at hl 0 rfl) ?_
            refine lv_bipush (v := 126) hx hb d_TX_areTypable_23 (by decide) ?_
            refine lv_icmp_le (tgt := 30) hx hb d_TX_areTypable_25 (by decide) (fun hc6 => ?_) (fun hc6 => ?_)
            · refine lv_iinc (k := 1) (v := 3) hx hb d_TX_areTypable_30 hl rfl (by decide) (by decide) rfl (fun ls hl => ?_)
              have hl : lv_has ls 5 [(3, .int 3), (4, .int (bc x 2)), (0, .long x), (2, .int 3)] := hl
              refine lv_goto (tgt := 2) hx hb d_TX_areTypable_33 (by decide) ?_
              refine lv_iload_n hx hb d_TX_areTypable_2 rfl (lv_at hl 0 rfl) ?_
              refine lv_iload_n hx hb d_TX_areTypable_3 rfl (lv_at hl 3 rfl) ?_
              refine lv_icmp_ge (tgt := 36) hx hb d_TX_areTypable_4 (by decide) (fun _ => ?_) (fun h9 => absurd (by decide) h9)
              exact absurd ⟨okc (d := 0) (by decide) hc1 hc2, okc (d := 8) (by decide) hc3 hc4, okc (d := 16) (by decide) hc5 hc6⟩ g
            · refine lv_iconst (v := 0) hx hb d_TX_areTypable_28 (by decide) ?_
              exact W.zret (v := 0) (ty := .boolean) hx hb hr (by decide +kernel) (fun t ht hW => ⟨⟨0, (), rfl, rfl, trivial⟩, hS.F ht⟩) hS.2.2 d_TX_areTypable_29
        · refine lv_iconst (v := 0) hx hb d_TX_areTypable_28 (by decide) ?_
          exact W.zret (v := 0) (ty := .boolean) hx hb hr (by decide +kernel) (fun t ht hW => ⟨⟨0, (), rfl, rfl, trivial⟩, hS.F ht⟩) hS.2.2 d_TX_areTypable_29
    · refine lv_iconst (v := 0) hx hb d_TX_areTypable_28 (by decide) ?_
      exact W.zret (v := 0) (ty := .boolean) hx hb hr (by decide +kernel) (fun t ht hW => ⟨⟨0, (), rfl, rfl, trivial⟩, hS.F ht⟩) hS.2.2 d_TX_areTypable_29

set_option maxHeartbeats 4000000 in
set_option maxRecDepth 100000 in
theorem c_TX_areTypable_4y (l : Launch) (dC : Nat → ClassId) (dI : Nat → Nat → Nat) (x : Int64) (g : ok x 0 ∧ ok x 8 ∧ ok x 16 ∧ ok x 24) : Met l y_TX_areTypable (Cond.code y_TX_areTypable b_TX_areTypable 5 (Option.some Jvm.ClassFile.FieldType.boolean) :: wd) { frames := 1, cells := 0, slots := 0, locals := 22 } (va_Pc [.long x, .int 4] (fun U => va_P (dC, dI) cls [] U.heap ∧ va_K (dC, dI) cls [] U ∧ nw_ok U)) (va_Qi (fun r (_ : Unit) => r = 1) (fun _ _ => True) (fun _ => False)) 0 0 (fun _ => False) := by
  refine Met.ofW (cc := b_TX_areTypable) (maxL := 5) (ret := (Option.some Jvm.ClassFile.FieldType.boolean)) (by decide) rfl ?_
  intro p e s m args below meth c s₁ B hml hv
  obtain ⟨rfl, hP, hK, hN⟩ := hv
  have hx := B.exec
  have hb := B.bytes
  have hr := B.returns
  have hlocks := B.notSynchronized
  have hts : ∀ w ∈ wd, w.before ([.long x, .int 4] : List Value).toArray s = true := fun w hw => atoms_spec (ws := (Cond.code y_TX_areTypable b_TX_areTypable 5 (Option.some Jvm.ClassFile.FieldType.boolean) :: wd)) B.pre w (List.mem_cons_of_mem _ hw)
  have hown : s.vm.findClass "LeastSolutions$Text" = some m.cls := findClass_of_methodNamed B.named
  have hS : va_S (fun _ => False) s.heap s.heap [] := va_S.rf
  have hl := lv_entry ([.long x, .int 4]) (n := 5) (Nat.le_of_ble_eq_true rfl)
  rw [lg_entry_eq]
  generalize (lg_sl ([.long x, .int 4]) ++ List.replicate (5 - (lg_sl ([.long x, .int 4])).length) Slot.unset).toArray = ls at hl ⊢
  have hl : lv_has ls 5 [(0, .long x), (2, .int 4)] := hl
  refine lv_iconst (v := 0) hx hb d_TX_areTypable_0 (by decide) ?_
  refine lv_istore_n hx hb d_TX_areTypable_1 rfl hl (by decide) rfl (fun ls hl => ?_)
  have hl : lv_has ls 5 [(3, .int 0), (0, .long x), (2, .int 4)] := hl
  refine lv_iload_n hx hb d_TX_areTypable_2 rfl (lv_at hl 0 rfl) ?_
  refine lv_iload_n hx hb d_TX_areTypable_3 rfl (lv_at hl 2 rfl) ?_
  refine lv_icmp_ge (tgt := 36) hx hb d_TX_areTypable_4 (by decide) (fun h9 => absurd h9 (by decide)) (fun _ => ?_)
  refine lv_lload_n hx hb d_TX_areTypable_7 rfl (lv_at hl 1 rfl) ?_
  refine lv_iload_n hx hb d_TX_areTypable_8 rfl (lv_at hl 0 rfl) ?_
  refine pu_calli (va_runS (As := [.long x, .int 0]) (rest := []) ⟨hx, hb, hml, hown, hts⟩ (c_TX_byteOf l dC dI (x) (0)) (wd_S 2 hts k_351 k_2 k_349 k_350 rfl rfl (by decide +kernel) ⟨Nat.le_of_ble_eq_true rfl, Nat.le_of_ble_eq_true rfl⟩) ⟨fun a U g mk q => by obtain ⟨q0, qP, qK, qN⟩ := q; exact ⟨q0, qP, va_K.moved (u := U) (U := U.calling g mk a) (Vm.Alike.refl U.vm) qK, nw_ok.same (s := U) (U := U.calling g mk a) rfl qN⟩, fun U hU hW => ⟨rfl, by rw [hU]; exact hP.sub (ws' := []) [] rfl, va_K.moved hW.alike (hK.sub (tys' := []) [] rfl), nw_ok.warm hW hN⟩⟩ rfl rfl hl.1 rfl (lv_room (Nat.le_of_ble_eq_true rfl)) d_TX_areTypable_9 ⟨Nat.le_of_ble_eq_true rfl, Nat.le_of_ble_eq_true rfl⟩) (fun r1 hr1 => ?_)
  try dsimp only at hr1
  subst hr1
  refine lv_istore hx hb d_TX_areTypable_12 hl (by decide) rfl (fun ls hl => ?_)
  have hl : lv_has ls 5 [(4, .int (bc x 0)), (3, .int 0), (0, .long x), (2, .int 4)] := hl
  refine lv_iload hx hb d_TX_areTypable_14 (lv_at hl 0 rfl) ?_
  refine lv_bipush (v := 32) hx hb d_TX_areTypable_16 (by decide) ?_
  refine lv_icmp_lt (tgt := 28) hx hb d_TX_areTypable_18 (by decide) (fun h9 => absurd h9 (okc1 (d := 0) (by decide) (g.1))) (fun _ => ?_)
  refine lv_iload hx hb d_TX_areTypable_21 (lv_at hl 0 rfl) ?_
  refine lv_bipush (v := 126) hx hb d_TX_areTypable_23 (by decide) ?_
  refine lv_icmp_le (tgt := 30) hx hb d_TX_areTypable_25 (by decide) (fun _ => ?_) (fun h9 => absurd (okc2 (d := 0) (by decide) (g.1)) h9)
  refine lv_iinc (k := 1) (v := 1) hx hb d_TX_areTypable_30 hl rfl (by decide) (by decide) rfl (fun ls hl => ?_)
  have hl : lv_has ls 5 [(3, .int 1), (4, .int (bc x 0)), (0, .long x), (2, .int 4)] := hl
  refine lv_goto (tgt := 2) hx hb d_TX_areTypable_33 (by decide) ?_
  refine lv_iload_n hx hb d_TX_areTypable_2 rfl (lv_at hl 0 rfl) ?_
  refine lv_iload_n hx hb d_TX_areTypable_3 rfl (lv_at hl 3 rfl) ?_
  refine lv_icmp_ge (tgt := 36) hx hb d_TX_areTypable_4 (by decide) (fun h9 => absurd h9 (by decide)) (fun _ => ?_)
  refine lv_lload_n hx hb d_TX_areTypable_7 rfl (lv_at hl 2 rfl) ?_
  refine lv_iload_n hx hb d_TX_areTypable_8 rfl (lv_at hl 0 rfl) ?_
  refine pu_calli (va_runS (As := [.long x, .int 1]) (rest := []) ⟨hx, hb, hml, hown, hts⟩ (c_TX_byteOf l dC dI (x) (1)) (wd_S 2 hts k_351 k_2 k_349 k_350 rfl rfl (by decide +kernel) ⟨Nat.le_of_ble_eq_true rfl, Nat.le_of_ble_eq_true rfl⟩) ⟨fun a U g mk q => by obtain ⟨q0, qP, qK, qN⟩ := q; exact ⟨q0, qP, va_K.moved (u := U) (U := U.calling g mk a) (Vm.Alike.refl U.vm) qK, nw_ok.same (s := U) (U := U.calling g mk a) rfl qN⟩, fun U hU hW => ⟨rfl, by rw [hU]; exact hP.sub (ws' := []) [] rfl, va_K.moved hW.alike (hK.sub (tys' := []) [] rfl), nw_ok.warm hW hN⟩⟩ rfl rfl hl.1 rfl (lv_room (Nat.le_of_ble_eq_true rfl)) d_TX_areTypable_9 ⟨Nat.le_of_ble_eq_true rfl, Nat.le_of_ble_eq_true rfl⟩) (fun r2 hr2 => ?_)
  try dsimp only at hr2
  subst hr2
  refine lv_istore hx hb d_TX_areTypable_12 hl (by decide) rfl (fun ls hl => ?_)
  have hl : lv_has ls 5 [(4, .int (bc x 1)), (3, .int 1), (0, .long x), (2, .int 4)] := hl
  refine lv_iload hx hb d_TX_areTypable_14 (lv_at hl 0 rfl) ?_
  refine lv_bipush (v := 32) hx hb d_TX_areTypable_16 (by decide) ?_
  refine lv_icmp_lt (tgt := 28) hx hb d_TX_areTypable_18 (by decide) (fun h9 => absurd h9 (okc1 (d := 8) (by decide) (g.2.1))) (fun _ => ?_)
  refine lv_iload hx hb d_TX_areTypable_21 (lv_at hl 0 rfl) ?_
  refine lv_bipush (v := 126) hx hb d_TX_areTypable_23 (by decide) ?_
  refine lv_icmp_le (tgt := 30) hx hb d_TX_areTypable_25 (by decide) (fun _ => ?_) (fun h9 => absurd (okc2 (d := 8) (by decide) (g.2.1)) h9)
  refine lv_iinc (k := 1) (v := 2) hx hb d_TX_areTypable_30 hl rfl (by decide) (by decide) rfl (fun ls hl => ?_)
  have hl : lv_has ls 5 [(3, .int 2), (4, .int (bc x 1)), (0, .long x), (2, .int 4)] := hl
  refine lv_goto (tgt := 2) hx hb d_TX_areTypable_33 (by decide) ?_
  refine lv_iload_n hx hb d_TX_areTypable_2 rfl (lv_at hl 0 rfl) ?_
  refine lv_iload_n hx hb d_TX_areTypable_3 rfl (lv_at hl 3 rfl) ?_
  refine lv_icmp_ge (tgt := 36) hx hb d_TX_areTypable_4 (by decide) (fun h9 => absurd h9 (by decide)) (fun _ => ?_)
  refine lv_lload_n hx hb d_TX_areTypable_7 rfl (lv_at hl 2 rfl) ?_
  refine lv_iload_n hx hb d_TX_areTypable_8 rfl (lv_at hl 0 rfl) ?_
  refine pu_calli (va_runS (As := [.long x, .int 2]) (rest := []) ⟨hx, hb, hml, hown, hts⟩ (c_TX_byteOf l dC dI (x) (2)) (wd_S 2 hts k_351 k_2 k_349 k_350 rfl rfl (by decide +kernel) ⟨Nat.le_of_ble_eq_true rfl, Nat.le_of_ble_eq_true rfl⟩) ⟨fun a U g mk q => by obtain ⟨q0, qP, qK, qN⟩ := q; exact ⟨q0, qP, va_K.moved (u := U) (U := U.calling g mk a) (Vm.Alike.refl U.vm) qK, nw_ok.same (s := U) (U := U.calling g mk a) rfl qN⟩, fun U hU hW => ⟨rfl, by rw [hU]; exact hP.sub (ws' := []) [] rfl, va_K.moved hW.alike (hK.sub (tys' := []) [] rfl), nw_ok.warm hW hN⟩⟩ rfl rfl hl.1 rfl (lv_room (Nat.le_of_ble_eq_true rfl)) d_TX_areTypable_9 ⟨Nat.le_of_ble_eq_true rfl, Nat.le_of_ble_eq_true rfl⟩) (fun r3 hr3 => ?_)
  try dsimp only at hr3
  subst hr3
  refine lv_istore hx hb d_TX_areTypable_12 hl (by decide) rfl (fun ls hl => ?_)
  have hl : lv_has ls 5 [(4, .int (bc x 2)), (3, .int 2), (0, .long x), (2, .int 4)] := hl
  refine lv_iload hx hb d_TX_areTypable_14 (lv_at hl 0 rfl) ?_
  refine lv_bipush (v := 32) hx hb d_TX_areTypable_16 (by decide) ?_
  refine lv_icmp_lt (tgt := 28) hx hb d_TX_areTypable_18 (by decide) (fun h9 => absurd h9 (okc1 (d := 16) (by decide) (g.2.2.1))) (fun _ => ?_)
  refine lv_iload hx hb d_TX_areTypable_21 (lv_at hl 0 rfl) ?_
  refine lv_bipush (v := 126) hx hb d_TX_areTypable_23 (by decide) ?_
  refine lv_icmp_le (tgt := 30) hx hb d_TX_areTypable_25 (by decide) (fun _ => ?_) (fun h9 => absurd (okc2 (d := 16) (by decide) (g.2.2.1)) h9)
  refine lv_iinc (k := 1) (v := 3) hx hb d_TX_areTypable_30 hl rfl (by decide) (by decide) rfl (fun ls hl => ?_)
  have hl : lv_has ls 5 [(3, .int 3), (4, .int (bc x 2)), (0, .long x), (2, .int 4)] := hl
  refine lv_goto (tgt := 2) hx hb d_TX_areTypable_33 (by decide) ?_
  refine lv_iload_n hx hb d_TX_areTypable_2 rfl (lv_at hl 0 rfl) ?_
  refine lv_iload_n hx hb d_TX_areTypable_3 rfl (lv_at hl 3 rfl) ?_
  refine lv_icmp_ge (tgt := 36) hx hb d_TX_areTypable_4 (by decide) (fun h9 => absurd h9 (by decide)) (fun _ => ?_)
  refine lv_lload_n hx hb d_TX_areTypable_7 rfl (lv_at hl 2 rfl) ?_
  refine lv_iload_n hx hb d_TX_areTypable_8 rfl (lv_at hl 0 rfl) ?_
  refine pu_calli (va_runS (As := [.long x, .int 3]) (rest := []) ⟨hx, hb, hml, hown, hts⟩ (c_TX_byteOf l dC dI (x) (3)) (wd_S 2 hts k_351 k_2 k_349 k_350 rfl rfl (by decide +kernel) ⟨Nat.le_of_ble_eq_true rfl, Nat.le_of_ble_eq_true rfl⟩) ⟨fun a U g mk q => by obtain ⟨q0, qP, qK, qN⟩ := q; exact ⟨q0, qP, va_K.moved (u := U) (U := U.calling g mk a) (Vm.Alike.refl U.vm) qK, nw_ok.same (s := U) (U := U.calling g mk a) rfl qN⟩, fun U hU hW => ⟨rfl, by rw [hU]; exact hP.sub (ws' := []) [] rfl, va_K.moved hW.alike (hK.sub (tys' := []) [] rfl), nw_ok.warm hW hN⟩⟩ rfl rfl hl.1 rfl (lv_room (Nat.le_of_ble_eq_true rfl)) d_TX_areTypable_9 ⟨Nat.le_of_ble_eq_true rfl, Nat.le_of_ble_eq_true rfl⟩) (fun r4 hr4 => ?_)
  try dsimp only at hr4
  subst hr4
  refine lv_istore hx hb d_TX_areTypable_12 hl (by decide) rfl (fun ls hl => ?_)
  have hl : lv_has ls 5 [(4, .int (bc x 3)), (3, .int 3), (0, .long x), (2, .int 4)] := hl
  refine lv_iload hx hb d_TX_areTypable_14 (lv_at hl 0 rfl) ?_
  refine lv_bipush (v := 32) hx hb d_TX_areTypable_16 (by decide) ?_
  refine lv_icmp_lt (tgt := 28) hx hb d_TX_areTypable_18 (by decide) (fun h9 => absurd h9 (okc1 (d := 24) (by decide) (g.2.2.2))) (fun _ => ?_)
  refine lv_iload hx hb d_TX_areTypable_21 (lv_at hl 0 rfl) ?_
  refine lv_bipush (v := 126) hx hb d_TX_areTypable_23 (by decide) ?_
  refine lv_icmp_le (tgt := 30) hx hb d_TX_areTypable_25 (by decide) (fun _ => ?_) (fun h9 => absurd (okc2 (d := 24) (by decide) (g.2.2.2)) h9)
  refine lv_iinc (k := 1) (v := 4) hx hb d_TX_areTypable_30 hl rfl (by decide) (by decide) rfl (fun ls hl => ?_)
  have hl : lv_has ls 5 [(3, .int 4), (4, .int (bc x 3)), (0, .long x), (2, .int 4)] := hl
  refine lv_goto (tgt := 2) hx hb d_TX_areTypable_33 (by decide) ?_
  refine lv_iload_n hx hb d_TX_areTypable_2 rfl (lv_at hl 0 rfl) ?_
  refine lv_iload_n hx hb d_TX_areTypable_3 rfl (lv_at hl 3 rfl) ?_
  refine lv_icmp_ge (tgt := 36) hx hb d_TX_areTypable_4 (by decide) (fun _ => ?_) (fun h9 => absurd (by decide) h9)
  refine lv_iconst (v := 1) hx hb d_TX_areTypable_36 (by decide) ?_
  exact W.zret (v := 1) (ty := .boolean) hx hb hr (by decide +kernel) (fun t ht hW => ⟨⟨1, (), rfl, rfl, trivial⟩, hS.F ht⟩) hS.2.2 d_TX_areTypable_37

set_option maxHeartbeats 4000000 in
set_option maxRecDepth 100000 in
theorem c_TX_areTypable_4n (l : Launch) (dC : Nat → ClassId) (dI : Nat → Nat → Nat) (x : Int64) (g : ¬ (ok x 0 ∧ ok x 8 ∧ ok x 16 ∧ ok x 24)) : Met l y_TX_areTypable (Cond.code y_TX_areTypable b_TX_areTypable 5 (Option.some Jvm.ClassFile.FieldType.boolean) :: wd) { frames := 1, cells := 0, slots := 0, locals := 22 } (va_Pc [.long x, .int 4] (fun U => va_P (dC, dI) cls [] U.heap ∧ va_K (dC, dI) cls [] U ∧ nw_ok U)) (va_Qi (fun r (_ : Unit) => r = 0) (fun _ _ => True) (fun _ => False)) 0 0 (fun _ => False) := by
  refine Met.ofW (cc := b_TX_areTypable) (maxL := 5) (ret := (Option.some Jvm.ClassFile.FieldType.boolean)) (by decide) rfl ?_
  intro p e s m args below meth c s₁ B hml hv
  obtain ⟨rfl, hP, hK, hN⟩ := hv
  have hx := B.exec
  have hb := B.bytes
  have hr := B.returns
  have hlocks := B.notSynchronized
  have hts : ∀ w ∈ wd, w.before ([.long x, .int 4] : List Value).toArray s = true := fun w hw => atoms_spec (ws := (Cond.code y_TX_areTypable b_TX_areTypable 5 (Option.some Jvm.ClassFile.FieldType.boolean) :: wd)) B.pre w (List.mem_cons_of_mem _ hw)
  have hown : s.vm.findClass "LeastSolutions$Text" = some m.cls := findClass_of_methodNamed B.named
  have hS : va_S (fun _ => False) s.heap s.heap [] := va_S.rf
  have hl := lv_entry ([.long x, .int 4]) (n := 5) (Nat.le_of_ble_eq_true rfl)
  rw [lg_entry_eq]
  generalize (lg_sl ([.long x, .int 4]) ++ List.replicate (5 - (lg_sl ([.long x, .int 4])).length) Slot.unset).toArray = ls at hl ⊢
  have hl : lv_has ls 5 [(0, .long x), (2, .int 4)] := hl
  refine lv_iconst (v := 0) hx hb d_TX_areTypable_0 (by decide) ?_
  refine lv_istore_n hx hb d_TX_areTypable_1 rfl hl (by decide) rfl (fun ls hl => ?_)
  have hl : lv_has ls 5 [(3, .int 0), (0, .long x), (2, .int 4)] := hl
  refine lv_iload_n hx hb d_TX_areTypable_2 rfl (lv_at hl 0 rfl) ?_
  refine lv_iload_n hx hb d_TX_areTypable_3 rfl (lv_at hl 2 rfl) ?_
  refine lv_icmp_ge (tgt := 36) hx hb d_TX_areTypable_4 (by decide) (fun h9 => absurd h9 (by decide)) (fun _ => ?_)
  refine lv_lload_n hx hb d_TX_areTypable_7 rfl (lv_at hl 1 rfl) ?_
  refine lv_iload_n hx hb d_TX_areTypable_8 rfl (lv_at hl 0 rfl) ?_
  refine pu_calli (va_runS (As := [.long x, .int 0]) (rest := []) ⟨hx, hb, hml, hown, hts⟩ (c_TX_byteOf l dC dI (x) (0)) (wd_S 2 hts k_351 k_2 k_349 k_350 rfl rfl (by decide +kernel) ⟨Nat.le_of_ble_eq_true rfl, Nat.le_of_ble_eq_true rfl⟩) ⟨fun a U g mk q => by obtain ⟨q0, qP, qK, qN⟩ := q; exact ⟨q0, qP, va_K.moved (u := U) (U := U.calling g mk a) (Vm.Alike.refl U.vm) qK, nw_ok.same (s := U) (U := U.calling g mk a) rfl qN⟩, fun U hU hW => ⟨rfl, by rw [hU]; exact hP.sub (ws' := []) [] rfl, va_K.moved hW.alike (hK.sub (tys' := []) [] rfl), nw_ok.warm hW hN⟩⟩ rfl rfl hl.1 rfl (lv_room (Nat.le_of_ble_eq_true rfl)) d_TX_areTypable_9 ⟨Nat.le_of_ble_eq_true rfl, Nat.le_of_ble_eq_true rfl⟩) (fun r1 hr1 => ?_)
  try dsimp only at hr1
  subst hr1
  refine lv_istore hx hb d_TX_areTypable_12 hl (by decide) rfl (fun ls hl => ?_)
  have hl : lv_has ls 5 [(4, .int (bc x 0)), (3, .int 0), (0, .long x), (2, .int 4)] := hl
  refine lv_iload hx hb d_TX_areTypable_14 (lv_at hl 0 rfl) ?_
  refine lv_bipush (v := 32) hx hb d_TX_areTypable_16 (by decide) ?_
  refine lv_icmp_lt (tgt := 28) hx hb d_TX_areTypable_18 (by decide) (fun hc1 => ?_) (fun hc1 => ?_)
  · refine lv_iconst (v := 0) hx hb d_TX_areTypable_28 (by decide) ?_
    exact W.zret (v := 0) (ty := .boolean) hx hb hr (by decide +kernel) (fun t ht hW => ⟨⟨0, (), rfl, rfl, trivial⟩, hS.F ht⟩) hS.2.2 d_TX_areTypable_29
  · refine lv_iload hx hb d_TX_areTypable_21 (lv_at hl 0 rfl) ?_
    refine lv_bipush (v := 126) hx hb d_TX_areTypable_23 (by decide) ?_
    refine lv_icmp_le (tgt := 30) hx hb d_TX_areTypable_25 (by decide) (fun hc2 => ?_) (fun hc2 => ?_)
    · refine lv_iinc (k := 1) (v := 1) hx hb d_TX_areTypable_30 hl rfl (by decide) (by decide) rfl (fun ls hl => ?_)
      have hl : lv_has ls 5 [(3, .int 1), (4, .int (bc x 0)), (0, .long x), (2, .int 4)] := hl
      refine lv_goto (tgt := 2) hx hb d_TX_areTypable_33 (by decide) ?_
      refine lv_iload_n hx hb d_TX_areTypable_2 rfl (lv_at hl 0 rfl) ?_
      refine lv_iload_n hx hb d_TX_areTypable_3 rfl (lv_at hl 3 rfl) ?_
      refine lv_icmp_ge (tgt := 36) hx hb d_TX_areTypable_4 (by decide) (fun h9 => absurd h9 (by decide)) (fun _ => ?_)
      refine lv_lload_n hx hb d_TX_areTypable_7 rfl (lv_at hl 2 rfl) ?_
      refine lv_iload_n hx hb d_TX_areTypable_8 rfl (lv_at hl 0 rfl) ?_
      refine pu_calli (va_runS (As := [.long x, .int 1]) (rest := []) ⟨hx, hb, hml, hown, hts⟩ (c_TX_byteOf l dC dI (x) (1)) (wd_S 2 hts k_351 k_2 k_349 k_350 rfl rfl (by decide +kernel) ⟨Nat.le_of_ble_eq_true rfl, Nat.le_of_ble_eq_true rfl⟩) ⟨fun a U g mk q => by obtain ⟨q0, qP, qK, qN⟩ := q; exact ⟨q0, qP, va_K.moved (u := U) (U := U.calling g mk a) (Vm.Alike.refl U.vm) qK, nw_ok.same (s := U) (U := U.calling g mk a) rfl qN⟩, fun U hU hW => ⟨rfl, by rw [hU]; exact hP.sub (ws' := []) [] rfl, va_K.moved hW.alike (hK.sub (tys' := []) [] rfl), nw_ok.warm hW hN⟩⟩ rfl rfl hl.1 rfl (lv_room (Nat.le_of_ble_eq_true rfl)) d_TX_areTypable_9 ⟨Nat.le_of_ble_eq_true rfl, Nat.le_of_ble_eq_true rfl⟩) (fun r2 hr2 => ?_)
      try dsimp only at hr2
      subst hr2
      refine lv_istore hx hb d_TX_areTypable_12 hl (by decide) rfl (fun ls hl => ?_)
      have hl : lv_has ls 5 [(4, .int (bc x 1)), (3, .int 1), (0, .long x), (2, .int 4)] := hl
      refine lv_iload hx hb d_TX_areTypable_14 (lv_at hl 0 rfl) ?_
      refine lv_bipush (v := 32) hx hb d_TX_areTypable_16 (by decide) ?_
      refine lv_icmp_lt (tgt := 28) hx hb d_TX_areTypable_18 (by decide) (fun hc3 => ?_) (fun hc3 => ?_)
      · refine lv_iconst (v := 0) hx hb d_TX_areTypable_28 (by decide) ?_
        exact W.zret (v := 0) (ty := .boolean) hx hb hr (by decide +kernel) (fun t ht hW => ⟨⟨0, (), rfl, rfl, trivial⟩, hS.F ht⟩) hS.2.2 d_TX_areTypable_29
      · refine lv_iload hx hb d_TX_areTypable_21 (lv_at hl 0 rfl) ?_
        refine lv_bipush (v := 126) hx hb d_TX_areTypable_23 (by decide) ?_
        refine lv_icmp_le (tgt := 30) hx hb d_TX_areTypable_25 (by decide) (fun hc4 => ?_) (fun hc4 => ?_)
        · refine lv_iinc (k := 1) (v := 2) hx hb d_TX_areTypable_30 hl rfl (by decide) (by decide) rfl (fun ls hl => ?_)
          have hl : lv_has ls 5 [(3, .int 2), (4, .int (bc x 1)), (0, .long x), (2, .int 4)] := hl
          refine lv_goto (tgt := 2) hx hb d_TX_areTypable_33 (by decide) ?_
          refine lv_iload_n hx hb d_TX_areTypable_2 rfl (lv_at hl 0 rfl) ?_
          refine lv_iload_n hx hb d_TX_areTypable_3 rfl (lv_at hl 3 rfl) ?_
          refine lv_icmp_ge (tgt := 36) hx hb d_TX_areTypable_4 (by decide) (fun h9 => absurd h9 (by decide)) (fun _ => ?_)
          refine lv_lload_n hx hb d_TX_areTypable_7 rfl (lv_at hl 2 rfl) ?_
          refine lv_iload_n hx hb d_TX_areTypable_8 rfl (lv_at hl 0 rfl) ?_
          refine pu_calli (va_runS (As := [.long x, .int 2]) (rest := []) ⟨hx, hb, hml, hown, hts⟩ (c_TX_byteOf l dC dI (x) (2)) (wd_S 2 hts k_351 k_2 k_349 k_350 rfl rfl (by decide +kernel) ⟨Nat.le_of_ble_eq_true rfl, Nat.le_of_ble_eq_true rfl⟩) ⟨fun a U g mk q => by obtain ⟨q0, qP, qK, qN⟩ := q; exact ⟨q0, qP, va_K.moved (u := U) (U := U.calling g mk a) (Vm.Alike.refl U.vm) qK, nw_ok.same (s := U) (U := U.calling g mk a) rfl qN⟩, fun U hU hW => ⟨rfl, by rw [hU]; exact hP.sub (ws' := []) [] rfl, va_K.moved hW.alike (hK.sub (tys' := []) [] rfl), nw_ok.warm hW hN⟩⟩ rfl rfl hl.1 rfl (lv_room (Nat.le_of_ble_eq_true rfl)) d_TX_areTypable_9 ⟨Nat.le_of_ble_eq_true rfl, Nat.le_of_ble_eq_true rfl⟩) (fun r3 hr3 => ?_)
          try dsimp only at hr3
          subst hr3
          refine lv_istore hx hb d_TX_areTypable_12 hl (by decide) rfl (fun ls hl => ?_)
          have hl : lv_has ls 5 [(4, .int (bc x 2)), (3, .int 2), (0, .long x), (2, .int 4)] := hl
          refine lv_iload hx hb d_TX_areTypable_14 (lv_at hl 0 rfl) ?_
          refine lv_bipush (v := 32) hx hb d_TX_areTypable_16 (by decide) ?_
          refine lv_icmp_lt (tgt := 28) hx hb d_TX_areTypable_18 (by decide) (fun hc5 => ?_) (fun hc5 => ?_)
          · refine lv_iconst (v := 0) hx hb d_TX_areTypable_28 (by decide) ?_
            exact W.zret (v := 0) (ty := .boolean) hx hb hr (by decide +kernel) (fun t ht hW => ⟨⟨0, (), rfl, rfl, trivial⟩, hS.F ht⟩) hS.2.2 d_TX_areTypable_29
          · refine lv_iload hx hb d_TX_areTypable_21 (lv_at hl 0 rfl) ?_
            refine lv_bipush (v := 126) hx hb d_TX_areTypable_23 (by decide) ?_
            refine lv_icmp_le (tgt := 30) hx hb d_TX_areTypable_25 (by decide) (fun hc6 => ?_) (fun hc6 => ?_)
            · refine lv_iinc (k := 1) (v := 3) hx hb d_TX_areTypable_30 hl rfl (by decide) (by decide) rfl (fun ls hl => ?_)
              have hl : lv_has ls 5 [(3, .int 3), (4, .int (bc x 2)), (0, .long x), (2, .int 4)] := hl
              refine lv_goto (tgt := 2) hx hb d_TX_areTypable_33 (by decide) ?_
              refine lv_iload_n hx hb d_TX_areTypable_2 rfl (lv_at hl 0 rfl) ?_
              refine lv_iload_n hx hb d_TX_areTypable_3 rfl (lv_at hl 3 rfl) ?_
              refine lv_icmp_ge (tgt := 36) hx hb d_TX_areTypable_4 (by decide) (fun h9 => absurd h9 (by decide)) (fun _ => ?_)
              refine lv_lload_n hx hb d_TX_areTypable_7 rfl (lv_at hl 2 rfl) ?_
              refine lv_iload_n hx hb d_TX_areTypable_8 rfl (lv_at hl 0 rfl) ?_
              refine pu_calli (va_runS (As := [.long x, .int 3]) (rest := []) ⟨hx, hb, hml, hown, hts⟩ (c_TX_byteOf l dC dI (x) (3)) (wd_S 2 hts k_351 k_2 k_349 k_350 rfl rfl (by decide +kernel) ⟨Nat.le_of_ble_eq_true rfl, Nat.le_of_ble_eq_true rfl⟩) ⟨fun a U g mk q => by obtain ⟨q0, qP, qK, qN⟩ := q; exact ⟨q0, qP, va_K.moved (u := U) (U := U.calling g mk a) (Vm.Alike.refl U.vm) qK, nw_ok.same (s := U) (U := U.calling g mk a) rfl qN⟩, fun U hU hW => ⟨rfl, by rw [hU]; exact hP.sub (ws' := []) [] rfl, va_K.moved hW.alike (hK.sub (tys' := []) [] rfl), nw_ok.warm hW hN⟩⟩ rfl rfl hl.1 rfl (lv_room (Nat.le_of_ble_eq_true rfl)) d_TX_areTypable_9 ⟨Nat.le_of_ble_eq_true rfl, Nat.le_of_ble_eq_true rfl⟩) (fun r4 hr4 => ?_)
              try dsimp only at hr4
              subst hr4
              refine lv_istore hx hb d_TX_areTypable_12 hl (by decide) rfl (fun ls hl => ?_)
              have hl : lv_has ls 5 [(4, .int (bc x 3)), (3, .int 3), (0, .long x), (2, .int 4)] := hl
              refine lv_iload hx hb d_TX_areTypable_14 (lv_at hl 0 rfl) ?_
              refine lv_bipush (v := 32) hx hb d_TX_areTypable_16 (by decide) ?_
              refine lv_icmp_lt (tgt := 28) hx hb d_TX_areTypable_18 (by decide) (fun hc7 => ?_) (fun hc7 => ?_)
              · refine lv_iconst (v := 0) hx hb d_TX_areTypable_28 (by decide) ?_
                exact W.zret (v := 0) (ty := .boolean) hx hb hr (by decide +kernel) (fun t ht hW => ⟨⟨0, (), rfl, rfl, trivial⟩, hS.F ht⟩) hS.2.2 d_TX_areTypable_29
              · refine lv_iload hx hb d_TX_areTypable_21 (lv_at hl 0 rfl) ?_
                refine lv_bipush (v := 126) hx hb d_TX_areTypable_23 (by decide) ?_
                refine lv_icmp_le (tgt := 30) hx hb d_TX_areTypable_25 (by decide) (fun hc8 => ?_) (fun hc8 => ?_)
                · refine lv_iinc (k := 1) (v := 4) hx hb d_TX_areTypable_30 hl rfl (by decide) (by decide) rfl (fun ls hl => ?_)
                  have hl : lv_has ls 5 [(3, .int 4), (4, .int (bc x 3)), (0, .long x), (2, .int 4)] := hl
                  refine lv_goto (tgt := 2) hx hb d_TX_areTypable_33 (by decide) ?_
                  refine lv_iload_n hx hb d_TX_areTypable_2 rfl (lv_at hl 0 rfl) ?_
                  refine lv_iload_n hx hb d_TX_areTypable_3 rfl (lv_at hl 3 rfl) ?_
                  refine lv_icmp_ge (tgt := 36) hx hb d_TX_areTypable_4 (by decide) (fun _ => ?_) (fun h9 => absurd (by decide) h9)
                  exact absurd ⟨okc (d := 0) (by decide) hc1 hc2, okc (d := 8) (by decide) hc3 hc4, okc (d := 16) (by decide) hc5 hc6, okc (d := 24) (by decide) hc7 hc8⟩ g
                · refine lv_iconst (v := 0) hx hb d_TX_areTypable_28 (by decide) ?_
                  exact W.zret (v := 0) (ty := .boolean) hx hb hr (by decide +kernel) (fun t ht hW => ⟨⟨0, (), rfl, rfl, trivial⟩, hS.F ht⟩) hS.2.2 d_TX_areTypable_29
            · refine lv_iconst (v := 0) hx hb d_TX_areTypable_28 (by decide) ?_
              exact W.zret (v := 0) (ty := .boolean) hx hb hr (by decide +kernel) (fun t ht hW => ⟨⟨0, (), rfl, rfl, trivial⟩, hS.F ht⟩) hS.2.2 d_TX_areTypable_29
        · refine lv_iconst (v := 0) hx hb d_TX_areTypable_28 (by decide) ?_
          exact W.zret (v := 0) (ty := .boolean) hx hb hr (by decide +kernel) (fun t ht hW => ⟨⟨0, (), rfl, rfl, trivial⟩, hS.F ht⟩) hS.2.2 d_TX_areTypable_29
    · refine lv_iconst (v := 0) hx hb d_TX_areTypable_28 (by decide) ?_
      exact W.zret (v := 0) (ty := .boolean) hx hb hr (by decide +kernel) (fun t ht hW => ⟨⟨0, (), rfl, rfl, trivial⟩, hS.F ht⟩) hS.2.2 d_TX_areTypable_29

set_option maxHeartbeats 4000000 in
set_option maxRecDepth 100000 in
theorem c_TX_areTypable_5y (l : Launch) (dC : Nat → ClassId) (dI : Nat → Nat → Nat) (x : Int64) (g : ok x 0 ∧ ok x 8 ∧ ok x 16 ∧ ok x 24 ∧ ok x 32) : Met l y_TX_areTypable (Cond.code y_TX_areTypable b_TX_areTypable 5 (Option.some Jvm.ClassFile.FieldType.boolean) :: wd) { frames := 1, cells := 0, slots := 0, locals := 22 } (va_Pc [.long x, .int 5] (fun U => va_P (dC, dI) cls [] U.heap ∧ va_K (dC, dI) cls [] U ∧ nw_ok U)) (va_Qi (fun r (_ : Unit) => r = 1) (fun _ _ => True) (fun _ => False)) 0 0 (fun _ => False) := by
  refine Met.ofW (cc := b_TX_areTypable) (maxL := 5) (ret := (Option.some Jvm.ClassFile.FieldType.boolean)) (by decide) rfl ?_
  intro p e s m args below meth c s₁ B hml hv
  obtain ⟨rfl, hP, hK, hN⟩ := hv
  have hx := B.exec
  have hb := B.bytes
  have hr := B.returns
  have hlocks := B.notSynchronized
  have hts : ∀ w ∈ wd, w.before ([.long x, .int 5] : List Value).toArray s = true := fun w hw => atoms_spec (ws := (Cond.code y_TX_areTypable b_TX_areTypable 5 (Option.some Jvm.ClassFile.FieldType.boolean) :: wd)) B.pre w (List.mem_cons_of_mem _ hw)
  have hown : s.vm.findClass "LeastSolutions$Text" = some m.cls := findClass_of_methodNamed B.named
  have hS : va_S (fun _ => False) s.heap s.heap [] := va_S.rf
  have hl := lv_entry ([.long x, .int 5]) (n := 5) (Nat.le_of_ble_eq_true rfl)
  rw [lg_entry_eq]
  generalize (lg_sl ([.long x, .int 5]) ++ List.replicate (5 - (lg_sl ([.long x, .int 5])).length) Slot.unset).toArray = ls at hl ⊢
  have hl : lv_has ls 5 [(0, .long x), (2, .int 5)] := hl
  refine lv_iconst (v := 0) hx hb d_TX_areTypable_0 (by decide) ?_
  refine lv_istore_n hx hb d_TX_areTypable_1 rfl hl (by decide) rfl (fun ls hl => ?_)
  have hl : lv_has ls 5 [(3, .int 0), (0, .long x), (2, .int 5)] := hl
  refine lv_iload_n hx hb d_TX_areTypable_2 rfl (lv_at hl 0 rfl) ?_
  refine lv_iload_n hx hb d_TX_areTypable_3 rfl (lv_at hl 2 rfl) ?_
  refine lv_icmp_ge (tgt := 36) hx hb d_TX_areTypable_4 (by decide) (fun h9 => absurd h9 (by decide)) (fun _ => ?_)
  refine lv_lload_n hx hb d_TX_areTypable_7 rfl (lv_at hl 1 rfl) ?_
  refine lv_iload_n hx hb d_TX_areTypable_8 rfl (lv_at hl 0 rfl) ?_
  refine pu_calli (va_runS (As := [.long x, .int 0]) (rest := []) ⟨hx, hb, hml, hown, hts⟩ (c_TX_byteOf l dC dI (x) (0)) (wd_S 2 hts k_351 k_2 k_349 k_350 rfl rfl (by decide +kernel) ⟨Nat.le_of_ble_eq_true rfl, Nat.le_of_ble_eq_true rfl⟩) ⟨fun a U g mk q => by obtain ⟨q0, qP, qK, qN⟩ := q; exact ⟨q0, qP, va_K.moved (u := U) (U := U.calling g mk a) (Vm.Alike.refl U.vm) qK, nw_ok.same (s := U) (U := U.calling g mk a) rfl qN⟩, fun U hU hW => ⟨rfl, by rw [hU]; exact hP.sub (ws' := []) [] rfl, va_K.moved hW.alike (hK.sub (tys' := []) [] rfl), nw_ok.warm hW hN⟩⟩ rfl rfl hl.1 rfl (lv_room (Nat.le_of_ble_eq_true rfl)) d_TX_areTypable_9 ⟨Nat.le_of_ble_eq_true rfl, Nat.le_of_ble_eq_true rfl⟩) (fun r1 hr1 => ?_)
  try dsimp only at hr1
  subst hr1
  refine lv_istore hx hb d_TX_areTypable_12 hl (by decide) rfl (fun ls hl => ?_)
  have hl : lv_has ls 5 [(4, .int (bc x 0)), (3, .int 0), (0, .long x), (2, .int 5)] := hl
  refine lv_iload hx hb d_TX_areTypable_14 (lv_at hl 0 rfl) ?_
  refine lv_bipush (v := 32) hx hb d_TX_areTypable_16 (by decide) ?_
  refine lv_icmp_lt (tgt := 28) hx hb d_TX_areTypable_18 (by decide) (fun h9 => absurd h9 (okc1 (d := 0) (by decide) (g.1))) (fun _ => ?_)
  refine lv_iload hx hb d_TX_areTypable_21 (lv_at hl 0 rfl) ?_
  refine lv_bipush (v := 126) hx hb d_TX_areTypable_23 (by decide) ?_
  refine lv_icmp_le (tgt := 30) hx hb d_TX_areTypable_25 (by decide) (fun _ => ?_) (fun h9 => absurd (okc2 (d := 0) (by decide) (g.1)) h9)
  refine lv_iinc (k := 1) (v := 1) hx hb d_TX_areTypable_30 hl rfl (by decide) (by decide) rfl (fun ls hl => ?_)
  have hl : lv_has ls 5 [(3, .int 1), (4, .int (bc x 0)), (0, .long x), (2, .int 5)] := hl
  refine lv_goto (tgt := 2) hx hb d_TX_areTypable_33 (by decide) ?_
  refine lv_iload_n hx hb d_TX_areTypable_2 rfl (lv_at hl 0 rfl) ?_
  refine lv_iload_n hx hb d_TX_areTypable_3 rfl (lv_at hl 3 rfl) ?_
  refine lv_icmp_ge (tgt := 36) hx hb d_TX_areTypable_4 (by decide) (fun h9 => absurd h9 (by decide)) (fun _ => ?_)
  refine lv_lload_n hx hb d_TX_areTypable_7 rfl (lv_at hl 2 rfl) ?_
  refine lv_iload_n hx hb d_TX_areTypable_8 rfl (lv_at hl 0 rfl) ?_
  refine pu_calli (va_runS (As := [.long x, .int 1]) (rest := []) ⟨hx, hb, hml, hown, hts⟩ (c_TX_byteOf l dC dI (x) (1)) (wd_S 2 hts k_351 k_2 k_349 k_350 rfl rfl (by decide +kernel) ⟨Nat.le_of_ble_eq_true rfl, Nat.le_of_ble_eq_true rfl⟩) ⟨fun a U g mk q => by obtain ⟨q0, qP, qK, qN⟩ := q; exact ⟨q0, qP, va_K.moved (u := U) (U := U.calling g mk a) (Vm.Alike.refl U.vm) qK, nw_ok.same (s := U) (U := U.calling g mk a) rfl qN⟩, fun U hU hW => ⟨rfl, by rw [hU]; exact hP.sub (ws' := []) [] rfl, va_K.moved hW.alike (hK.sub (tys' := []) [] rfl), nw_ok.warm hW hN⟩⟩ rfl rfl hl.1 rfl (lv_room (Nat.le_of_ble_eq_true rfl)) d_TX_areTypable_9 ⟨Nat.le_of_ble_eq_true rfl, Nat.le_of_ble_eq_true rfl⟩) (fun r2 hr2 => ?_)
  try dsimp only at hr2
  subst hr2
  refine lv_istore hx hb d_TX_areTypable_12 hl (by decide) rfl (fun ls hl => ?_)
  have hl : lv_has ls 5 [(4, .int (bc x 1)), (3, .int 1), (0, .long x), (2, .int 5)] := hl
  refine lv_iload hx hb d_TX_areTypable_14 (lv_at hl 0 rfl) ?_
  refine lv_bipush (v := 32) hx hb d_TX_areTypable_16 (by decide) ?_
  refine lv_icmp_lt (tgt := 28) hx hb d_TX_areTypable_18 (by decide) (fun h9 => absurd h9 (okc1 (d := 8) (by decide) (g.2.1))) (fun _ => ?_)
  refine lv_iload hx hb d_TX_areTypable_21 (lv_at hl 0 rfl) ?_
  refine lv_bipush (v := 126) hx hb d_TX_areTypable_23 (by decide) ?_
  refine lv_icmp_le (tgt := 30) hx hb d_TX_areTypable_25 (by decide) (fun _ => ?_) (fun h9 => absurd (okc2 (d := 8) (by decide) (g.2.1)) h9)
  refine lv_iinc (k := 1) (v := 2) hx hb d_TX_areTypable_30 hl rfl (by decide) (by decide) rfl (fun ls hl => ?_)
  have hl : lv_has ls 5 [(3, .int 2), (4, .int (bc x 1)), (0, .long x), (2, .int 5)] := hl
  refine lv_goto (tgt := 2) hx hb d_TX_areTypable_33 (by decide) ?_
  refine lv_iload_n hx hb d_TX_areTypable_2 rfl (lv_at hl 0 rfl) ?_
  refine lv_iload_n hx hb d_TX_areTypable_3 rfl (lv_at hl 3 rfl) ?_
  refine lv_icmp_ge (tgt := 36) hx hb d_TX_areTypable_4 (by decide) (fun h9 => absurd h9 (by decide)) (fun _ => ?_)
  refine lv_lload_n hx hb d_TX_areTypable_7 rfl (lv_at hl 2 rfl) ?_
  refine lv_iload_n hx hb d_TX_areTypable_8 rfl (lv_at hl 0 rfl) ?_
  refine pu_calli (va_runS (As := [.long x, .int 2]) (rest := []) ⟨hx, hb, hml, hown, hts⟩ (c_TX_byteOf l dC dI (x) (2)) (wd_S 2 hts k_351 k_2 k_349 k_350 rfl rfl (by decide +kernel) ⟨Nat.le_of_ble_eq_true rfl, Nat.le_of_ble_eq_true rfl⟩) ⟨fun a U g mk q => by obtain ⟨q0, qP, qK, qN⟩ := q; exact ⟨q0, qP, va_K.moved (u := U) (U := U.calling g mk a) (Vm.Alike.refl U.vm) qK, nw_ok.same (s := U) (U := U.calling g mk a) rfl qN⟩, fun U hU hW => ⟨rfl, by rw [hU]; exact hP.sub (ws' := []) [] rfl, va_K.moved hW.alike (hK.sub (tys' := []) [] rfl), nw_ok.warm hW hN⟩⟩ rfl rfl hl.1 rfl (lv_room (Nat.le_of_ble_eq_true rfl)) d_TX_areTypable_9 ⟨Nat.le_of_ble_eq_true rfl, Nat.le_of_ble_eq_true rfl⟩) (fun r3 hr3 => ?_)
  try dsimp only at hr3
  subst hr3
  refine lv_istore hx hb d_TX_areTypable_12 hl (by decide) rfl (fun ls hl => ?_)
  have hl : lv_has ls 5 [(4, .int (bc x 2)), (3, .int 2), (0, .long x), (2, .int 5)] := hl
  refine lv_iload hx hb d_TX_areTypable_14 (lv_at hl 0 rfl) ?_
  refine lv_bipush (v := 32) hx hb d_TX_areTypable_16 (by decide) ?_
  refine lv_icmp_lt (tgt := 28) hx hb d_TX_areTypable_18 (by decide) (fun h9 => absurd h9 (okc1 (d := 16) (by decide) (g.2.2.1))) (fun _ => ?_)
  refine lv_iload hx hb d_TX_areTypable_21 (lv_at hl 0 rfl) ?_
  refine lv_bipush (v := 126) hx hb d_TX_areTypable_23 (by decide) ?_
  refine lv_icmp_le (tgt := 30) hx hb d_TX_areTypable_25 (by decide) (fun _ => ?_) (fun h9 => absurd (okc2 (d := 16) (by decide) (g.2.2.1)) h9)
  refine lv_iinc (k := 1) (v := 3) hx hb d_TX_areTypable_30 hl rfl (by decide) (by decide) rfl (fun ls hl => ?_)
  have hl : lv_has ls 5 [(3, .int 3), (4, .int (bc x 2)), (0, .long x), (2, .int 5)] := hl
  refine lv_goto (tgt := 2) hx hb d_TX_areTypable_33 (by decide) ?_
  refine lv_iload_n hx hb d_TX_areTypable_2 rfl (lv_at hl 0 rfl) ?_
  refine lv_iload_n hx hb d_TX_areTypable_3 rfl (lv_at hl 3 rfl) ?_
  refine lv_icmp_ge (tgt := 36) hx hb d_TX_areTypable_4 (by decide) (fun h9 => absurd h9 (by decide)) (fun _ => ?_)
  refine lv_lload_n hx hb d_TX_areTypable_7 rfl (lv_at hl 2 rfl) ?_
  refine lv_iload_n hx hb d_TX_areTypable_8 rfl (lv_at hl 0 rfl) ?_
  refine pu_calli (va_runS (As := [.long x, .int 3]) (rest := []) ⟨hx, hb, hml, hown, hts⟩ (c_TX_byteOf l dC dI (x) (3)) (wd_S 2 hts k_351 k_2 k_349 k_350 rfl rfl (by decide +kernel) ⟨Nat.le_of_ble_eq_true rfl, Nat.le_of_ble_eq_true rfl⟩) ⟨fun a U g mk q => by obtain ⟨q0, qP, qK, qN⟩ := q; exact ⟨q0, qP, va_K.moved (u := U) (U := U.calling g mk a) (Vm.Alike.refl U.vm) qK, nw_ok.same (s := U) (U := U.calling g mk a) rfl qN⟩, fun U hU hW => ⟨rfl, by rw [hU]; exact hP.sub (ws' := []) [] rfl, va_K.moved hW.alike (hK.sub (tys' := []) [] rfl), nw_ok.warm hW hN⟩⟩ rfl rfl hl.1 rfl (lv_room (Nat.le_of_ble_eq_true rfl)) d_TX_areTypable_9 ⟨Nat.le_of_ble_eq_true rfl, Nat.le_of_ble_eq_true rfl⟩) (fun r4 hr4 => ?_)
  try dsimp only at hr4
  subst hr4
  refine lv_istore hx hb d_TX_areTypable_12 hl (by decide) rfl (fun ls hl => ?_)
  have hl : lv_has ls 5 [(4, .int (bc x 3)), (3, .int 3), (0, .long x), (2, .int 5)] := hl
  refine lv_iload hx hb d_TX_areTypable_14 (lv_at hl 0 rfl) ?_
  refine lv_bipush (v := 32) hx hb d_TX_areTypable_16 (by decide) ?_
  refine lv_icmp_lt (tgt := 28) hx hb d_TX_areTypable_18 (by decide) (fun h9 => absurd h9 (okc1 (d := 24) (by decide) (g.2.2.2.1))) (fun _ => ?_)
  refine lv_iload hx hb d_TX_areTypable_21 (lv_at hl 0 rfl) ?_
  refine lv_bipush (v := 126) hx hb d_TX_areTypable_23 (by decide) ?_
  refine lv_icmp_le (tgt := 30) hx hb d_TX_areTypable_25 (by decide) (fun _ => ?_) (fun h9 => absurd (okc2 (d := 24) (by decide) (g.2.2.2.1)) h9)
  refine lv_iinc (k := 1) (v := 4) hx hb d_TX_areTypable_30 hl rfl (by decide) (by decide) rfl (fun ls hl => ?_)
  have hl : lv_has ls 5 [(3, .int 4), (4, .int (bc x 3)), (0, .long x), (2, .int 5)] := hl
  refine lv_goto (tgt := 2) hx hb d_TX_areTypable_33 (by decide) ?_
  refine lv_iload_n hx hb d_TX_areTypable_2 rfl (lv_at hl 0 rfl) ?_
  refine lv_iload_n hx hb d_TX_areTypable_3 rfl (lv_at hl 3 rfl) ?_
  refine lv_icmp_ge (tgt := 36) hx hb d_TX_areTypable_4 (by decide) (fun h9 => absurd h9 (by decide)) (fun _ => ?_)
  refine lv_lload_n hx hb d_TX_areTypable_7 rfl (lv_at hl 2 rfl) ?_
  refine lv_iload_n hx hb d_TX_areTypable_8 rfl (lv_at hl 0 rfl) ?_
  refine pu_calli (va_runS (As := [.long x, .int 4]) (rest := []) ⟨hx, hb, hml, hown, hts⟩ (c_TX_byteOf l dC dI (x) (4)) (wd_S 2 hts k_351 k_2 k_349 k_350 rfl rfl (by decide +kernel) ⟨Nat.le_of_ble_eq_true rfl, Nat.le_of_ble_eq_true rfl⟩) ⟨fun a U g mk q => by obtain ⟨q0, qP, qK, qN⟩ := q; exact ⟨q0, qP, va_K.moved (u := U) (U := U.calling g mk a) (Vm.Alike.refl U.vm) qK, nw_ok.same (s := U) (U := U.calling g mk a) rfl qN⟩, fun U hU hW => ⟨rfl, by rw [hU]; exact hP.sub (ws' := []) [] rfl, va_K.moved hW.alike (hK.sub (tys' := []) [] rfl), nw_ok.warm hW hN⟩⟩ rfl rfl hl.1 rfl (lv_room (Nat.le_of_ble_eq_true rfl)) d_TX_areTypable_9 ⟨Nat.le_of_ble_eq_true rfl, Nat.le_of_ble_eq_true rfl⟩) (fun r5 hr5 => ?_)
  try dsimp only at hr5
  subst hr5
  refine lv_istore hx hb d_TX_areTypable_12 hl (by decide) rfl (fun ls hl => ?_)
  have hl : lv_has ls 5 [(4, .int (bc x 4)), (3, .int 4), (0, .long x), (2, .int 5)] := hl
  refine lv_iload hx hb d_TX_areTypable_14 (lv_at hl 0 rfl) ?_
  refine lv_bipush (v := 32) hx hb d_TX_areTypable_16 (by decide) ?_
  refine lv_icmp_lt (tgt := 28) hx hb d_TX_areTypable_18 (by decide) (fun h9 => absurd h9 (okc1 (d := 32) (by decide) (g.2.2.2.2))) (fun _ => ?_)
  refine lv_iload hx hb d_TX_areTypable_21 (lv_at hl 0 rfl) ?_
  refine lv_bipush (v := 126) hx hb d_TX_areTypable_23 (by decide) ?_
  refine lv_icmp_le (tgt := 30) hx hb d_TX_areTypable_25 (by decide) (fun _ => ?_) (fun h9 => absurd (okc2 (d := 32) (by decide) (g.2.2.2.2)) h9)
  refine lv_iinc (k := 1) (v := 5) hx hb d_TX_areTypable_30 hl rfl (by decide) (by decide) rfl (fun ls hl => ?_)
  have hl : lv_has ls 5 [(3, .int 5), (4, .int (bc x 4)), (0, .long x), (2, .int 5)] := hl
  refine lv_goto (tgt := 2) hx hb d_TX_areTypable_33 (by decide) ?_
  refine lv_iload_n hx hb d_TX_areTypable_2 rfl (lv_at hl 0 rfl) ?_
  refine lv_iload_n hx hb d_TX_areTypable_3 rfl (lv_at hl 3 rfl) ?_
  refine lv_icmp_ge (tgt := 36) hx hb d_TX_areTypable_4 (by decide) (fun _ => ?_) (fun h9 => absurd (by decide) h9)
  refine lv_iconst (v := 1) hx hb d_TX_areTypable_36 (by decide) ?_
  exact W.zret (v := 1) (ty := .boolean) hx hb hr (by decide +kernel) (fun t ht hW => ⟨⟨1, (), rfl, rfl, trivial⟩, hS.F ht⟩) hS.2.2 d_TX_areTypable_37

set_option maxHeartbeats 4000000 in
set_option maxRecDepth 100000 in
theorem c_TX_areTypable_5n (l : Launch) (dC : Nat → ClassId) (dI : Nat → Nat → Nat) (x : Int64) (g : ¬ (ok x 0 ∧ ok x 8 ∧ ok x 16 ∧ ok x 24 ∧ ok x 32)) : Met l y_TX_areTypable (Cond.code y_TX_areTypable b_TX_areTypable 5 (Option.some Jvm.ClassFile.FieldType.boolean) :: wd) { frames := 1, cells := 0, slots := 0, locals := 22 } (va_Pc [.long x, .int 5] (fun U => va_P (dC, dI) cls [] U.heap ∧ va_K (dC, dI) cls [] U ∧ nw_ok U)) (va_Qi (fun r (_ : Unit) => r = 0) (fun _ _ => True) (fun _ => False)) 0 0 (fun _ => False) := by
  refine Met.ofW (cc := b_TX_areTypable) (maxL := 5) (ret := (Option.some Jvm.ClassFile.FieldType.boolean)) (by decide) rfl ?_
  intro p e s m args below meth c s₁ B hml hv
  obtain ⟨rfl, hP, hK, hN⟩ := hv
  have hx := B.exec
  have hb := B.bytes
  have hr := B.returns
  have hlocks := B.notSynchronized
  have hts : ∀ w ∈ wd, w.before ([.long x, .int 5] : List Value).toArray s = true := fun w hw => atoms_spec (ws := (Cond.code y_TX_areTypable b_TX_areTypable 5 (Option.some Jvm.ClassFile.FieldType.boolean) :: wd)) B.pre w (List.mem_cons_of_mem _ hw)
  have hown : s.vm.findClass "LeastSolutions$Text" = some m.cls := findClass_of_methodNamed B.named
  have hS : va_S (fun _ => False) s.heap s.heap [] := va_S.rf
  have hl := lv_entry ([.long x, .int 5]) (n := 5) (Nat.le_of_ble_eq_true rfl)
  rw [lg_entry_eq]
  generalize (lg_sl ([.long x, .int 5]) ++ List.replicate (5 - (lg_sl ([.long x, .int 5])).length) Slot.unset).toArray = ls at hl ⊢
  have hl : lv_has ls 5 [(0, .long x), (2, .int 5)] := hl
  refine lv_iconst (v := 0) hx hb d_TX_areTypable_0 (by decide) ?_
  refine lv_istore_n hx hb d_TX_areTypable_1 rfl hl (by decide) rfl (fun ls hl => ?_)
  have hl : lv_has ls 5 [(3, .int 0), (0, .long x), (2, .int 5)] := hl
  refine lv_iload_n hx hb d_TX_areTypable_2 rfl (lv_at hl 0 rfl) ?_
  refine lv_iload_n hx hb d_TX_areTypable_3 rfl (lv_at hl 2 rfl) ?_
  refine lv_icmp_ge (tgt := 36) hx hb d_TX_areTypable_4 (by decide) (fun h9 => absurd h9 (by decide)) (fun _ => ?_)
  refine lv_lload_n hx hb d_TX_areTypable_7 rfl (lv_at hl 1 rfl) ?_
  refine lv_iload_n hx hb d_TX_areTypable_8 rfl (lv_at hl 0 rfl) ?_
  refine pu_calli (va_runS (As := [.long x, .int 0]) (rest := []) ⟨hx, hb, hml, hown, hts⟩ (c_TX_byteOf l dC dI (x) (0)) (wd_S 2 hts k_351 k_2 k_349 k_350 rfl rfl (by decide +kernel) ⟨Nat.le_of_ble_eq_true rfl, Nat.le_of_ble_eq_true rfl⟩) ⟨fun a U g mk q => by obtain ⟨q0, qP, qK, qN⟩ := q; exact ⟨q0, qP, va_K.moved (u := U) (U := U.calling g mk a) (Vm.Alike.refl U.vm) qK, nw_ok.same (s := U) (U := U.calling g mk a) rfl qN⟩, fun U hU hW => ⟨rfl, by rw [hU]; exact hP.sub (ws' := []) [] rfl, va_K.moved hW.alike (hK.sub (tys' := []) [] rfl), nw_ok.warm hW hN⟩⟩ rfl rfl hl.1 rfl (lv_room (Nat.le_of_ble_eq_true rfl)) d_TX_areTypable_9 ⟨Nat.le_of_ble_eq_true rfl, Nat.le_of_ble_eq_true rfl⟩) (fun r1 hr1 => ?_)
  try dsimp only at hr1
  subst hr1
  refine lv_istore hx hb d_TX_areTypable_12 hl (by decide) rfl (fun ls hl => ?_)
  have hl : lv_has ls 5 [(4, .int (bc x 0)), (3, .int 0), (0, .long x), (2, .int 5)] := hl
  refine lv_iload hx hb d_TX_areTypable_14 (lv_at hl 0 rfl) ?_
  refine lv_bipush (v := 32) hx hb d_TX_areTypable_16 (by decide) ?_
  refine lv_icmp_lt (tgt := 28) hx hb d_TX_areTypable_18 (by decide) (fun hc1 => ?_) (fun hc1 => ?_)
  · refine lv_iconst (v := 0) hx hb d_TX_areTypable_28 (by decide) ?_
    exact W.zret (v := 0) (ty := .boolean) hx hb hr (by decide +kernel) (fun t ht hW => ⟨⟨0, (), rfl, rfl, trivial⟩, hS.F ht⟩) hS.2.2 d_TX_areTypable_29
  · refine lv_iload hx hb d_TX_areTypable_21 (lv_at hl 0 rfl) ?_
    refine lv_bipush (v := 126) hx hb d_TX_areTypable_23 (by decide) ?_
    refine lv_icmp_le (tgt := 30) hx hb d_TX_areTypable_25 (by decide) (fun hc2 => ?_) (fun hc2 => ?_)
    · refine lv_iinc (k := 1) (v := 1) hx hb d_TX_areTypable_30 hl rfl (by decide) (by decide) rfl (fun ls hl => ?_)
      have hl : lv_has ls 5 [(3, .int 1), (4, .int (bc x 0)), (0, .long x), (2, .int 5)] := hl
      refine lv_goto (tgt := 2) hx hb d_TX_areTypable_33 (by decide) ?_
      refine lv_iload_n hx hb d_TX_areTypable_2 rfl (lv_at hl 0 rfl) ?_
      refine lv_iload_n hx hb d_TX_areTypable_3 rfl (lv_at hl 3 rfl) ?_
      refine lv_icmp_ge (tgt := 36) hx hb d_TX_areTypable_4 (by decide) (fun h9 => absurd h9 (by decide)) (fun _ => ?_)
      refine lv_lload_n hx hb d_TX_areTypable_7 rfl (lv_at hl 2 rfl) ?_
      refine lv_iload_n hx hb d_TX_areTypable_8 rfl (lv_at hl 0 rfl) ?_
      refine pu_calli (va_runS (As := [.long x, .int 1]) (rest := []) ⟨hx, hb, hml, hown, hts⟩ (c_TX_byteOf l dC dI (x) (1)) (wd_S 2 hts k_351 k_2 k_349 k_350 rfl rfl (by decide +kernel) ⟨Nat.le_of_ble_eq_true rfl, Nat.le_of_ble_eq_true rfl⟩) ⟨fun a U g mk q => by obtain ⟨q0, qP, qK, qN⟩ := q; exact ⟨q0, qP, va_K.moved (u := U) (U := U.calling g mk a) (Vm.Alike.refl U.vm) qK, nw_ok.same (s := U) (U := U.calling g mk a) rfl qN⟩, fun U hU hW => ⟨rfl, by rw [hU]; exact hP.sub (ws' := []) [] rfl, va_K.moved hW.alike (hK.sub (tys' := []) [] rfl), nw_ok.warm hW hN⟩⟩ rfl rfl hl.1 rfl (lv_room (Nat.le_of_ble_eq_true rfl)) d_TX_areTypable_9 ⟨Nat.le_of_ble_eq_true rfl, Nat.le_of_ble_eq_true rfl⟩) (fun r2 hr2 => ?_)
      try dsimp only at hr2
      subst hr2
      refine lv_istore hx hb d_TX_areTypable_12 hl (by decide) rfl (fun ls hl => ?_)
      have hl : lv_has ls 5 [(4, .int (bc x 1)), (3, .int 1), (0, .long x), (2, .int 5)] := hl
      refine lv_iload hx hb d_TX_areTypable_14 (lv_at hl 0 rfl) ?_
      refine lv_bipush (v := 32) hx hb d_TX_areTypable_16 (by decide) ?_
      refine lv_icmp_lt (tgt := 28) hx hb d_TX_areTypable_18 (by decide) (fun hc3 => ?_) (fun hc3 => ?_)
      · refine lv_iconst (v := 0) hx hb d_TX_areTypable_28 (by decide) ?_
        exact W.zret (v := 0) (ty := .boolean) hx hb hr (by decide +kernel) (fun t ht hW => ⟨⟨0, (), rfl, rfl, trivial⟩, hS.F ht⟩) hS.2.2 d_TX_areTypable_29
      · refine lv_iload hx hb d_TX_areTypable_21 (lv_at hl 0 rfl) ?_
        refine lv_bipush (v := 126) hx hb d_TX_areTypable_23 (by decide) ?_
        refine lv_icmp_le (tgt := 30) hx hb d_TX_areTypable_25 (by decide) (fun hc4 => ?_) (fun hc4 => ?_)
        · refine lv_iinc (k := 1) (v := 2) hx hb d_TX_areTypable_30 hl rfl (by decide) (by decide) rfl (fun ls hl => ?_)
          have hl : lv_has ls 5 [(3, .int 2), (4, .int (bc x 1)), (0, .long x), (2, .int 5)] := hl
          refine lv_goto (tgt := 2) hx hb d_TX_areTypable_33 (by decide) ?_
          refine lv_iload_n hx hb d_TX_areTypable_2 rfl (lv_at hl 0 rfl) ?_
          refine lv_iload_n hx hb d_TX_areTypable_3 rfl (lv_at hl 3 rfl) ?_
          refine lv_icmp_ge (tgt := 36) hx hb d_TX_areTypable_4 (by decide) (fun h9 => absurd h9 (by decide)) (fun _ => ?_)
          refine lv_lload_n hx hb d_TX_areTypable_7 rfl (lv_at hl 2 rfl) ?_
          refine lv_iload_n hx hb d_TX_areTypable_8 rfl (lv_at hl 0 rfl) ?_
          refine pu_calli (va_runS (As := [.long x, .int 2]) (rest := []) ⟨hx, hb, hml, hown, hts⟩ (c_TX_byteOf l dC dI (x) (2)) (wd_S 2 hts k_351 k_2 k_349 k_350 rfl rfl (by decide +kernel) ⟨Nat.le_of_ble_eq_true rfl, Nat.le_of_ble_eq_true rfl⟩) ⟨fun a U g mk q => by obtain ⟨q0, qP, qK, qN⟩ := q; exact ⟨q0, qP, va_K.moved (u := U) (U := U.calling g mk a) (Vm.Alike.refl U.vm) qK, nw_ok.same (s := U) (U := U.calling g mk a) rfl qN⟩, fun U hU hW => ⟨rfl, by rw [hU]; exact hP.sub (ws' := []) [] rfl, va_K.moved hW.alike (hK.sub (tys' := []) [] rfl), nw_ok.warm hW hN⟩⟩ rfl rfl hl.1 rfl (lv_room (Nat.le_of_ble_eq_true rfl)) d_TX_areTypable_9 ⟨Nat.le_of_ble_eq_true rfl, Nat.le_of_ble_eq_true rfl⟩) (fun r3 hr3 => ?_)
          try dsimp only at hr3
          subst hr3
          refine lv_istore hx hb d_TX_areTypable_12 hl (by decide) rfl (fun ls hl => ?_)
          have hl : lv_has ls 5 [(4, .int (bc x 2)), (3, .int 2), (0, .long x), (2, .int 5)] := hl
          refine lv_iload hx hb d_TX_areTypable_14 (lv_at hl 0 rfl) ?_
          refine lv_bipush (v := 32) hx hb d_TX_areTypable_16 (by decide) ?_
          refine lv_icmp_lt (tgt := 28) hx hb d_TX_areTypable_18 (by decide) (fun hc5 => ?_) (fun hc5 => ?_)
          · refine lv_iconst (v := 0) hx hb d_TX_areTypable_28 (by decide) ?_
            exact W.zret (v := 0) (ty := .boolean) hx hb hr (by decide +kernel) (fun t ht hW => ⟨⟨0, (), rfl, rfl, trivial⟩, hS.F ht⟩) hS.2.2 d_TX_areTypable_29
          · refine lv_iload hx hb d_TX_areTypable_21 (lv_at hl 0 rfl) ?_
            refine lv_bipush (v := 126) hx hb d_TX_areTypable_23 (by decide) ?_
            refine lv_icmp_le (tgt := 30) hx hb d_TX_areTypable_25 (by decide) (fun hc6 => ?_) (fun hc6 => ?_)
            · refine lv_iinc (k := 1) (v := 3) hx hb d_TX_areTypable_30 hl rfl (by decide) (by decide) rfl (fun ls hl => ?_)
              have hl : lv_has ls 5 [(3, .int 3), (4, .int (bc x 2)), (0, .long x), (2, .int 5)] := hl
              refine lv_goto (tgt := 2) hx hb d_TX_areTypable_33 (by decide) ?_
              refine lv_iload_n hx hb d_TX_areTypable_2 rfl (lv_at hl 0 rfl) ?_
              refine lv_iload_n hx hb d_TX_areTypable_3 rfl (lv_at hl 3 rfl) ?_
              refine lv_icmp_ge (tgt := 36) hx hb d_TX_areTypable_4 (by decide) (fun h9 => absurd h9 (by decide)) (fun _ => ?_)
              refine lv_lload_n hx hb d_TX_areTypable_7 rfl (lv_at hl 2 rfl) ?_
              refine lv_iload_n hx hb d_TX_areTypable_8 rfl (lv_at hl 0 rfl) ?_
              refine pu_calli (va_runS (As := [.long x, .int 3]) (rest := []) ⟨hx, hb, hml, hown, hts⟩ (c_TX_byteOf l dC dI (x) (3)) (wd_S 2 hts k_351 k_2 k_349 k_350 rfl rfl (by decide +kernel) ⟨Nat.le_of_ble_eq_true rfl, Nat.le_of_ble_eq_true rfl⟩) ⟨fun a U g mk q => by obtain ⟨q0, qP, qK, qN⟩ := q; exact ⟨q0, qP, va_K.moved (u := U) (U := U.calling g mk a) (Vm.Alike.refl U.vm) qK, nw_ok.same (s := U) (U := U.calling g mk a) rfl qN⟩, fun U hU hW => ⟨rfl, by rw [hU]; exact hP.sub (ws' := []) [] rfl, va_K.moved hW.alike (hK.sub (tys' := []) [] rfl), nw_ok.warm hW hN⟩⟩ rfl rfl hl.1 rfl (lv_room (Nat.le_of_ble_eq_true rfl)) d_TX_areTypable_9 ⟨Nat.le_of_ble_eq_true rfl, Nat.le_of_ble_eq_true rfl⟩) (fun r4 hr4 => ?_)
              try dsimp only at hr4
              subst hr4
              refine lv_istore hx hb d_TX_areTypable_12 hl (by decide) rfl (fun ls hl => ?_)
              have hl : lv_has ls 5 [(4, .int (bc x 3)), (3, .int 3), (0, .long x), (2, .int 5)] := hl
              refine lv_iload hx hb d_TX_areTypable_14 (lv_at hl 0 rfl) ?_
              refine lv_bipush (v := 32) hx hb d_TX_areTypable_16 (by decide) ?_
              refine lv_icmp_lt (tgt := 28) hx hb d_TX_areTypable_18 (by decide) (fun hc7 => ?_) (fun hc7 => ?_)
              · refine lv_iconst (v := 0) hx hb d_TX_areTypable_28 (by decide) ?_
                exact W.zret (v := 0) (ty := .boolean) hx hb hr (by decide +kernel) (fun t ht hW => ⟨⟨0, (), rfl, rfl, trivial⟩, hS.F ht⟩) hS.2.2 d_TX_areTypable_29
              · refine lv_iload hx hb d_TX_areTypable_21 (lv_at hl 0 rfl) ?_
                refine lv_bipush (v := 126) hx hb d_TX_areTypable_23 (by decide) ?_
                refine lv_icmp_le (tgt := 30) hx hb d_TX_areTypable_25 (by decide) (fun hc8 => ?_) (fun hc8 => ?_)
                · refine lv_iinc (k := 1) (v := 4) hx hb d_TX_areTypable_30 hl rfl (by decide) (by decide) rfl (fun ls hl => ?_)
                  have hl : lv_has ls 5 [(3, .int 4), (4, .int (bc x 3)), (0, .long x), (2, .int 5)] := hl
                  refine lv_goto (tgt := 2) hx hb d_TX_areTypable_33 (by decide) ?_
                  refine lv_iload_n hx hb d_TX_areTypable_2 rfl (lv_at hl 0 rfl) ?_
                  refine lv_iload_n hx hb d_TX_areTypable_3 rfl (lv_at hl 3 rfl) ?_
                  refine lv_icmp_ge (tgt := 36) hx hb d_TX_areTypable_4 (by decide) (fun h9 => absurd h9 (by decide)) (fun _ => ?_)
                  refine lv_lload_n hx hb d_TX_areTypable_7 rfl (lv_at hl 2 rfl) ?_
                  refine lv_iload_n hx hb d_TX_areTypable_8 rfl (lv_at hl 0 rfl) ?_
                  refine pu_calli (va_runS (As := [.long x, .int 4]) (rest := []) ⟨hx, hb, hml, hown, hts⟩ (c_TX_byteOf l dC dI (x) (4)) (wd_S 2 hts k_351 k_2 k_349 k_350 rfl rfl (by decide +kernel) ⟨Nat.le_of_ble_eq_true rfl, Nat.le_of_ble_eq_true rfl⟩) ⟨fun a U g mk q => by obtain ⟨q0, qP, qK, qN⟩ := q; exact ⟨q0, qP, va_K.moved (u := U) (U := U.calling g mk a) (Vm.Alike.refl U.vm) qK, nw_ok.same (s := U) (U := U.calling g mk a) rfl qN⟩, fun U hU hW => ⟨rfl, by rw [hU]; exact hP.sub (ws' := []) [] rfl, va_K.moved hW.alike (hK.sub (tys' := []) [] rfl), nw_ok.warm hW hN⟩⟩ rfl rfl hl.1 rfl (lv_room (Nat.le_of_ble_eq_true rfl)) d_TX_areTypable_9 ⟨Nat.le_of_ble_eq_true rfl, Nat.le_of_ble_eq_true rfl⟩) (fun r5 hr5 => ?_)
                  try dsimp only at hr5
                  subst hr5
                  refine lv_istore hx hb d_TX_areTypable_12 hl (by decide) rfl (fun ls hl => ?_)
                  have hl : lv_has ls 5 [(4, .int (bc x 4)), (3, .int 4), (0, .long x), (2, .int 5)] := hl
                  refine lv_iload hx hb d_TX_areTypable_14 (lv_at hl 0 rfl) ?_
                  refine lv_bipush (v := 32) hx hb d_TX_areTypable_16 (by decide) ?_
                  refine lv_icmp_lt (tgt := 28) hx hb d_TX_areTypable_18 (by decide) (fun hc9 => ?_) (fun hc9 => ?_)
                  · refine lv_iconst (v := 0) hx hb d_TX_areTypable_28 (by decide) ?_
                    exact W.zret (v := 0) (ty := .boolean) hx hb hr (by decide +kernel) (fun t ht hW => ⟨⟨0, (), rfl, rfl, trivial⟩, hS.F ht⟩) hS.2.2 d_TX_areTypable_29
                  · refine lv_iload hx hb d_TX_areTypable_21 (lv_at hl 0 rfl) ?_
                    refine lv_bipush (v := 126) hx hb d_TX_areTypable_23 (by decide) ?_
                    refine lv_icmp_le (tgt := 30) hx hb d_TX_areTypable_25 (by decide) (fun hc10 => ?_) (fun hc10 => ?_)
                    · refine lv_iinc (k := 1) (v := 5) hx hb d_TX_areTypable_30 hl rfl (by decide) (by decide) rfl (fun ls hl => ?_)
                      have hl : lv_has ls 5 [(3, .int 5), (4, .int (bc x 4)), (0, .long x), (2, .int 5)] := hl
                      refine lv_goto (tgt := 2) hx hb d_TX_areTypable_33 (by decide) ?_
                      refine lv_iload_n hx hb d_TX_areTypable_2 rfl (lv_at hl 0 rfl) ?_
                      refine lv_iload_n hx hb d_TX_areTypable_3 rfl (lv_at hl 3 rfl) ?_
                      refine lv_icmp_ge (tgt := 36) hx hb d_TX_areTypable_4 (by decide) (fun _ => ?_) (fun h9 => absurd (by decide) h9)
                      exact absurd ⟨okc (d := 0) (by decide) hc1 hc2, okc (d := 8) (by decide) hc3 hc4, okc (d := 16) (by decide) hc5 hc6, okc (d := 24) (by decide) hc7 hc8, okc (d := 32) (by decide) hc9 hc10⟩ g
                    · refine lv_iconst (v := 0) hx hb d_TX_areTypable_28 (by decide) ?_
                      exact W.zret (v := 0) (ty := .boolean) hx hb hr (by decide +kernel) (fun t ht hW => ⟨⟨0, (), rfl, rfl, trivial⟩, hS.F ht⟩) hS.2.2 d_TX_areTypable_29
                · refine lv_iconst (v := 0) hx hb d_TX_areTypable_28 (by decide) ?_
                  exact W.zret (v := 0) (ty := .boolean) hx hb hr (by decide +kernel) (fun t ht hW => ⟨⟨0, (), rfl, rfl, trivial⟩, hS.F ht⟩) hS.2.2 d_TX_areTypable_29
            · refine lv_iconst (v := 0) hx hb d_TX_areTypable_28 (by decide) ?_
              exact W.zret (v := 0) (ty := .boolean) hx hb hr (by decide +kernel) (fun t ht hW => ⟨⟨0, (), rfl, rfl, trivial⟩, hS.F ht⟩) hS.2.2 d_TX_areTypable_29
        · refine lv_iconst (v := 0) hx hb d_TX_areTypable_28 (by decide) ?_
          exact W.zret (v := 0) (ty := .boolean) hx hb hr (by decide +kernel) (fun t ht hW => ⟨⟨0, (), rfl, rfl, trivial⟩, hS.F ht⟩) hS.2.2 d_TX_areTypable_29
    · refine lv_iconst (v := 0) hx hb d_TX_areTypable_28 (by decide) ?_
      exact W.zret (v := 0) (ty := .boolean) hx hb hr (by decide +kernel) (fun t ht hW => ⟨⟨0, (), rfl, rfl, trivial⟩, hS.F ht⟩) hS.2.2 d_TX_areTypable_29

set_option maxHeartbeats 4000000 in
set_option maxRecDepth 100000 in
theorem c_TX_areTypable_6y (l : Launch) (dC : Nat → ClassId) (dI : Nat → Nat → Nat) (x : Int64) (g : ok x 0 ∧ ok x 8 ∧ ok x 16 ∧ ok x 24 ∧ ok x 32 ∧ ok x 40) : Met l y_TX_areTypable (Cond.code y_TX_areTypable b_TX_areTypable 5 (Option.some Jvm.ClassFile.FieldType.boolean) :: wd) { frames := 1, cells := 0, slots := 0, locals := 22 } (va_Pc [.long x, .int 6] (fun U => va_P (dC, dI) cls [] U.heap ∧ va_K (dC, dI) cls [] U ∧ nw_ok U)) (va_Qi (fun r (_ : Unit) => r = 1) (fun _ _ => True) (fun _ => False)) 0 0 (fun _ => False) := by
  refine Met.ofW (cc := b_TX_areTypable) (maxL := 5) (ret := (Option.some Jvm.ClassFile.FieldType.boolean)) (by decide) rfl ?_
  intro p e s m args below meth c s₁ B hml hv
  obtain ⟨rfl, hP, hK, hN⟩ := hv
  have hx := B.exec
  have hb := B.bytes
  have hr := B.returns
  have hlocks := B.notSynchronized
  have hts : ∀ w ∈ wd, w.before ([.long x, .int 6] : List Value).toArray s = true := fun w hw => atoms_spec (ws := (Cond.code y_TX_areTypable b_TX_areTypable 5 (Option.some Jvm.ClassFile.FieldType.boolean) :: wd)) B.pre w (List.mem_cons_of_mem _ hw)
  have hown : s.vm.findClass "LeastSolutions$Text" = some m.cls := findClass_of_methodNamed B.named
  have hS : va_S (fun _ => False) s.heap s.heap [] := va_S.rf
  have hl := lv_entry ([.long x, .int 6]) (n := 5) (Nat.le_of_ble_eq_true rfl)
  rw [lg_entry_eq]
  generalize (lg_sl ([.long x, .int 6]) ++ List.replicate (5 - (lg_sl ([.long x, .int 6])).length) Slot.unset).toArray = ls at hl ⊢
  have hl : lv_has ls 5 [(0, .long x), (2, .int 6)] := hl
  refine lv_iconst (v := 0) hx hb d_TX_areTypable_0 (by decide) ?_
  refine lv_istore_n hx hb d_TX_areTypable_1 rfl hl (by decide) rfl (fun ls hl => ?_)
  have hl : lv_has ls 5 [(3, .int 0), (0, .long x), (2, .int 6)] := hl
  refine lv_iload_n hx hb d_TX_areTypable_2 rfl (lv_at hl 0 rfl) ?_
  refine lv_iload_n hx hb d_TX_areTypable_3 rfl (lv_at hl 2 rfl) ?_
  refine lv_icmp_ge (tgt := 36) hx hb d_TX_areTypable_4 (by decide) (fun h9 => absurd h9 (by decide)) (fun _ => ?_)
  refine lv_lload_n hx hb d_TX_areTypable_7 rfl (lv_at hl 1 rfl) ?_
  refine lv_iload_n hx hb d_TX_areTypable_8 rfl (lv_at hl 0 rfl) ?_
  refine pu_calli (va_runS (As := [.long x, .int 0]) (rest := []) ⟨hx, hb, hml, hown, hts⟩ (c_TX_byteOf l dC dI (x) (0)) (wd_S 2 hts k_351 k_2 k_349 k_350 rfl rfl (by decide +kernel) ⟨Nat.le_of_ble_eq_true rfl, Nat.le_of_ble_eq_true rfl⟩) ⟨fun a U g mk q => by obtain ⟨q0, qP, qK, qN⟩ := q; exact ⟨q0, qP, va_K.moved (u := U) (U := U.calling g mk a) (Vm.Alike.refl U.vm) qK, nw_ok.same (s := U) (U := U.calling g mk a) rfl qN⟩, fun U hU hW => ⟨rfl, by rw [hU]; exact hP.sub (ws' := []) [] rfl, va_K.moved hW.alike (hK.sub (tys' := []) [] rfl), nw_ok.warm hW hN⟩⟩ rfl rfl hl.1 rfl (lv_room (Nat.le_of_ble_eq_true rfl)) d_TX_areTypable_9 ⟨Nat.le_of_ble_eq_true rfl, Nat.le_of_ble_eq_true rfl⟩) (fun r1 hr1 => ?_)
  try dsimp only at hr1
  subst hr1
  refine lv_istore hx hb d_TX_areTypable_12 hl (by decide) rfl (fun ls hl => ?_)
  have hl : lv_has ls 5 [(4, .int (bc x 0)), (3, .int 0), (0, .long x), (2, .int 6)] := hl
  refine lv_iload hx hb d_TX_areTypable_14 (lv_at hl 0 rfl) ?_
  refine lv_bipush (v := 32) hx hb d_TX_areTypable_16 (by decide) ?_
  refine lv_icmp_lt (tgt := 28) hx hb d_TX_areTypable_18 (by decide) (fun h9 => absurd h9 (okc1 (d := 0) (by decide) (g.1))) (fun _ => ?_)
  refine lv_iload hx hb d_TX_areTypable_21 (lv_at hl 0 rfl) ?_
  refine lv_bipush (v := 126) hx hb d_TX_areTypable_23 (by decide) ?_
  refine lv_icmp_le (tgt := 30) hx hb d_TX_areTypable_25 (by decide) (fun _ => ?_) (fun h9 => absurd (okc2 (d := 0) (by decide) (g.1)) h9)
  refine lv_iinc (k := 1) (v := 1) hx hb d_TX_areTypable_30 hl rfl (by decide) (by decide) rfl (fun ls hl => ?_)
  have hl : lv_has ls 5 [(3, .int 1), (4, .int (bc x 0)), (0, .long x), (2, .int 6)] := hl
  refine lv_goto (tgt := 2) hx hb d_TX_areTypable_33 (by decide) ?_
  refine lv_iload_n hx hb d_TX_areTypable_2 rfl (lv_at hl 0 rfl) ?_
  refine lv_iload_n hx hb d_TX_areTypable_3 rfl (lv_at hl 3 rfl) ?_
  refine lv_icmp_ge (tgt := 36) hx hb d_TX_areTypable_4 (by decide) (fun h9 => absurd h9 (by decide)) (fun _ => ?_)
  refine lv_lload_n hx hb d_TX_areTypable_7 rfl (lv_at hl 2 rfl) ?_
  refine lv_iload_n hx hb d_TX_areTypable_8 rfl (lv_at hl 0 rfl) ?_
  refine pu_calli (va_runS (As := [.long x, .int 1]) (rest := []) ⟨hx, hb, hml, hown, hts⟩ (c_TX_byteOf l dC dI (x) (1)) (wd_S 2 hts k_351 k_2 k_349 k_350 rfl rfl (by decide +kernel) ⟨Nat.le_of_ble_eq_true rfl, Nat.le_of_ble_eq_true rfl⟩) ⟨fun a U g mk q => by obtain ⟨q0, qP, qK, qN⟩ := q; exact ⟨q0, qP, va_K.moved (u := U) (U := U.calling g mk a) (Vm.Alike.refl U.vm) qK, nw_ok.same (s := U) (U := U.calling g mk a) rfl qN⟩, fun U hU hW => ⟨rfl, by rw [hU]; exact hP.sub (ws' := []) [] rfl, va_K.moved hW.alike (hK.sub (tys' := []) [] rfl), nw_ok.warm hW hN⟩⟩ rfl rfl hl.1 rfl (lv_room (Nat.le_of_ble_eq_true rfl)) d_TX_areTypable_9 ⟨Nat.le_of_ble_eq_true rfl, Nat.le_of_ble_eq_true rfl⟩) (fun r2 hr2 => ?_)
  try dsimp only at hr2
  subst hr2
  refine lv_istore hx hb d_TX_areTypable_12 hl (by decide) rfl (fun ls hl => ?_)
  have hl : lv_has ls 5 [(4, .int (bc x 1)), (3, .int 1), (0, .long x), (2, .int 6)] := hl
  refine lv_iload hx hb d_TX_areTypable_14 (lv_at hl 0 rfl) ?_
  refine lv_bipush (v := 32) hx hb d_TX_areTypable_16 (by decide) ?_
  refine lv_icmp_lt (tgt := 28) hx hb d_TX_areTypable_18 (by decide) (fun h9 => absurd h9 (okc1 (d := 8) (by decide) (g.2.1))) (fun _ => ?_)
  refine lv_iload hx hb d_TX_areTypable_21 (lv_at hl 0 rfl) ?_
  refine lv_bipush (v := 126) hx hb d_TX_areTypable_23 (by decide) ?_
  refine lv_icmp_le (tgt := 30) hx hb d_TX_areTypable_25 (by decide) (fun _ => ?_) (fun h9 => absurd (okc2 (d := 8) (by decide) (g.2.1)) h9)
  refine lv_iinc (k := 1) (v := 2) hx hb d_TX_areTypable_30 hl rfl (by decide) (by decide) rfl (fun ls hl => ?_)
  have hl : lv_has ls 5 [(3, .int 2), (4, .int (bc x 1)), (0, .long x), (2, .int 6)] := hl
  refine lv_goto (tgt := 2) hx hb d_TX_areTypable_33 (by decide) ?_
  refine lv_iload_n hx hb d_TX_areTypable_2 rfl (lv_at hl 0 rfl) ?_
  refine lv_iload_n hx hb d_TX_areTypable_3 rfl (lv_at hl 3 rfl) ?_
  refine lv_icmp_ge (tgt := 36) hx hb d_TX_areTypable_4 (by decide) (fun h9 => absurd h9 (by decide)) (fun _ => ?_)
  refine lv_lload_n hx hb d_TX_areTypable_7 rfl (lv_at hl 2 rfl) ?_
  refine lv_iload_n hx hb d_TX_areTypable_8 rfl (lv_at hl 0 rfl) ?_
  refine pu_calli (va_runS (As := [.long x, .int 2]) (rest := []) ⟨hx, hb, hml, hown, hts⟩ (c_TX_byteOf l dC dI (x) (2)) (wd_S 2 hts k_351 k_2 k_349 k_350 rfl rfl (by decide +kernel) ⟨Nat.le_of_ble_eq_true rfl, Nat.le_of_ble_eq_true rfl⟩) ⟨fun a U g mk q => by obtain ⟨q0, qP, qK, qN⟩ := q; exact ⟨q0, qP, va_K.moved (u := U) (U := U.calling g mk a) (Vm.Alike.refl U.vm) qK, nw_ok.same (s := U) (U := U.calling g mk a) rfl qN⟩, fun U hU hW => ⟨rfl, by rw [hU]; exact hP.sub (ws' := []) [] rfl, va_K.moved hW.alike (hK.sub (tys' := []) [] rfl), nw_ok.warm hW hN⟩⟩ rfl rfl hl.1 rfl (lv_room (Nat.le_of_ble_eq_true rfl)) d_TX_areTypable_9 ⟨Nat.le_of_ble_eq_true rfl, Nat.le_of_ble_eq_true rfl⟩) (fun r3 hr3 => ?_)
  try dsimp only at hr3
  subst hr3
  refine lv_istore hx hb d_TX_areTypable_12 hl (by decide) rfl (fun ls hl => ?_)
  have hl : lv_has ls 5 [(4, .int (bc x 2)), (3, .int 2), (0, .long x), (2, .int 6)] := hl
  refine lv_iload hx hb d_TX_areTypable_14 (lv_at hl 0 rfl) ?_
  refine lv_bipush (v := 32) hx hb d_TX_areTypable_16 (by decide) ?_
  refine lv_icmp_lt (tgt := 28) hx hb d_TX_areTypable_18 (by decide) (fun h9 => absurd h9 (okc1 (d := 16) (by decide) (g.2.2.1))) (fun _ => ?_)
  refine lv_iload hx hb d_TX_areTypable_21 (lv_at hl 0 rfl) ?_
  refine lv_bipush (v := 126) hx hb d_TX_areTypable_23 (by decide) ?_
  refine lv_icmp_le (tgt := 30) hx hb d_TX_areTypable_25 (by decide) (fun _ => ?_) (fun h9 => absurd (okc2 (d := 16) (by decide) (g.2.2.1)) h9)
  refine lv_iinc (k := 1) (v := 3) hx hb d_TX_areTypable_30 hl rfl (by decide) (by decide) rfl (fun ls hl => ?_)
  have hl : lv_has ls 5 [(3, .int 3), (4, .int (bc x 2)), (0, .long x), (2, .int 6)] := hl
  refine lv_goto (tgt := 2) hx hb d_TX_areTypable_33 (by decide) ?_
  refine lv_iload_n hx hb d_TX_areTypable_2 rfl (lv_at hl 0 rfl) ?_
  refine lv_iload_n hx hb d_TX_areTypable_3 rfl (lv_at hl 3 rfl) ?_
  refine lv_icmp_ge (tgt := 36) hx hb d_TX_areTypable_4 (by decide) (fun h9 => absurd h9 (by decide)) (fun _ => ?_)
  refine lv_lload_n hx hb d_TX_areTypable_7 rfl (lv_at hl 2 rfl) ?_
  refine lv_iload_n hx hb d_TX_areTypable_8 rfl (lv_at hl 0 rfl) ?_
  refine pu_calli (va_runS (As := [.long x, .int 3]) (rest := []) ⟨hx, hb, hml, hown, hts⟩ (c_TX_byteOf l dC dI (x) (3)) (wd_S 2 hts k_351 k_2 k_349 k_350 rfl rfl (by decide +kernel) ⟨Nat.le_of_ble_eq_true rfl, Nat.le_of_ble_eq_true rfl⟩) ⟨fun a U g mk q => by obtain ⟨q0, qP, qK, qN⟩ := q; exact ⟨q0, qP, va_K.moved (u := U) (U := U.calling g mk a) (Vm.Alike.refl U.vm) qK, nw_ok.same (s := U) (U := U.calling g mk a) rfl qN⟩, fun U hU hW => ⟨rfl, by rw [hU]; exact hP.sub (ws' := []) [] rfl, va_K.moved hW.alike (hK.sub (tys' := []) [] rfl), nw_ok.warm hW hN⟩⟩ rfl rfl hl.1 rfl (lv_room (Nat.le_of_ble_eq_true rfl)) d_TX_areTypable_9 ⟨Nat.le_of_ble_eq_true rfl, Nat.le_of_ble_eq_true rfl⟩) (fun r4 hr4 => ?_)
  try dsimp only at hr4
  subst hr4
  refine lv_istore hx hb d_TX_areTypable_12 hl (by decide) rfl (fun ls hl => ?_)
  have hl : lv_has ls 5 [(4, .int (bc x 3)), (3, .int 3), (0, .long x), (2, .int 6)] := hl
  refine lv_iload hx hb d_TX_areTypable_14 (lv_at hl 0 rfl) ?_
  refine lv_bipush (v := 32) hx hb d_TX_areTypable_16 (by decide) ?_
  refine lv_icmp_lt (tgt := 28) hx hb d_TX_areTypable_18 (by decide) (fun h9 => absurd h9 (okc1 (d := 24) (by decide) (g.2.2.2.1))) (fun _ => ?_)
  refine lv_iload hx hb d_TX_areTypable_21 (lv_at hl 0 rfl) ?_
  refine lv_bipush (v := 126) hx hb d_TX_areTypable_23 (by decide) ?_
  refine lv_icmp_le (tgt := 30) hx hb d_TX_areTypable_25 (by decide) (fun _ => ?_) (fun h9 => absurd (okc2 (d := 24) (by decide) (g.2.2.2.1)) h9)
  refine lv_iinc (k := 1) (v := 4) hx hb d_TX_areTypable_30 hl rfl (by decide) (by decide) rfl (fun ls hl => ?_)
  have hl : lv_has ls 5 [(3, .int 4), (4, .int (bc x 3)), (0, .long x), (2, .int 6)] := hl
  refine lv_goto (tgt := 2) hx hb d_TX_areTypable_33 (by decide) ?_
  refine lv_iload_n hx hb d_TX_areTypable_2 rfl (lv_at hl 0 rfl) ?_
  refine lv_iload_n hx hb d_TX_areTypable_3 rfl (lv_at hl 3 rfl) ?_
  refine lv_icmp_ge (tgt := 36) hx hb d_TX_areTypable_4 (by decide) (fun h9 => absurd h9 (by decide)) (fun _ => ?_)
  refine lv_lload_n hx hb d_TX_areTypable_7 rfl (lv_at hl 2 rfl) ?_
  refine lv_iload_n hx hb d_TX_areTypable_8 rfl (lv_at hl 0 rfl) ?_
  refine pu_calli (va_runS (As := [.long x, .int 4]) (rest := []) ⟨hx, hb, hml, hown, hts⟩ (c_TX_byteOf l dC dI (x) (4)) (wd_S 2 hts k_351 k_2 k_349 k_350 rfl rfl (by decide +kernel) ⟨Nat.le_of_ble_eq_true rfl, Nat.le_of_ble_eq_true rfl⟩) ⟨fun a U g mk q => by obtain ⟨q0, qP, qK, qN⟩ := q; exact ⟨q0, qP, va_K.moved (u := U) (U := U.calling g mk a) (Vm.Alike.refl U.vm) qK, nw_ok.same (s := U) (U := U.calling g mk a) rfl qN⟩, fun U hU hW => ⟨rfl, by rw [hU]; exact hP.sub (ws' := []) [] rfl, va_K.moved hW.alike (hK.sub (tys' := []) [] rfl), nw_ok.warm hW hN⟩⟩ rfl rfl hl.1 rfl (lv_room (Nat.le_of_ble_eq_true rfl)) d_TX_areTypable_9 ⟨Nat.le_of_ble_eq_true rfl, Nat.le_of_ble_eq_true rfl⟩) (fun r5 hr5 => ?_)
  try dsimp only at hr5
  subst hr5
  refine lv_istore hx hb d_TX_areTypable_12 hl (by decide) rfl (fun ls hl => ?_)
  have hl : lv_has ls 5 [(4, .int (bc x 4)), (3, .int 4), (0, .long x), (2, .int 6)] := hl
  refine lv_iload hx hb d_TX_areTypable_14 (lv_at hl 0 rfl) ?_
  refine lv_bipush (v := 32) hx hb d_TX_areTypable_16 (by decide) ?_
  refine lv_icmp_lt (tgt := 28) hx hb d_TX_areTypable_18 (by decide) (fun h9 => absurd h9 (okc1 (d := 32) (by decide) (g.2.2.2.2.1))) (fun _ => ?_)
  refine lv_iload hx hb d_TX_areTypable_21 (lv_at hl 0 rfl) ?_
  refine lv_bipush (v := 126) hx hb d_TX_areTypable_23 (by decide) ?_
  refine lv_icmp_le (tgt := 30) hx hb d_TX_areTypable_25 (by decide) (fun _ => ?_) (fun h9 => absurd (okc2 (d := 32) (by decide) (g.2.2.2.2.1)) h9)
  refine lv_iinc (k := 1) (v := 5) hx hb d_TX_areTypable_30 hl rfl (by decide) (by decide) rfl (fun ls hl => ?_)
  have hl : lv_has ls 5 [(3, .int 5), (4, .int (bc x 4)), (0, .long x), (2, .int 6)] := hl
  refine lv_goto (tgt := 2) hx hb d_TX_areTypable_33 (by decide) ?_
  refine lv_iload_n hx hb d_TX_areTypable_2 rfl (lv_at hl 0 rfl) ?_
  refine lv_iload_n hx hb d_TX_areTypable_3 rfl (lv_at hl 3 rfl) ?_
  refine lv_icmp_ge (tgt := 36) hx hb d_TX_areTypable_4 (by decide) (fun h9 => absurd h9 (by decide)) (fun _ => ?_)
  refine lv_lload_n hx hb d_TX_areTypable_7 rfl (lv_at hl 2 rfl) ?_
  refine lv_iload_n hx hb d_TX_areTypable_8 rfl (lv_at hl 0 rfl) ?_
  refine pu_calli (va_runS (As := [.long x, .int 5]) (rest := []) ⟨hx, hb, hml, hown, hts⟩ (c_TX_byteOf l dC dI (x) (5)) (wd_S 2 hts k_351 k_2 k_349 k_350 rfl rfl (by decide +kernel) ⟨Nat.le_of_ble_eq_true rfl, Nat.le_of_ble_eq_true rfl⟩) ⟨fun a U g mk q => by obtain ⟨q0, qP, qK, qN⟩ := q; exact ⟨q0, qP, va_K.moved (u := U) (U := U.calling g mk a) (Vm.Alike.refl U.vm) qK, nw_ok.same (s := U) (U := U.calling g mk a) rfl qN⟩, fun U hU hW => ⟨rfl, by rw [hU]; exact hP.sub (ws' := []) [] rfl, va_K.moved hW.alike (hK.sub (tys' := []) [] rfl), nw_ok.warm hW hN⟩⟩ rfl rfl hl.1 rfl (lv_room (Nat.le_of_ble_eq_true rfl)) d_TX_areTypable_9 ⟨Nat.le_of_ble_eq_true rfl, Nat.le_of_ble_eq_true rfl⟩) (fun r6 hr6 => ?_)
  try dsimp only at hr6
  subst hr6
  refine lv_istore hx hb d_TX_areTypable_12 hl (by decide) rfl (fun ls hl => ?_)
  have hl : lv_has ls 5 [(4, .int (bc x 5)), (3, .int 5), (0, .long x), (2, .int 6)] := hl
  refine lv_iload hx hb d_TX_areTypable_14 (lv_at hl 0 rfl) ?_
  refine lv_bipush (v := 32) hx hb d_TX_areTypable_16 (by decide) ?_
  refine lv_icmp_lt (tgt := 28) hx hb d_TX_areTypable_18 (by decide) (fun h9 => absurd h9 (okc1 (d := 40) (by decide) (g.2.2.2.2.2))) (fun _ => ?_)
  refine lv_iload hx hb d_TX_areTypable_21 (lv_at hl 0 rfl) ?_
  refine lv_bipush (v := 126) hx hb d_TX_areTypable_23 (by decide) ?_
  refine lv_icmp_le (tgt := 30) hx hb d_TX_areTypable_25 (by decide) (fun _ => ?_) (fun h9 => absurd (okc2 (d := 40) (by decide) (g.2.2.2.2.2)) h9)
  refine lv_iinc (k := 1) (v := 6) hx hb d_TX_areTypable_30 hl rfl (by decide) (by decide) rfl (fun ls hl => ?_)
  have hl : lv_has ls 5 [(3, .int 6), (4, .int (bc x 5)), (0, .long x), (2, .int 6)] := hl
  refine lv_goto (tgt := 2) hx hb d_TX_areTypable_33 (by decide) ?_
  refine lv_iload_n hx hb d_TX_areTypable_2 rfl (lv_at hl 0 rfl) ?_
  refine lv_iload_n hx hb d_TX_areTypable_3 rfl (lv_at hl 3 rfl) ?_
  refine lv_icmp_ge (tgt := 36) hx hb d_TX_areTypable_4 (by decide) (fun _ => ?_) (fun h9 => absurd (by decide) h9)
  refine lv_iconst (v := 1) hx hb d_TX_areTypable_36 (by decide) ?_
  exact W.zret (v := 1) (ty := .boolean) hx hb hr (by decide +kernel) (fun t ht hW => ⟨⟨1, (), rfl, rfl, trivial⟩, hS.F ht⟩) hS.2.2 d_TX_areTypable_37

set_option maxHeartbeats 4000000 in
set_option maxRecDepth 100000 in
theorem c_TX_areTypable_6n (l : Launch) (dC : Nat → ClassId) (dI : Nat → Nat → Nat) (x : Int64) (g : ¬ (ok x 0 ∧ ok x 8 ∧ ok x 16 ∧ ok x 24 ∧ ok x 32 ∧ ok x 40)) : Met l y_TX_areTypable (Cond.code y_TX_areTypable b_TX_areTypable 5 (Option.some Jvm.ClassFile.FieldType.boolean) :: wd) { frames := 1, cells := 0, slots := 0, locals := 22 } (va_Pc [.long x, .int 6] (fun U => va_P (dC, dI) cls [] U.heap ∧ va_K (dC, dI) cls [] U ∧ nw_ok U)) (va_Qi (fun r (_ : Unit) => r = 0) (fun _ _ => True) (fun _ => False)) 0 0 (fun _ => False) := by
  refine Met.ofW (cc := b_TX_areTypable) (maxL := 5) (ret := (Option.some Jvm.ClassFile.FieldType.boolean)) (by decide) rfl ?_
  intro p e s m args below meth c s₁ B hml hv
  obtain ⟨rfl, hP, hK, hN⟩ := hv
  have hx := B.exec
  have hb := B.bytes
  have hr := B.returns
  have hlocks := B.notSynchronized
  have hts : ∀ w ∈ wd, w.before ([.long x, .int 6] : List Value).toArray s = true := fun w hw => atoms_spec (ws := (Cond.code y_TX_areTypable b_TX_areTypable 5 (Option.some Jvm.ClassFile.FieldType.boolean) :: wd)) B.pre w (List.mem_cons_of_mem _ hw)
  have hown : s.vm.findClass "LeastSolutions$Text" = some m.cls := findClass_of_methodNamed B.named
  have hS : va_S (fun _ => False) s.heap s.heap [] := va_S.rf
  have hl := lv_entry ([.long x, .int 6]) (n := 5) (Nat.le_of_ble_eq_true rfl)
  rw [lg_entry_eq]
  generalize (lg_sl ([.long x, .int 6]) ++ List.replicate (5 - (lg_sl ([.long x, .int 6])).length) Slot.unset).toArray = ls at hl ⊢
  have hl : lv_has ls 5 [(0, .long x), (2, .int 6)] := hl
  refine lv_iconst (v := 0) hx hb d_TX_areTypable_0 (by decide) ?_
  refine lv_istore_n hx hb d_TX_areTypable_1 rfl hl (by decide) rfl (fun ls hl => ?_)
  have hl : lv_has ls 5 [(3, .int 0), (0, .long x), (2, .int 6)] := hl
  refine lv_iload_n hx hb d_TX_areTypable_2 rfl (lv_at hl 0 rfl) ?_
  refine lv_iload_n hx hb d_TX_areTypable_3 rfl (lv_at hl 2 rfl) ?_
  refine lv_icmp_ge (tgt := 36) hx hb d_TX_areTypable_4 (by decide) (fun h9 => absurd h9 (by decide)) (fun _ => ?_)
  refine lv_lload_n hx hb d_TX_areTypable_7 rfl (lv_at hl 1 rfl) ?_
  refine lv_iload_n hx hb d_TX_areTypable_8 rfl (lv_at hl 0 rfl) ?_
  refine pu_calli (va_runS (As := [.long x, .int 0]) (rest := []) ⟨hx, hb, hml, hown, hts⟩ (c_TX_byteOf l dC dI (x) (0)) (wd_S 2 hts k_351 k_2 k_349 k_350 rfl rfl (by decide +kernel) ⟨Nat.le_of_ble_eq_true rfl, Nat.le_of_ble_eq_true rfl⟩) ⟨fun a U g mk q => by obtain ⟨q0, qP, qK, qN⟩ := q; exact ⟨q0, qP, va_K.moved (u := U) (U := U.calling g mk a) (Vm.Alike.refl U.vm) qK, nw_ok.same (s := U) (U := U.calling g mk a) rfl qN⟩, fun U hU hW => ⟨rfl, by rw [hU]; exact hP.sub (ws' := []) [] rfl, va_K.moved hW.alike (hK.sub (tys' := []) [] rfl), nw_ok.warm hW hN⟩⟩ rfl rfl hl.1 rfl (lv_room (Nat.le_of_ble_eq_true rfl)) d_TX_areTypable_9 ⟨Nat.le_of_ble_eq_true rfl, Nat.le_of_ble_eq_true rfl⟩) (fun r1 hr1 => ?_)
  try dsimp only at hr1
  subst hr1
  refine lv_istore hx hb d_TX_areTypable_12 hl (by decide) rfl (fun ls hl => ?_)
  have hl : lv_has ls 5 [(4, .int (bc x 0)), (3, .int 0), (0, .long x), (2, .int 6)] := hl
  refine lv_iload hx hb d_TX_areTypable_14 (lv_at hl 0 rfl) ?_
  refine lv_bipush (v := 32) hx hb d_TX_areTypable_16 (by decide) ?_
  refine lv_icmp_lt (tgt := 28) hx hb d_TX_areTypable_18 (by decide) (fun hc1 => ?_) (fun hc1 => ?_)
  · refine lv_iconst (v := 0) hx hb d_TX_areTypable_28 (by decide) ?_
    exact W.zret (v := 0) (ty := .boolean) hx hb hr (by decide +kernel) (fun t ht hW => ⟨⟨0, (), rfl, rfl, trivial⟩, hS.F ht⟩) hS.2.2 d_TX_areTypable_29
  · refine lv_iload hx hb d_TX_areTypable_21 (lv_at hl 0 rfl) ?_
    refine lv_bipush (v := 126) hx hb d_TX_areTypable_23 (by decide) ?_
    refine lv_icmp_le (tgt := 30) hx hb d_TX_areTypable_25 (by decide) (fun hc2 => ?_) (fun hc2 => ?_)
    · refine lv_iinc (k := 1) (v := 1) hx hb d_TX_areTypable_30 hl rfl (by decide) (by decide) rfl (fun ls hl => ?_)
      have hl : lv_has ls 5 [(3, .int 1), (4, .int (bc x 0)), (0, .long x), (2, .int 6)] := hl
      refine lv_goto (tgt := 2) hx hb d_TX_areTypable_33 (by decide) ?_
      refine lv_iload_n hx hb d_TX_areTypable_2 rfl (lv_at hl 0 rfl) ?_
      refine lv_iload_n hx hb d_TX_areTypable_3 rfl (lv_at hl 3 rfl) ?_
      refine lv_icmp_ge (tgt := 36) hx hb d_TX_areTypable_4 (by decide) (fun h9 => absurd h9 (by decide)) (fun _ => ?_)
      refine lv_lload_n hx hb d_TX_areTypable_7 rfl (lv_at hl 2 rfl) ?_
      refine lv_iload_n hx hb d_TX_areTypable_8 rfl (lv_at hl 0 rfl) ?_
      refine pu_calli (va_runS (As := [.long x, .int 1]) (rest := []) ⟨hx, hb, hml, hown, hts⟩ (c_TX_byteOf l dC dI (x) (1)) (wd_S 2 hts k_351 k_2 k_349 k_350 rfl rfl (by decide +kernel) ⟨Nat.le_of_ble_eq_true rfl, Nat.le_of_ble_eq_true rfl⟩) ⟨fun a U g mk q => by obtain ⟨q0, qP, qK, qN⟩ := q; exact ⟨q0, qP, va_K.moved (u := U) (U := U.calling g mk a) (Vm.Alike.refl U.vm) qK, nw_ok.same (s := U) (U := U.calling g mk a) rfl qN⟩, fun U hU hW => ⟨rfl, by rw [hU]; exact hP.sub (ws' := []) [] rfl, va_K.moved hW.alike (hK.sub (tys' := []) [] rfl), nw_ok.warm hW hN⟩⟩ rfl rfl hl.1 rfl (lv_room (Nat.le_of_ble_eq_true rfl)) d_TX_areTypable_9 ⟨Nat.le_of_ble_eq_true rfl, Nat.le_of_ble_eq_true rfl⟩) (fun r2 hr2 => ?_)
      try dsimp only at hr2
      subst hr2
      refine lv_istore hx hb d_TX_areTypable_12 hl (by decide) rfl (fun ls hl => ?_)
      have hl : lv_has ls 5 [(4, .int (bc x 1)), (3, .int 1), (0, .long x), (2, .int 6)] := hl
      refine lv_iload hx hb d_TX_areTypable_14 (lv_at hl 0 rfl) ?_
      refine lv_bipush (v := 32) hx hb d_TX_areTypable_16 (by decide) ?_
      refine lv_icmp_lt (tgt := 28) hx hb d_TX_areTypable_18 (by decide) (fun hc3 => ?_) (fun hc3 => ?_)
      · refine lv_iconst (v := 0) hx hb d_TX_areTypable_28 (by decide) ?_
        exact W.zret (v := 0) (ty := .boolean) hx hb hr (by decide +kernel) (fun t ht hW => ⟨⟨0, (), rfl, rfl, trivial⟩, hS.F ht⟩) hS.2.2 d_TX_areTypable_29
      · refine lv_iload hx hb d_TX_areTypable_21 (lv_at hl 0 rfl) ?_
        refine lv_bipush (v := 126) hx hb d_TX_areTypable_23 (by decide) ?_
        refine lv_icmp_le (tgt := 30) hx hb d_TX_areTypable_25 (by decide) (fun hc4 => ?_) (fun hc4 => ?_)
        · refine lv_iinc (k := 1) (v := 2) hx hb d_TX_areTypable_30 hl rfl (by decide) (by decide) rfl (fun ls hl => ?_)
          have hl : lv_has ls 5 [(3, .int 2), (4, .int (bc x 1)), (0, .long x), (2, .int 6)] := hl
          refine lv_goto (tgt := 2) hx hb d_TX_areTypable_33 (by decide) ?_
          refine lv_iload_n hx hb d_TX_areTypable_2 rfl (lv_at hl 0 rfl) ?_
          refine lv_iload_n hx hb d_TX_areTypable_3 rfl (lv_at hl 3 rfl) ?_
          refine lv_icmp_ge (tgt := 36) hx hb d_TX_areTypable_4 (by decide) (fun h9 => absurd h9 (by decide)) (fun _ => ?_)
          refine lv_lload_n hx hb d_TX_areTypable_7 rfl (lv_at hl 2 rfl) ?_
          refine lv_iload_n hx hb d_TX_areTypable_8 rfl (lv_at hl 0 rfl) ?_
          refine pu_calli (va_runS (As := [.long x, .int 2]) (rest := []) ⟨hx, hb, hml, hown, hts⟩ (c_TX_byteOf l dC dI (x) (2)) (wd_S 2 hts k_351 k_2 k_349 k_350 rfl rfl (by decide +kernel) ⟨Nat.le_of_ble_eq_true rfl, Nat.le_of_ble_eq_true rfl⟩) ⟨fun a U g mk q => by obtain ⟨q0, qP, qK, qN⟩ := q; exact ⟨q0, qP, va_K.moved (u := U) (U := U.calling g mk a) (Vm.Alike.refl U.vm) qK, nw_ok.same (s := U) (U := U.calling g mk a) rfl qN⟩, fun U hU hW => ⟨rfl, by rw [hU]; exact hP.sub (ws' := []) [] rfl, va_K.moved hW.alike (hK.sub (tys' := []) [] rfl), nw_ok.warm hW hN⟩⟩ rfl rfl hl.1 rfl (lv_room (Nat.le_of_ble_eq_true rfl)) d_TX_areTypable_9 ⟨Nat.le_of_ble_eq_true rfl, Nat.le_of_ble_eq_true rfl⟩) (fun r3 hr3 => ?_)
          try dsimp only at hr3
          subst hr3
          refine lv_istore hx hb d_TX_areTypable_12 hl (by decide) rfl (fun ls hl => ?_)
          have hl : lv_has ls 5 [(4, .int (bc x 2)), (3, .int 2), (0, .long x), (2, .int 6)] := hl
          refine lv_iload hx hb d_TX_areTypable_14 (lv_at hl 0 rfl) ?_
          refine lv_bipush (v := 32) hx hb d_TX_areTypable_16 (by decide) ?_
          refine lv_icmp_lt (tgt := 28) hx hb d_TX_areTypable_18 (by decide) (fun hc5 => ?_) (fun hc5 => ?_)
          · refine lv_iconst (v := 0) hx hb d_TX_areTypable_28 (by decide) ?_
            exact W.zret (v := 0) (ty := .boolean) hx hb hr (by decide +kernel) (fun t ht hW => ⟨⟨0, (), rfl, rfl, trivial⟩, hS.F ht⟩) hS.2.2 d_TX_areTypable_29
          · refine lv_iload hx hb d_TX_areTypable_21 (lv_at hl 0 rfl) ?_
            refine lv_bipush (v := 126) hx hb d_TX_areTypable_23 (by decide) ?_
            refine lv_icmp_le (tgt := 30) hx hb d_TX_areTypable_25 (by decide) (fun hc6 => ?_) (fun hc6 => ?_)
            · refine lv_iinc (k := 1) (v := 3) hx hb d_TX_areTypable_30 hl rfl (by decide) (by decide) rfl (fun ls hl => ?_)
              have hl : lv_has ls 5 [(3, .int 3), (4, .int (bc x 2)), (0, .long x), (2, .int 6)] := hl
              refine lv_goto (tgt := 2) hx hb d_TX_areTypable_33 (by decide) ?_
              refine lv_iload_n hx hb d_TX_areTypable_2 rfl (lv_at hl 0 rfl) ?_
              refine lv_iload_n hx hb d_TX_areTypable_3 rfl (lv_at hl 3 rfl) ?_
              refine lv_icmp_ge (tgt := 36) hx hb d_TX_areTypable_4 (by decide) (fun h9 => absurd h9 (by decide)) (fun _ => ?_)
              refine lv_lload_n hx hb d_TX_areTypable_7 rfl (lv_at hl 2 rfl) ?_
              refine lv_iload_n hx hb d_TX_areTypable_8 rfl (lv_at hl 0 rfl) ?_
              refine pu_calli (va_runS (As := [.long x, .int 3]) (rest := []) ⟨hx, hb, hml, hown, hts⟩ (c_TX_byteOf l dC dI (x) (3)) (wd_S 2 hts k_351 k_2 k_349 k_350 rfl rfl (by decide +kernel) ⟨Nat.le_of_ble_eq_true rfl, Nat.le_of_ble_eq_true rfl⟩) ⟨fun a U g mk q => by obtain ⟨q0, qP, qK, qN⟩ := q; exact ⟨q0, qP, va_K.moved (u := U) (U := U.calling g mk a) (Vm.Alike.refl U.vm) qK, nw_ok.same (s := U) (U := U.calling g mk a) rfl qN⟩, fun U hU hW => ⟨rfl, by rw [hU]; exact hP.sub (ws' := []) [] rfl, va_K.moved hW.alike (hK.sub (tys' := []) [] rfl), nw_ok.warm hW hN⟩⟩ rfl rfl hl.1 rfl (lv_room (Nat.le_of_ble_eq_true rfl)) d_TX_areTypable_9 ⟨Nat.le_of_ble_eq_true rfl, Nat.le_of_ble_eq_true rfl⟩) (fun r4 hr4 => ?_)
              try dsimp only at hr4
              subst hr4
              refine lv_istore hx hb d_TX_areTypable_12 hl (by decide) rfl (fun ls hl => ?_)
              have hl : lv_has ls 5 [(4, .int (bc x 3)), (3, .int 3), (0, .long x), (2, .int 6)] := hl
              refine lv_iload hx hb d_TX_areTypable_14 (lv_at hl 0 rfl) ?_
              refine lv_bipush (v := 32) hx hb d_TX_areTypable_16 (by decide) ?_
              refine lv_icmp_lt (tgt := 28) hx hb d_TX_areTypable_18 (by decide) (fun hc7 => ?_) (fun hc7 => ?_)
              · refine lv_iconst (v := 0) hx hb d_TX_areTypable_28 (by decide) ?_
                exact W.zret (v := 0) (ty := .boolean) hx hb hr (by decide +kernel) (fun t ht hW => ⟨⟨0, (), rfl, rfl, trivial⟩, hS.F ht⟩) hS.2.2 d_TX_areTypable_29
              · refine lv_iload hx hb d_TX_areTypable_21 (lv_at hl 0 rfl) ?_
                refine lv_bipush (v := 126) hx hb d_TX_areTypable_23 (by decide) ?_
                refine lv_icmp_le (tgt := 30) hx hb d_TX_areTypable_25 (by decide) (fun hc8 => ?_) (fun hc8 => ?_)
                · refine lv_iinc (k := 1) (v := 4) hx hb d_TX_areTypable_30 hl rfl (by decide) (by decide) rfl (fun ls hl => ?_)
                  have hl : lv_has ls 5 [(3, .int 4), (4, .int (bc x 3)), (0, .long x), (2, .int 6)] := hl
                  refine lv_goto (tgt := 2) hx hb d_TX_areTypable_33 (by decide) ?_
                  refine lv_iload_n hx hb d_TX_areTypable_2 rfl (lv_at hl 0 rfl) ?_
                  refine lv_iload_n hx hb d_TX_areTypable_3 rfl (lv_at hl 3 rfl) ?_
                  refine lv_icmp_ge (tgt := 36) hx hb d_TX_areTypable_4 (by decide) (fun h9 => absurd h9 (by decide)) (fun _ => ?_)
                  refine lv_lload_n hx hb d_TX_areTypable_7 rfl (lv_at hl 2 rfl) ?_
                  refine lv_iload_n hx hb d_TX_areTypable_8 rfl (lv_at hl 0 rfl) ?_
                  refine pu_calli (va_runS (As := [.long x, .int 4]) (rest := []) ⟨hx, hb, hml, hown, hts⟩ (c_TX_byteOf l dC dI (x) (4)) (wd_S 2 hts k_351 k_2 k_349 k_350 rfl rfl (by decide +kernel) ⟨Nat.le_of_ble_eq_true rfl, Nat.le_of_ble_eq_true rfl⟩) ⟨fun a U g mk q => by obtain ⟨q0, qP, qK, qN⟩ := q; exact ⟨q0, qP, va_K.moved (u := U) (U := U.calling g mk a) (Vm.Alike.refl U.vm) qK, nw_ok.same (s := U) (U := U.calling g mk a) rfl qN⟩, fun U hU hW => ⟨rfl, by rw [hU]; exact hP.sub (ws' := []) [] rfl, va_K.moved hW.alike (hK.sub (tys' := []) [] rfl), nw_ok.warm hW hN⟩⟩ rfl rfl hl.1 rfl (lv_room (Nat.le_of_ble_eq_true rfl)) d_TX_areTypable_9 ⟨Nat.le_of_ble_eq_true rfl, Nat.le_of_ble_eq_true rfl⟩) (fun r5 hr5 => ?_)
                  try dsimp only at hr5
                  subst hr5
                  refine lv_istore hx hb d_TX_areTypable_12 hl (by decide) rfl (fun ls hl => ?_)
                  have hl : lv_has ls 5 [(4, .int (bc x 4)), (3, .int 4), (0, .long x), (2, .int 6)] := hl
                  refine lv_iload hx hb d_TX_areTypable_14 (lv_at hl 0 rfl) ?_
                  refine lv_bipush (v := 32) hx hb d_TX_areTypable_16 (by decide) ?_
                  refine lv_icmp_lt (tgt := 28) hx hb d_TX_areTypable_18 (by decide) (fun hc9 => ?_) (fun hc9 => ?_)
                  · refine lv_iconst (v := 0) hx hb d_TX_areTypable_28 (by decide) ?_
                    exact W.zret (v := 0) (ty := .boolean) hx hb hr (by decide +kernel) (fun t ht hW => ⟨⟨0, (), rfl, rfl, trivial⟩, hS.F ht⟩) hS.2.2 d_TX_areTypable_29
                  · refine lv_iload hx hb d_TX_areTypable_21 (lv_at hl 0 rfl) ?_
                    refine lv_bipush (v := 126) hx hb d_TX_areTypable_23 (by decide) ?_
                    refine lv_icmp_le (tgt := 30) hx hb d_TX_areTypable_25 (by decide) (fun hc10 => ?_) (fun hc10 => ?_)
                    · refine lv_iinc (k := 1) (v := 5) hx hb d_TX_areTypable_30 hl rfl (by decide) (by decide) rfl (fun ls hl => ?_)
                      have hl : lv_has ls 5 [(3, .int 5), (4, .int (bc x 4)), (0, .long x), (2, .int 6)] := hl
                      refine lv_goto (tgt := 2) hx hb d_TX_areTypable_33 (by decide) ?_
                      refine lv_iload_n hx hb d_TX_areTypable_2 rfl (lv_at hl 0 rfl) ?_
                      refine lv_iload_n hx hb d_TX_areTypable_3 rfl (lv_at hl 3 rfl) ?_
                      refine lv_icmp_ge (tgt := 36) hx hb d_TX_areTypable_4 (by decide) (fun h9 => absurd h9 (by decide)) (fun _ => ?_)
                      refine lv_lload_n hx hb d_TX_areTypable_7 rfl (lv_at hl 2 rfl) ?_
                      refine lv_iload_n hx hb d_TX_areTypable_8 rfl (lv_at hl 0 rfl) ?_
                      refine pu_calli (va_runS (As := [.long x, .int 5]) (rest := []) ⟨hx, hb, hml, hown, hts⟩ (c_TX_byteOf l dC dI (x) (5)) (wd_S 2 hts k_351 k_2 k_349 k_350 rfl rfl (by decide +kernel) ⟨Nat.le_of_ble_eq_true rfl, Nat.le_of_ble_eq_true rfl⟩) ⟨fun a U g mk q => by obtain ⟨q0, qP, qK, qN⟩ := q; exact ⟨q0, qP, va_K.moved (u := U) (U := U.calling g mk a) (Vm.Alike.refl U.vm) qK, nw_ok.same (s := U) (U := U.calling g mk a) rfl qN⟩, fun U hU hW => ⟨rfl, by rw [hU]; exact hP.sub (ws' := []) [] rfl, va_K.moved hW.alike (hK.sub (tys' := []) [] rfl), nw_ok.warm hW hN⟩⟩ rfl rfl hl.1 rfl (lv_room (Nat.le_of_ble_eq_true rfl)) d_TX_areTypable_9 ⟨Nat.le_of_ble_eq_true rfl, Nat.le_of_ble_eq_true rfl⟩) (fun r6 hr6 => ?_)
                      try dsimp only at hr6
                      subst hr6
                      refine lv_istore hx hb d_TX_areTypable_12 hl (by decide) rfl (fun ls hl => ?_)
                      have hl : lv_has ls 5 [(4, .int (bc x 5)), (3, .int 5), (0, .long x), (2, .int 6)] := hl
                      refine lv_iload hx hb d_TX_areTypable_14 (lv_at hl 0 rfl) ?_
                      refine lv_bipush (v := 32) hx hb d_TX_areTypable_16 (by decide) ?_
                      refine lv_icmp_lt (tgt := 28) hx hb d_TX_areTypable_18 (by decide) (fun hc11 => ?_) (fun hc11 => ?_)
                      · refine lv_iconst (v := 0) hx hb d_TX_areTypable_28 (by decide) ?_
                        exact W.zret (v := 0) (ty := .boolean) hx hb hr (by decide +kernel) (fun t ht hW => ⟨⟨0, (), rfl, rfl, trivial⟩, hS.F ht⟩) hS.2.2 d_TX_areTypable_29
                      · refine lv_iload hx hb d_TX_areTypable_21 (lv_at hl 0 rfl) ?_
                        refine lv_bipush (v := 126) hx hb d_TX_areTypable_23 (by decide) ?_
                        refine lv_icmp_le (tgt := 30) hx hb d_TX_areTypable_25 (by decide) (fun hc12 => ?_) (fun hc12 => ?_)
                        · refine lv_iinc (k := 1) (v := 6) hx hb d_TX_areTypable_30 hl rfl (by decide) (by decide) rfl (fun ls hl => ?_)
                          have hl : lv_has ls 5 [(3, .int 6), (4, .int (bc x 5)), (0, .long x), (2, .int 6)] := hl
                          refine lv_goto (tgt := 2) hx hb d_TX_areTypable_33 (by decide) ?_
                          refine lv_iload_n hx hb d_TX_areTypable_2 rfl (lv_at hl 0 rfl) ?_
                          refine lv_iload_n hx hb d_TX_areTypable_3 rfl (lv_at hl 3 rfl) ?_
                          refine lv_icmp_ge (tgt := 36) hx hb d_TX_areTypable_4 (by decide) (fun _ => ?_) (fun h9 => absurd (by decide) h9)
                          exact absurd ⟨okc (d := 0) (by decide) hc1 hc2, okc (d := 8) (by decide) hc3 hc4, okc (d := 16) (by decide) hc5 hc6, okc (d := 24) (by decide) hc7 hc8, okc (d := 32) (by decide) hc9 hc10, okc (d := 40) (by decide) hc11 hc12⟩ g
                        · refine lv_iconst (v := 0) hx hb d_TX_areTypable_28 (by decide) ?_
                          exact W.zret (v := 0) (ty := .boolean) hx hb hr (by decide +kernel) (fun t ht hW => ⟨⟨0, (), rfl, rfl, trivial⟩, hS.F ht⟩) hS.2.2 d_TX_areTypable_29
                    · refine lv_iconst (v := 0) hx hb d_TX_areTypable_28 (by decide) ?_
                      exact W.zret (v := 0) (ty := .boolean) hx hb hr (by decide +kernel) (fun t ht hW => ⟨⟨0, (), rfl, rfl, trivial⟩, hS.F ht⟩) hS.2.2 d_TX_areTypable_29
                · refine lv_iconst (v := 0) hx hb d_TX_areTypable_28 (by decide) ?_
                  exact W.zret (v := 0) (ty := .boolean) hx hb hr (by decide +kernel) (fun t ht hW => ⟨⟨0, (), rfl, rfl, trivial⟩, hS.F ht⟩) hS.2.2 d_TX_areTypable_29
            · refine lv_iconst (v := 0) hx hb d_TX_areTypable_28 (by decide) ?_
              exact W.zret (v := 0) (ty := .boolean) hx hb hr (by decide +kernel) (fun t ht hW => ⟨⟨0, (), rfl, rfl, trivial⟩, hS.F ht⟩) hS.2.2 d_TX_areTypable_29
        · refine lv_iconst (v := 0) hx hb d_TX_areTypable_28 (by decide) ?_
          exact W.zret (v := 0) (ty := .boolean) hx hb hr (by decide +kernel) (fun t ht hW => ⟨⟨0, (), rfl, rfl, trivial⟩, hS.F ht⟩) hS.2.2 d_TX_areTypable_29
    · refine lv_iconst (v := 0) hx hb d_TX_areTypable_28 (by decide) ?_
      exact W.zret (v := 0) (ty := .boolean) hx hb hr (by decide +kernel) (fun t ht hW => ⟨⟨0, (), rfl, rfl, trivial⟩, hS.F ht⟩) hS.2.2 d_TX_areTypable_29

set_option maxHeartbeats 4000000 in
set_option maxRecDepth 100000 in
theorem c_TX_areTypable_7y (l : Launch) (dC : Nat → ClassId) (dI : Nat → Nat → Nat) (x : Int64) (g : ok x 0 ∧ ok x 8 ∧ ok x 16 ∧ ok x 24 ∧ ok x 32 ∧ ok x 40 ∧ ok x 48) : Met l y_TX_areTypable (Cond.code y_TX_areTypable b_TX_areTypable 5 (Option.some Jvm.ClassFile.FieldType.boolean) :: wd) { frames := 1, cells := 0, slots := 0, locals := 22 } (va_Pc [.long x, .int 7] (fun U => va_P (dC, dI) cls [] U.heap ∧ va_K (dC, dI) cls [] U ∧ nw_ok U)) (va_Qi (fun r (_ : Unit) => r = 1) (fun _ _ => True) (fun _ => False)) 0 0 (fun _ => False) := by
  refine Met.ofW (cc := b_TX_areTypable) (maxL := 5) (ret := (Option.some Jvm.ClassFile.FieldType.boolean)) (by decide) rfl ?_
  intro p e s m args below meth c s₁ B hml hv
  obtain ⟨rfl, hP, hK, hN⟩ := hv
  have hx := B.exec
  have hb := B.bytes
  have hr := B.returns
  have hlocks := B.notSynchronized
  have hts : ∀ w ∈ wd, w.before ([.long x, .int 7] : List Value).toArray s = true := fun w hw => atoms_spec (ws := (Cond.code y_TX_areTypable b_TX_areTypable 5 (Option.some Jvm.ClassFile.FieldType.boolean) :: wd)) B.pre w (List.mem_cons_of_mem _ hw)
  have hown : s.vm.findClass "LeastSolutions$Text" = some m.cls := findClass_of_methodNamed B.named
  have hS : va_S (fun _ => False) s.heap s.heap [] := va_S.rf
  have hl := lv_entry ([.long x, .int 7]) (n := 5) (Nat.le_of_ble_eq_true rfl)
  rw [lg_entry_eq]
  generalize (lg_sl ([.long x, .int 7]) ++ List.replicate (5 - (lg_sl ([.long x, .int 7])).length) Slot.unset).toArray = ls at hl ⊢
  have hl : lv_has ls 5 [(0, .long x), (2, .int 7)] := hl
  refine lv_iconst (v := 0) hx hb d_TX_areTypable_0 (by decide) ?_
  refine lv_istore_n hx hb d_TX_areTypable_1 rfl hl (by decide) rfl (fun ls hl => ?_)
  have hl : lv_has ls 5 [(3, .int 0), (0, .long x), (2, .int 7)] := hl
  refine lv_iload_n hx hb d_TX_areTypable_2 rfl (lv_at hl 0 rfl) ?_
  refine lv_iload_n hx hb d_TX_areTypable_3 rfl (lv_at hl 2 rfl) ?_
  refine lv_icmp_ge (tgt := 36) hx hb d_TX_areTypable_4 (by decide) (fun h9 => absurd h9 (by decide)) (fun _ => ?_)
  refine lv_lload_n hx hb d_TX_areTypable_7 rfl (lv_at hl 1 rfl) ?_
  refine lv_iload_n hx hb d_TX_areTypable_8 rfl (lv_at hl 0 rfl) ?_
  refine pu_calli (va_runS (As := [.long x, .int 0]) (rest := []) ⟨hx, hb, hml, hown, hts⟩ (c_TX_byteOf l dC dI (x) (0)) (wd_S 2 hts k_351 k_2 k_349 k_350 rfl rfl (by decide +kernel) ⟨Nat.le_of_ble_eq_true rfl, Nat.le_of_ble_eq_true rfl⟩) ⟨fun a U g mk q => by obtain ⟨q0, qP, qK, qN⟩ := q; exact ⟨q0, qP, va_K.moved (u := U) (U := U.calling g mk a) (Vm.Alike.refl U.vm) qK, nw_ok.same (s := U) (U := U.calling g mk a) rfl qN⟩, fun U hU hW => ⟨rfl, by rw [hU]; exact hP.sub (ws' := []) [] rfl, va_K.moved hW.alike (hK.sub (tys' := []) [] rfl), nw_ok.warm hW hN⟩⟩ rfl rfl hl.1 rfl (lv_room (Nat.le_of_ble_eq_true rfl)) d_TX_areTypable_9 ⟨Nat.le_of_ble_eq_true rfl, Nat.le_of_ble_eq_true rfl⟩) (fun r1 hr1 => ?_)
  try dsimp only at hr1
  subst hr1
  refine lv_istore hx hb d_TX_areTypable_12 hl (by decide) rfl (fun ls hl => ?_)
  have hl : lv_has ls 5 [(4, .int (bc x 0)), (3, .int 0), (0, .long x), (2, .int 7)] := hl
  refine lv_iload hx hb d_TX_areTypable_14 (lv_at hl 0 rfl) ?_
  refine lv_bipush (v := 32) hx hb d_TX_areTypable_16 (by decide) ?_
  refine lv_icmp_lt (tgt := 28) hx hb d_TX_areTypable_18 (by decide) (fun h9 => absurd h9 (okc1 (d := 0) (by decide) (g.1))) (fun _ => ?_)
  refine lv_iload hx hb d_TX_areTypable_21 (lv_at hl 0 rfl) ?_
  refine lv_bipush (v := 126) hx hb d_TX_areTypable_23 (by decide) ?_
  refine lv_icmp_le (tgt := 30) hx hb d_TX_areTypable_25 (by decide) (fun _ => ?_) (fun h9 => absurd (okc2 (d := 0) (by decide) (g.1)) h9)
  refine lv_iinc (k := 1) (v := 1) hx hb d_TX_areTypable_30 hl rfl (by decide) (by decide) rfl (fun ls hl => ?_)
  have hl : lv_has ls 5 [(3, .int 1), (4, .int (bc x 0)), (0, .long x), (2, .int 7)] := hl
  refine lv_goto (tgt := 2) hx hb d_TX_areTypable_33 (by decide) ?_
  refine lv_iload_n hx hb d_TX_areTypable_2 rfl (lv_at hl 0 rfl) ?_
  refine lv_iload_n hx hb d_TX_areTypable_3 rfl (lv_at hl 3 rfl) ?_
  refine lv_icmp_ge (tgt := 36) hx hb d_TX_areTypable_4 (by decide) (fun h9 => absurd h9 (by decide)) (fun _ => ?_)
  refine lv_lload_n hx hb d_TX_areTypable_7 rfl (lv_at hl 2 rfl) ?_
  refine lv_iload_n hx hb d_TX_areTypable_8 rfl (lv_at hl 0 rfl) ?_
  refine pu_calli (va_runS (As := [.long x, .int 1]) (rest := []) ⟨hx, hb, hml, hown, hts⟩ (c_TX_byteOf l dC dI (x) (1)) (wd_S 2 hts k_351 k_2 k_349 k_350 rfl rfl (by decide +kernel) ⟨Nat.le_of_ble_eq_true rfl, Nat.le_of_ble_eq_true rfl⟩) ⟨fun a U g mk q => by obtain ⟨q0, qP, qK, qN⟩ := q; exact ⟨q0, qP, va_K.moved (u := U) (U := U.calling g mk a) (Vm.Alike.refl U.vm) qK, nw_ok.same (s := U) (U := U.calling g mk a) rfl qN⟩, fun U hU hW => ⟨rfl, by rw [hU]; exact hP.sub (ws' := []) [] rfl, va_K.moved hW.alike (hK.sub (tys' := []) [] rfl), nw_ok.warm hW hN⟩⟩ rfl rfl hl.1 rfl (lv_room (Nat.le_of_ble_eq_true rfl)) d_TX_areTypable_9 ⟨Nat.le_of_ble_eq_true rfl, Nat.le_of_ble_eq_true rfl⟩) (fun r2 hr2 => ?_)
  try dsimp only at hr2
  subst hr2
  refine lv_istore hx hb d_TX_areTypable_12 hl (by decide) rfl (fun ls hl => ?_)
  have hl : lv_has ls 5 [(4, .int (bc x 1)), (3, .int 1), (0, .long x), (2, .int 7)] := hl
  refine lv_iload hx hb d_TX_areTypable_14 (lv_at hl 0 rfl) ?_
  refine lv_bipush (v := 32) hx hb d_TX_areTypable_16 (by decide) ?_
  refine lv_icmp_lt (tgt := 28) hx hb d_TX_areTypable_18 (by decide) (fun h9 => absurd h9 (okc1 (d := 8) (by decide) (g.2.1))) (fun _ => ?_)
  refine lv_iload hx hb d_TX_areTypable_21 (lv_at hl 0 rfl) ?_
  refine lv_bipush (v := 126) hx hb d_TX_areTypable_23 (by decide) ?_
  refine lv_icmp_le (tgt := 30) hx hb d_TX_areTypable_25 (by decide) (fun _ => ?_) (fun h9 => absurd (okc2 (d := 8) (by decide) (g.2.1)) h9)
  refine lv_iinc (k := 1) (v := 2) hx hb d_TX_areTypable_30 hl rfl (by decide) (by decide) rfl (fun ls hl => ?_)
  have hl : lv_has ls 5 [(3, .int 2), (4, .int (bc x 1)), (0, .long x), (2, .int 7)] := hl
  refine lv_goto (tgt := 2) hx hb d_TX_areTypable_33 (by decide) ?_
  refine lv_iload_n hx hb d_TX_areTypable_2 rfl (lv_at hl 0 rfl) ?_
  refine lv_iload_n hx hb d_TX_areTypable_3 rfl (lv_at hl 3 rfl) ?_
  refine lv_icmp_ge (tgt := 36) hx hb d_TX_areTypable_4 (by decide) (fun h9 => absurd h9 (by decide)) (fun _ => ?_)
  refine lv_lload_n hx hb d_TX_areTypable_7 rfl (lv_at hl 2 rfl) ?_
  refine lv_iload_n hx hb d_TX_areTypable_8 rfl (lv_at hl 0 rfl) ?_
  refine pu_calli (va_runS (As := [.long x, .int 2]) (rest := []) ⟨hx, hb, hml, hown, hts⟩ (c_TX_byteOf l dC dI (x) (2)) (wd_S 2 hts k_351 k_2 k_349 k_350 rfl rfl (by decide +kernel) ⟨Nat.le_of_ble_eq_true rfl, Nat.le_of_ble_eq_true rfl⟩) ⟨fun a U g mk q => by obtain ⟨q0, qP, qK, qN⟩ := q; exact ⟨q0, qP, va_K.moved (u := U) (U := U.calling g mk a) (Vm.Alike.refl U.vm) qK, nw_ok.same (s := U) (U := U.calling g mk a) rfl qN⟩, fun U hU hW => ⟨rfl, by rw [hU]; exact hP.sub (ws' := []) [] rfl, va_K.moved hW.alike (hK.sub (tys' := []) [] rfl), nw_ok.warm hW hN⟩⟩ rfl rfl hl.1 rfl (lv_room (Nat.le_of_ble_eq_true rfl)) d_TX_areTypable_9 ⟨Nat.le_of_ble_eq_true rfl, Nat.le_of_ble_eq_true rfl⟩) (fun r3 hr3 => ?_)
  try dsimp only at hr3
  subst hr3
  refine lv_istore hx hb d_TX_areTypable_12 hl (by decide) rfl (fun ls hl => ?_)
  have hl : lv_has ls 5 [(4, .int (bc x 2)), (3, .int 2), (0, .long x), (2, .int 7)] := hl
  refine lv_iload hx hb d_TX_areTypable_14 (lv_at hl 0 rfl) ?_
  refine lv_bipush (v := 32) hx hb d_TX_areTypable_16 (by decide) ?_
  refine lv_icmp_lt (tgt := 28) hx hb d_TX_areTypable_18 (by decide) (fun h9 => absurd h9 (okc1 (d := 16) (by decide) (g.2.2.1))) (fun _ => ?_)
  refine lv_iload hx hb d_TX_areTypable_21 (lv_at hl 0 rfl) ?_
  refine lv_bipush (v := 126) hx hb d_TX_areTypable_23 (by decide) ?_
  refine lv_icmp_le (tgt := 30) hx hb d_TX_areTypable_25 (by decide) (fun _ => ?_) (fun h9 => absurd (okc2 (d := 16) (by decide) (g.2.2.1)) h9)
  refine lv_iinc (k := 1) (v := 3) hx hb d_TX_areTypable_30 hl rfl (by decide) (by decide) rfl (fun ls hl => ?_)
  have hl : lv_has ls 5 [(3, .int 3), (4, .int (bc x 2)), (0, .long x), (2, .int 7)] := hl
  refine lv_goto (tgt := 2) hx hb d_TX_areTypable_33 (by decide) ?_
  refine lv_iload_n hx hb d_TX_areTypable_2 rfl (lv_at hl 0 rfl) ?_
  refine lv_iload_n hx hb d_TX_areTypable_3 rfl (lv_at hl 3 rfl) ?_
  refine lv_icmp_ge (tgt := 36) hx hb d_TX_areTypable_4 (by decide) (fun h9 => absurd h9 (by decide)) (fun _ => ?_)
  refine lv_lload_n hx hb d_TX_areTypable_7 rfl (lv_at hl 2 rfl) ?_
  refine lv_iload_n hx hb d_TX_areTypable_8 rfl (lv_at hl 0 rfl) ?_
  refine pu_calli (va_runS (As := [.long x, .int 3]) (rest := []) ⟨hx, hb, hml, hown, hts⟩ (c_TX_byteOf l dC dI (x) (3)) (wd_S 2 hts k_351 k_2 k_349 k_350 rfl rfl (by decide +kernel) ⟨Nat.le_of_ble_eq_true rfl, Nat.le_of_ble_eq_true rfl⟩) ⟨fun a U g mk q => by obtain ⟨q0, qP, qK, qN⟩ := q; exact ⟨q0, qP, va_K.moved (u := U) (U := U.calling g mk a) (Vm.Alike.refl U.vm) qK, nw_ok.same (s := U) (U := U.calling g mk a) rfl qN⟩, fun U hU hW => ⟨rfl, by rw [hU]; exact hP.sub (ws' := []) [] rfl, va_K.moved hW.alike (hK.sub (tys' := []) [] rfl), nw_ok.warm hW hN⟩⟩ rfl rfl hl.1 rfl (lv_room (Nat.le_of_ble_eq_true rfl)) d_TX_areTypable_9 ⟨Nat.le_of_ble_eq_true rfl, Nat.le_of_ble_eq_true rfl⟩) (fun r4 hr4 => ?_)
  try dsimp only at hr4
  subst hr4
  refine lv_istore hx hb d_TX_areTypable_12 hl (by decide) rfl (fun ls hl => ?_)
  have hl : lv_has ls 5 [(4, .int (bc x 3)), (3, .int 3), (0, .long x), (2, .int 7)] := hl
  refine lv_iload hx hb d_TX_areTypable_14 (lv_at hl 0 rfl) ?_
  refine lv_bipush (v := 32) hx hb d_TX_areTypable_16 (by decide) ?_
  refine lv_icmp_lt (tgt := 28) hx hb d_TX_areTypable_18 (by decide) (fun h9 => absurd h9 (okc1 (d := 24) (by decide) (g.2.2.2.1))) (fun _ => ?_)
  refine lv_iload hx hb d_TX_areTypable_21 (lv_at hl 0 rfl) ?_
  refine lv_bipush (v := 126) hx hb d_TX_areTypable_23 (by decide) ?_
  refine lv_icmp_le (tgt := 30) hx hb d_TX_areTypable_25 (by decide) (fun _ => ?_) (fun h9 => absurd (okc2 (d := 24) (by decide) (g.2.2.2.1)) h9)
  refine lv_iinc (k := 1) (v := 4) hx hb d_TX_areTypable_30 hl rfl (by decide) (by decide) rfl (fun ls hl => ?_)
  have hl : lv_has ls 5 [(3, .int 4), (4, .int (bc x 3)), (0, .long x), (2, .int 7)] := hl
  refine lv_goto (tgt := 2) hx hb d_TX_areTypable_33 (by decide) ?_
  refine lv_iload_n hx hb d_TX_areTypable_2 rfl (lv_at hl 0 rfl) ?_
  refine lv_iload_n hx hb d_TX_areTypable_3 rfl (lv_at hl 3 rfl) ?_
  refine lv_icmp_ge (tgt := 36) hx hb d_TX_areTypable_4 (by decide) (fun h9 => absurd h9 (by decide)) (fun _ => ?_)
  refine lv_lload_n hx hb d_TX_areTypable_7 rfl (lv_at hl 2 rfl) ?_
  refine lv_iload_n hx hb d_TX_areTypable_8 rfl (lv_at hl 0 rfl) ?_
  refine pu_calli (va_runS (As := [.long x, .int 4]) (rest := []) ⟨hx, hb, hml, hown, hts⟩ (c_TX_byteOf l dC dI (x) (4)) (wd_S 2 hts k_351 k_2 k_349 k_350 rfl rfl (by decide +kernel) ⟨Nat.le_of_ble_eq_true rfl, Nat.le_of_ble_eq_true rfl⟩) ⟨fun a U g mk q => by obtain ⟨q0, qP, qK, qN⟩ := q; exact ⟨q0, qP, va_K.moved (u := U) (U := U.calling g mk a) (Vm.Alike.refl U.vm) qK, nw_ok.same (s := U) (U := U.calling g mk a) rfl qN⟩, fun U hU hW => ⟨rfl, by rw [hU]; exact hP.sub (ws' := []) [] rfl, va_K.moved hW.alike (hK.sub (tys' := []) [] rfl), nw_ok.warm hW hN⟩⟩ rfl rfl hl.1 rfl (lv_room (Nat.le_of_ble_eq_true rfl)) d_TX_areTypable_9 ⟨Nat.le_of_ble_eq_true rfl, Nat.le_of_ble_eq_true rfl⟩) (fun r5 hr5 => ?_)
  try dsimp only at hr5
  subst hr5
  refine lv_istore hx hb d_TX_areTypable_12 hl (by decide) rfl (fun ls hl => ?_)
  have hl : lv_has ls 5 [(4, .int (bc x 4)), (3, .int 4), (0, .long x), (2, .int 7)] := hl
  refine lv_iload hx hb d_TX_areTypable_14 (lv_at hl 0 rfl) ?_
  refine lv_bipush (v := 32) hx hb d_TX_areTypable_16 (by decide) ?_
  refine lv_icmp_lt (tgt := 28) hx hb d_TX_areTypable_18 (by decide) (fun h9 => absurd h9 (okc1 (d := 32) (by decide) (g.2.2.2.2.1))) (fun _ => ?_)
  refine lv_iload hx hb d_TX_areTypable_21 (lv_at hl 0 rfl) ?_
  refine lv_bipush (v := 126) hx hb d_TX_areTypable_23 (by decide) ?_
  refine lv_icmp_le (tgt := 30) hx hb d_TX_areTypable_25 (by decide) (fun _ => ?_) (fun h9 => absurd (okc2 (d := 32) (by decide) (g.2.2.2.2.1)) h9)
  refine lv_iinc (k := 1) (v := 5) hx hb d_TX_areTypable_30 hl rfl (by decide) (by decide) rfl (fun ls hl => ?_)
  have hl : lv_has ls 5 [(3, .int 5), (4, .int (bc x 4)), (0, .long x), (2, .int 7)] := hl
  refine lv_goto (tgt := 2) hx hb d_TX_areTypable_33 (by decide) ?_
  refine lv_iload_n hx hb d_TX_areTypable_2 rfl (lv_at hl 0 rfl) ?_
  refine lv_iload_n hx hb d_TX_areTypable_3 rfl (lv_at hl 3 rfl) ?_
  refine lv_icmp_ge (tgt := 36) hx hb d_TX_areTypable_4 (by decide) (fun h9 => absurd h9 (by decide)) (fun _ => ?_)
  refine lv_lload_n hx hb d_TX_areTypable_7 rfl (lv_at hl 2 rfl) ?_
  refine lv_iload_n hx hb d_TX_areTypable_8 rfl (lv_at hl 0 rfl) ?_
  refine pu_calli (va_runS (As := [.long x, .int 5]) (rest := []) ⟨hx, hb, hml, hown, hts⟩ (c_TX_byteOf l dC dI (x) (5)) (wd_S 2 hts k_351 k_2 k_349 k_350 rfl rfl (by decide +kernel) ⟨Nat.le_of_ble_eq_true rfl, Nat.le_of_ble_eq_true rfl⟩) ⟨fun a U g mk q => by obtain ⟨q0, qP, qK, qN⟩ := q; exact ⟨q0, qP, va_K.moved (u := U) (U := U.calling g mk a) (Vm.Alike.refl U.vm) qK, nw_ok.same (s := U) (U := U.calling g mk a) rfl qN⟩, fun U hU hW => ⟨rfl, by rw [hU]; exact hP.sub (ws' := []) [] rfl, va_K.moved hW.alike (hK.sub (tys' := []) [] rfl), nw_ok.warm hW hN⟩⟩ rfl rfl hl.1 rfl (lv_room (Nat.le_of_ble_eq_true rfl)) d_TX_areTypable_9 ⟨Nat.le_of_ble_eq_true rfl, Nat.le_of_ble_eq_true rfl⟩) (fun r6 hr6 => ?_)
  try dsimp only at hr6
  subst hr6
  refine lv_istore hx hb d_TX_areTypable_12 hl (by decide) rfl (fun ls hl => ?_)
  have hl : lv_has ls 5 [(4, .int (bc x 5)), (3, .int 5), (0, .long x), (2, .int 7)] := hl
  refine lv_iload hx hb d_TX_areTypable_14 (lv_at hl 0 rfl) ?_
  refine lv_bipush (v := 32) hx hb d_TX_areTypable_16 (by decide) ?_
  refine lv_icmp_lt (tgt := 28) hx hb d_TX_areTypable_18 (by decide) (fun h9 => absurd h9 (okc1 (d := 40) (by decide) (g.2.2.2.2.2.1))) (fun _ => ?_)
  refine lv_iload hx hb d_TX_areTypable_21 (lv_at hl 0 rfl) ?_
  refine lv_bipush (v := 126) hx hb d_TX_areTypable_23 (by decide) ?_
  refine lv_icmp_le (tgt := 30) hx hb d_TX_areTypable_25 (by decide) (fun _ => ?_) (fun h9 => absurd (okc2 (d := 40) (by decide) (g.2.2.2.2.2.1)) h9)
  refine lv_iinc (k := 1) (v := 6) hx hb d_TX_areTypable_30 hl rfl (by decide) (by decide) rfl (fun ls hl => ?_)
  have hl : lv_has ls 5 [(3, .int 6), (4, .int (bc x 5)), (0, .long x), (2, .int 7)] := hl
  refine lv_goto (tgt := 2) hx hb d_TX_areTypable_33 (by decide) ?_
  refine lv_iload_n hx hb d_TX_areTypable_2 rfl (lv_at hl 0 rfl) ?_
  refine lv_iload_n hx hb d_TX_areTypable_3 rfl (lv_at hl 3 rfl) ?_
  refine lv_icmp_ge (tgt := 36) hx hb d_TX_areTypable_4 (by decide) (fun h9 => absurd h9 (by decide)) (fun _ => ?_)
  refine lv_lload_n hx hb d_TX_areTypable_7 rfl (lv_at hl 2 rfl) ?_
  refine lv_iload_n hx hb d_TX_areTypable_8 rfl (lv_at hl 0 rfl) ?_
  refine pu_calli (va_runS (As := [.long x, .int 6]) (rest := []) ⟨hx, hb, hml, hown, hts⟩ (c_TX_byteOf l dC dI (x) (6)) (wd_S 2 hts k_351 k_2 k_349 k_350 rfl rfl (by decide +kernel) ⟨Nat.le_of_ble_eq_true rfl, Nat.le_of_ble_eq_true rfl⟩) ⟨fun a U g mk q => by obtain ⟨q0, qP, qK, qN⟩ := q; exact ⟨q0, qP, va_K.moved (u := U) (U := U.calling g mk a) (Vm.Alike.refl U.vm) qK, nw_ok.same (s := U) (U := U.calling g mk a) rfl qN⟩, fun U hU hW => ⟨rfl, by rw [hU]; exact hP.sub (ws' := []) [] rfl, va_K.moved hW.alike (hK.sub (tys' := []) [] rfl), nw_ok.warm hW hN⟩⟩ rfl rfl hl.1 rfl (lv_room (Nat.le_of_ble_eq_true rfl)) d_TX_areTypable_9 ⟨Nat.le_of_ble_eq_true rfl, Nat.le_of_ble_eq_true rfl⟩) (fun r7 hr7 => ?_)
  try dsimp only at hr7
  subst hr7
  refine lv_istore hx hb d_TX_areTypable_12 hl (by decide) rfl (fun ls hl => ?_)
  have hl : lv_has ls 5 [(4, .int (bc x 6)), (3, .int 6), (0, .long x), (2, .int 7)] := hl
  refine lv_iload hx hb d_TX_areTypable_14 (lv_at hl 0 rfl) ?_
  refine lv_bipush (v := 32) hx hb d_TX_areTypable_16 (by decide) ?_
  refine lv_icmp_lt (tgt := 28) hx hb d_TX_areTypable_18 (by decide) (fun h9 => absurd h9 (okc1 (d := 48) (by decide) (g.2.2.2.2.2.2))) (fun _ => ?_)
  refine lv_iload hx hb d_TX_areTypable_21 (lv_at hl 0 rfl) ?_
  refine lv_bipush (v := 126) hx hb d_TX_areTypable_23 (by decide) ?_
  refine lv_icmp_le (tgt := 30) hx hb d_TX_areTypable_25 (by decide) (fun _ => ?_) (fun h9 => absurd (okc2 (d := 48) (by decide) (g.2.2.2.2.2.2)) h9)
  refine lv_iinc (k := 1) (v := 7) hx hb d_TX_areTypable_30 hl rfl (by decide) (by decide) rfl (fun ls hl => ?_)
  have hl : lv_has ls 5 [(3, .int 7), (4, .int (bc x 6)), (0, .long x), (2, .int 7)] := hl
  refine lv_goto (tgt := 2) hx hb d_TX_areTypable_33 (by decide) ?_
  refine lv_iload_n hx hb d_TX_areTypable_2 rfl (lv_at hl 0 rfl) ?_
  refine lv_iload_n hx hb d_TX_areTypable_3 rfl (lv_at hl 3 rfl) ?_
  refine lv_icmp_ge (tgt := 36) hx hb d_TX_areTypable_4 (by decide) (fun _ => ?_) (fun h9 => absurd (by decide) h9)
  refine lv_iconst (v := 1) hx hb d_TX_areTypable_36 (by decide) ?_
  exact W.zret (v := 1) (ty := .boolean) hx hb hr (by decide +kernel) (fun t ht hW => ⟨⟨1, (), rfl, rfl, trivial⟩, hS.F ht⟩) hS.2.2 d_TX_areTypable_37

set_option maxHeartbeats 4000000 in
set_option maxRecDepth 100000 in
theorem c_TX_areTypable_7n (l : Launch) (dC : Nat → ClassId) (dI : Nat → Nat → Nat) (x : Int64) (g : ¬ (ok x 0 ∧ ok x 8 ∧ ok x 16 ∧ ok x 24 ∧ ok x 32 ∧ ok x 40 ∧ ok x 48)) : Met l y_TX_areTypable (Cond.code y_TX_areTypable b_TX_areTypable 5 (Option.some Jvm.ClassFile.FieldType.boolean) :: wd) { frames := 1, cells := 0, slots := 0, locals := 22 } (va_Pc [.long x, .int 7] (fun U => va_P (dC, dI) cls [] U.heap ∧ va_K (dC, dI) cls [] U ∧ nw_ok U)) (va_Qi (fun r (_ : Unit) => r = 0) (fun _ _ => True) (fun _ => False)) 0 0 (fun _ => False) := by
  refine Met.ofW (cc := b_TX_areTypable) (maxL := 5) (ret := (Option.some Jvm.ClassFile.FieldType.boolean)) (by decide) rfl ?_
  intro p e s m args below meth c s₁ B hml hv
  obtain ⟨rfl, hP, hK, hN⟩ := hv
  have hx := B.exec
  have hb := B.bytes
  have hr := B.returns
  have hlocks := B.notSynchronized
  have hts : ∀ w ∈ wd, w.before ([.long x, .int 7] : List Value).toArray s = true := fun w hw => atoms_spec (ws := (Cond.code y_TX_areTypable b_TX_areTypable 5 (Option.some Jvm.ClassFile.FieldType.boolean) :: wd)) B.pre w (List.mem_cons_of_mem _ hw)
  have hown : s.vm.findClass "LeastSolutions$Text" = some m.cls := findClass_of_methodNamed B.named
  have hS : va_S (fun _ => False) s.heap s.heap [] := va_S.rf
  have hl := lv_entry ([.long x, .int 7]) (n := 5) (Nat.le_of_ble_eq_true rfl)
  rw [lg_entry_eq]
  generalize (lg_sl ([.long x, .int 7]) ++ List.replicate (5 - (lg_sl ([.long x, .int 7])).length) Slot.unset).toArray = ls at hl ⊢
  have hl : lv_has ls 5 [(0, .long x), (2, .int 7)] := hl
  refine lv_iconst (v := 0) hx hb d_TX_areTypable_0 (by decide) ?_
  refine lv_istore_n hx hb d_TX_areTypable_1 rfl hl (by decide) rfl (fun ls hl => ?_)
  have hl : lv_has ls 5 [(3, .int 0), (0, .long x), (2, .int 7)] := hl
  refine lv_iload_n hx hb d_TX_areTypable_2 rfl (lv_at hl 0 rfl) ?_
  refine lv_iload_n hx hb d_TX_areTypable_3 rfl (lv_at hl 2 rfl) ?_
  refine lv_icmp_ge (tgt := 36) hx hb d_TX_areTypable_4 (by decide) (fun h9 => absurd h9 (by decide)) (fun _ => ?_)
  refine lv_lload_n hx hb d_TX_areTypable_7 rfl (lv_at hl 1 rfl) ?_
  refine lv_iload_n hx hb d_TX_areTypable_8 rfl (lv_at hl 0 rfl) ?_
  refine pu_calli (va_runS (As := [.long x, .int 0]) (rest := []) ⟨hx, hb, hml, hown, hts⟩ (c_TX_byteOf l dC dI (x) (0)) (wd_S 2 hts k_351 k_2 k_349 k_350 rfl rfl (by decide +kernel) ⟨Nat.le_of_ble_eq_true rfl, Nat.le_of_ble_eq_true rfl⟩) ⟨fun a U g mk q => by obtain ⟨q0, qP, qK, qN⟩ := q; exact ⟨q0, qP, va_K.moved (u := U) (U := U.calling g mk a) (Vm.Alike.refl U.vm) qK, nw_ok.same (s := U) (U := U.calling g mk a) rfl qN⟩, fun U hU hW => ⟨rfl, by rw [hU]; exact hP.sub (ws' := []) [] rfl, va_K.moved hW.alike (hK.sub (tys' := []) [] rfl), nw_ok.warm hW hN⟩⟩ rfl rfl hl.1 rfl (lv_room (Nat.le_of_ble_eq_true rfl)) d_TX_areTypable_9 ⟨Nat.le_of_ble_eq_true rfl, Nat.le_of_ble_eq_true rfl⟩) (fun r1 hr1 => ?_)
  try dsimp only at hr1
  subst hr1
  refine lv_istore hx hb d_TX_areTypable_12 hl (by decide) rfl (fun ls hl => ?_)
  have hl : lv_has ls 5 [(4, .int (bc x 0)), (3, .int 0), (0, .long x), (2, .int 7)] := hl
  refine lv_iload hx hb d_TX_areTypable_14 (lv_at hl 0 rfl) ?_
  refine lv_bipush (v := 32) hx hb d_TX_areTypable_16 (by decide) ?_
  refine lv_icmp_lt (tgt := 28) hx hb d_TX_areTypable_18 (by decide) (fun hc1 => ?_) (fun hc1 => ?_)
  · refine lv_iconst (v := 0) hx hb d_TX_areTypable_28 (by decide) ?_
    exact W.zret (v := 0) (ty := .boolean) hx hb hr (by decide +kernel) (fun t ht hW => ⟨⟨0, (), rfl, rfl, trivial⟩, hS.F ht⟩) hS.2.2 d_TX_areTypable_29
  · refine lv_iload hx hb d_TX_areTypable_21 (lv_at hl 0 rfl) ?_
    refine lv_bipush (v := 126) hx hb d_TX_areTypable_23 (by decide) ?_
    refine lv_icmp_le (tgt := 30) hx hb d_TX_areTypable_25 (by decide) (fun hc2 => ?_) (fun hc2 => ?_)
    · refine lv_iinc (k := 1) (v := 1) hx hb d_TX_areTypable_30 hl rfl (by decide) (by decide) rfl (fun ls hl => ?_)
      have hl : lv_has ls 5 [(3, .int 1), (4, .int (bc x 0)), (0, .long x), (2, .int 7)] := hl
      refine lv_goto (tgt := 2) hx hb d_TX_areTypable_33 (by decide) ?_
      refine lv_iload_n hx hb d_TX_areTypable_2 rfl (lv_at hl 0 rfl) ?_
      refine lv_iload_n hx hb d_TX_areTypable_3 rfl (lv_at hl 3 rfl) ?_
      refine lv_icmp_ge (tgt := 36) hx hb d_TX_areTypable_4 (by decide) (fun h9 => absurd h9 (by decide)) (fun _ => ?_)
      refine lv_lload_n hx hb d_TX_areTypable_7 rfl (lv_at hl 2 rfl) ?_
      refine lv_iload_n hx hb d_TX_areTypable_8 rfl (lv_at hl 0 rfl) ?_
      refine pu_calli (va_runS (As := [.long x, .int 1]) (rest := []) ⟨hx, hb, hml, hown, hts⟩ (c_TX_byteOf l dC dI (x) (1)) (wd_S 2 hts k_351 k_2 k_349 k_350 rfl rfl (by decide +kernel) ⟨Nat.le_of_ble_eq_true rfl, Nat.le_of_ble_eq_true rfl⟩) ⟨fun a U g mk q => by obtain ⟨q0, qP, qK, qN⟩ := q; exact ⟨q0, qP, va_K.moved (u := U) (U := U.calling g mk a) (Vm.Alike.refl U.vm) qK, nw_ok.same (s := U) (U := U.calling g mk a) rfl qN⟩, fun U hU hW => ⟨rfl, by rw [hU]; exact hP.sub (ws' := []) [] rfl, va_K.moved hW.alike (hK.sub (tys' := []) [] rfl), nw_ok.warm hW hN⟩⟩ rfl rfl hl.1 rfl (lv_room (Nat.le_of_ble_eq_true rfl)) d_TX_areTypable_9 ⟨Nat.le_of_ble_eq_true rfl, Nat.le_of_ble_eq_true rfl⟩) (fun r2 hr2 => ?_)
      try dsimp only at hr2
      subst hr2
      refine lv_istore hx hb d_TX_areTypable_12 hl (by decide) rfl (fun ls hl => ?_)
      have hl : lv_has ls 5 [(4, .int (bc x 1)), (3, .int 1), (0, .long x), (2, .int 7)] := hl
      refine lv_iload hx hb d_TX_areTypable_14 (lv_at hl 0 rfl) ?_
      refine lv_bipush (v := 32) hx hb d_TX_areTypable_16 (by decide) ?_
      refine lv_icmp_lt (tgt := 28) hx hb d_TX_areTypable_18 (by decide) (fun hc3 => ?_) (fun hc3 => ?_)
      · refine lv_iconst (v := 0) hx hb d_TX_areTypable_28 (by decide) ?_
        exact W.zret (v := 0) (ty := .boolean) hx hb hr (by decide +kernel) (fun t ht hW => ⟨⟨0, (), rfl, rfl, trivial⟩, hS.F ht⟩) hS.2.2 d_TX_areTypable_29
      · refine lv_iload hx hb d_TX_areTypable_21 (lv_at hl 0 rfl) ?_
        refine lv_bipush (v := 126) hx hb d_TX_areTypable_23 (by decide) ?_
        refine lv_icmp_le (tgt := 30) hx hb d_TX_areTypable_25 (by decide) (fun hc4 => ?_) (fun hc4 => ?_)
        · refine lv_iinc (k := 1) (v := 2) hx hb d_TX_areTypable_30 hl rfl (by decide) (by decide) rfl (fun ls hl => ?_)
          have hl : lv_has ls 5 [(3, .int 2), (4, .int (bc x 1)), (0, .long x), (2, .int 7)] := hl
          refine lv_goto (tgt := 2) hx hb d_TX_areTypable_33 (by decide) ?_
          refine lv_iload_n hx hb d_TX_areTypable_2 rfl (lv_at hl 0 rfl) ?_
          refine lv_iload_n hx hb d_TX_areTypable_3 rfl (lv_at hl 3 rfl) ?_
          refine lv_icmp_ge (tgt := 36) hx hb d_TX_areTypable_4 (by decide) (fun h9 => absurd h9 (by decide)) (fun _ => ?_)
          refine lv_lload_n hx hb d_TX_areTypable_7 rfl (lv_at hl 2 rfl) ?_
          refine lv_iload_n hx hb d_TX_areTypable_8 rfl (lv_at hl 0 rfl) ?_
          refine pu_calli (va_runS (As := [.long x, .int 2]) (rest := []) ⟨hx, hb, hml, hown, hts⟩ (c_TX_byteOf l dC dI (x) (2)) (wd_S 2 hts k_351 k_2 k_349 k_350 rfl rfl (by decide +kernel) ⟨Nat.le_of_ble_eq_true rfl, Nat.le_of_ble_eq_true rfl⟩) ⟨fun a U g mk q => by obtain ⟨q0, qP, qK, qN⟩ := q; exact ⟨q0, qP, va_K.moved (u := U) (U := U.calling g mk a) (Vm.Alike.refl U.vm) qK, nw_ok.same (s := U) (U := U.calling g mk a) rfl qN⟩, fun U hU hW => ⟨rfl, by rw [hU]; exact hP.sub (ws' := []) [] rfl, va_K.moved hW.alike (hK.sub (tys' := []) [] rfl), nw_ok.warm hW hN⟩⟩ rfl rfl hl.1 rfl (lv_room (Nat.le_of_ble_eq_true rfl)) d_TX_areTypable_9 ⟨Nat.le_of_ble_eq_true rfl, Nat.le_of_ble_eq_true rfl⟩) (fun r3 hr3 => ?_)
          try dsimp only at hr3
          subst hr3
          refine lv_istore hx hb d_TX_areTypable_12 hl (by decide) rfl (fun ls hl => ?_)
          have hl : lv_has ls 5 [(4, .int (bc x 2)), (3, .int 2), (0, .long x), (2, .int 7)] := hl
          refine lv_iload hx hb d_TX_areTypable_14 (lv_at hl 0 rfl) ?_
          refine lv_bipush (v := 32) hx hb d_TX_areTypable_16 (by decide) ?_
          refine lv_icmp_lt (tgt := 28) hx hb d_TX_areTypable_18 (by decide) (fun hc5 => ?_) (fun hc5 => ?_)
          · refine lv_iconst (v := 0) hx hb d_TX_areTypable_28 (by decide) ?_
            exact W.zret (v := 0) (ty := .boolean) hx hb hr (by decide +kernel) (fun t ht hW => ⟨⟨0, (), rfl, rfl, trivial⟩, hS.F ht⟩) hS.2.2 d_TX_areTypable_29
          · refine lv_iload hx hb d_TX_areTypable_21 (lv_at hl 0 rfl) ?_
            refine lv_bipush (v := 126) hx hb d_TX_areTypable_23 (by decide) ?_
            refine lv_icmp_le (tgt := 30) hx hb d_TX_areTypable_25 (by decide) (fun hc6 => ?_) (fun hc6 => ?_)
            · refine lv_iinc (k := 1) (v := 3) hx hb d_TX_areTypable_30 hl rfl (by decide) (by decide) rfl (fun ls hl => ?_)
              have hl : lv_has ls 5 [(3, .int 3), (4, .int (bc x 2)), (0, .long x), (2, .int 7)] := hl
              refine lv_goto (tgt := 2) hx hb d_TX_areTypable_33 (by decide) ?_
              refine lv_iload_n hx hb d_TX_areTypable_2 rfl (lv_at hl 0 rfl) ?_
              refine lv_iload_n hx hb d_TX_areTypable_3 rfl (lv_at hl 3 rfl) ?_
              refine lv_icmp_ge (tgt := 36) hx hb d_TX_areTypable_4 (by decide) (fun h9 => absurd h9 (by decide)) (fun _ => ?_)
              refine lv_lload_n hx hb d_TX_areTypable_7 rfl (lv_at hl 2 rfl) ?_
              refine lv_iload_n hx hb d_TX_areTypable_8 rfl (lv_at hl 0 rfl) ?_
              refine pu_calli (va_runS (As := [.long x, .int 3]) (rest := []) ⟨hx, hb, hml, hown, hts⟩ (c_TX_byteOf l dC dI (x) (3)) (wd_S 2 hts k_351 k_2 k_349 k_350 rfl rfl (by decide +kernel) ⟨Nat.le_of_ble_eq_true rfl, Nat.le_of_ble_eq_true rfl⟩) ⟨fun a U g mk q => by obtain ⟨q0, qP, qK, qN⟩ := q; exact ⟨q0, qP, va_K.moved (u := U) (U := U.calling g mk a) (Vm.Alike.refl U.vm) qK, nw_ok.same (s := U) (U := U.calling g mk a) rfl qN⟩, fun U hU hW => ⟨rfl, by rw [hU]; exact hP.sub (ws' := []) [] rfl, va_K.moved hW.alike (hK.sub (tys' := []) [] rfl), nw_ok.warm hW hN⟩⟩ rfl rfl hl.1 rfl (lv_room (Nat.le_of_ble_eq_true rfl)) d_TX_areTypable_9 ⟨Nat.le_of_ble_eq_true rfl, Nat.le_of_ble_eq_true rfl⟩) (fun r4 hr4 => ?_)
              try dsimp only at hr4
              subst hr4
              refine lv_istore hx hb d_TX_areTypable_12 hl (by decide) rfl (fun ls hl => ?_)
              have hl : lv_has ls 5 [(4, .int (bc x 3)), (3, .int 3), (0, .long x), (2, .int 7)] := hl
              refine lv_iload hx hb d_TX_areTypable_14 (lv_at hl 0 rfl) ?_
              refine lv_bipush (v := 32) hx hb d_TX_areTypable_16 (by decide) ?_
              refine lv_icmp_lt (tgt := 28) hx hb d_TX_areTypable_18 (by decide) (fun hc7 => ?_) (fun hc7 => ?_)
              · refine lv_iconst (v := 0) hx hb d_TX_areTypable_28 (by decide) ?_
                exact W.zret (v := 0) (ty := .boolean) hx hb hr (by decide +kernel) (fun t ht hW => ⟨⟨0, (), rfl, rfl, trivial⟩, hS.F ht⟩) hS.2.2 d_TX_areTypable_29
              · refine lv_iload hx hb d_TX_areTypable_21 (lv_at hl 0 rfl) ?_
                refine lv_bipush (v := 126) hx hb d_TX_areTypable_23 (by decide) ?_
                refine lv_icmp_le (tgt := 30) hx hb d_TX_areTypable_25 (by decide) (fun hc8 => ?_) (fun hc8 => ?_)
                · refine lv_iinc (k := 1) (v := 4) hx hb d_TX_areTypable_30 hl rfl (by decide) (by decide) rfl (fun ls hl => ?_)
                  have hl : lv_has ls 5 [(3, .int 4), (4, .int (bc x 3)), (0, .long x), (2, .int 7)] := hl
                  refine lv_goto (tgt := 2) hx hb d_TX_areTypable_33 (by decide) ?_
                  refine lv_iload_n hx hb d_TX_areTypable_2 rfl (lv_at hl 0 rfl) ?_
                  refine lv_iload_n hx hb d_TX_areTypable_3 rfl (lv_at hl 3 rfl) ?_
                  refine lv_icmp_ge (tgt := 36) hx hb d_TX_areTypable_4 (by decide) (fun h9 => absurd h9 (by decide)) (fun _ => ?_)
                  refine lv_lload_n hx hb d_TX_areTypable_7 rfl (lv_at hl 2 rfl) ?_
                  refine lv_iload_n hx hb d_TX_areTypable_8 rfl (lv_at hl 0 rfl) ?_
                  refine pu_calli (va_runS (As := [.long x, .int 4]) (rest := []) ⟨hx, hb, hml, hown, hts⟩ (c_TX_byteOf l dC dI (x) (4)) (wd_S 2 hts k_351 k_2 k_349 k_350 rfl rfl (by decide +kernel) ⟨Nat.le_of_ble_eq_true rfl, Nat.le_of_ble_eq_true rfl⟩) ⟨fun a U g mk q => by obtain ⟨q0, qP, qK, qN⟩ := q; exact ⟨q0, qP, va_K.moved (u := U) (U := U.calling g mk a) (Vm.Alike.refl U.vm) qK, nw_ok.same (s := U) (U := U.calling g mk a) rfl qN⟩, fun U hU hW => ⟨rfl, by rw [hU]; exact hP.sub (ws' := []) [] rfl, va_K.moved hW.alike (hK.sub (tys' := []) [] rfl), nw_ok.warm hW hN⟩⟩ rfl rfl hl.1 rfl (lv_room (Nat.le_of_ble_eq_true rfl)) d_TX_areTypable_9 ⟨Nat.le_of_ble_eq_true rfl, Nat.le_of_ble_eq_true rfl⟩) (fun r5 hr5 => ?_)
                  try dsimp only at hr5
                  subst hr5
                  refine lv_istore hx hb d_TX_areTypable_12 hl (by decide) rfl (fun ls hl => ?_)
                  have hl : lv_has ls 5 [(4, .int (bc x 4)), (3, .int 4), (0, .long x), (2, .int 7)] := hl
                  refine lv_iload hx hb d_TX_areTypable_14 (lv_at hl 0 rfl) ?_
                  refine lv_bipush (v := 32) hx hb d_TX_areTypable_16 (by decide) ?_
                  refine lv_icmp_lt (tgt := 28) hx hb d_TX_areTypable_18 (by decide) (fun hc9 => ?_) (fun hc9 => ?_)
                  · refine lv_iconst (v := 0) hx hb d_TX_areTypable_28 (by decide) ?_
                    exact W.zret (v := 0) (ty := .boolean) hx hb hr (by decide +kernel) (fun t ht hW => ⟨⟨0, (), rfl, rfl, trivial⟩, hS.F ht⟩) hS.2.2 d_TX_areTypable_29
                  · refine lv_iload hx hb d_TX_areTypable_21 (lv_at hl 0 rfl) ?_
                    refine lv_bipush (v := 126) hx hb d_TX_areTypable_23 (by decide) ?_
                    refine lv_icmp_le (tgt := 30) hx hb d_TX_areTypable_25 (by decide) (fun hc10 => ?_) (fun hc10 => ?_)
                    · refine lv_iinc (k := 1) (v := 5) hx hb d_TX_areTypable_30 hl rfl (by decide) (by decide) rfl (fun ls hl => ?_)
                      have hl : lv_has ls 5 [(3, .int 5), (4, .int (bc x 4)), (0, .long x), (2, .int 7)] := hl
                      refine lv_goto (tgt := 2) hx hb d_TX_areTypable_33 (by decide) ?_
                      refine lv_iload_n hx hb d_TX_areTypable_2 rfl (lv_at hl 0 rfl) ?_
                      refine lv_iload_n hx hb d_TX_areTypable_3 rfl (lv_at hl 3 rfl) ?_
                      refine lv_icmp_ge (tgt := 36) hx hb d_TX_areTypable_4 (by decide) (fun h9 => absurd h9 (by decide)) (fun _ => ?_)
                      refine lv_lload_n hx hb d_TX_areTypable_7 rfl (lv_at hl 2 rfl) ?_
                      refine lv_iload_n hx hb d_TX_areTypable_8 rfl (lv_at hl 0 rfl) ?_
                      refine pu_calli (va_runS (As := [.long x, .int 5]) (rest := []) ⟨hx, hb, hml, hown, hts⟩ (c_TX_byteOf l dC dI (x) (5)) (wd_S 2 hts k_351 k_2 k_349 k_350 rfl rfl (by decide +kernel) ⟨Nat.le_of_ble_eq_true rfl, Nat.le_of_ble_eq_true rfl⟩) ⟨fun a U g mk q => by obtain ⟨q0, qP, qK, qN⟩ := q; exact ⟨q0, qP, va_K.moved (u := U) (U := U.calling g mk a) (Vm.Alike.refl U.vm) qK, nw_ok.same (s := U) (U := U.calling g mk a) rfl qN⟩, fun U hU hW => ⟨rfl, by rw [hU]; exact hP.sub (ws' := []) [] rfl, va_K.moved hW.alike (hK.sub (tys' := []) [] rfl), nw_ok.warm hW hN⟩⟩ rfl rfl hl.1 rfl (lv_room (Nat.le_of_ble_eq_true rfl)) d_TX_areTypable_9 ⟨Nat.le_of_ble_eq_true rfl, Nat.le_of_ble_eq_true rfl⟩) (fun r6 hr6 => ?_)
                      try dsimp only at hr6
                      subst hr6
                      refine lv_istore hx hb d_TX_areTypable_12 hl (by decide) rfl (fun ls hl => ?_)
                      have hl : lv_has ls 5 [(4, .int (bc x 5)), (3, .int 5), (0, .long x), (2, .int 7)] := hl
                      refine lv_iload hx hb d_TX_areTypable_14 (lv_at hl 0 rfl) ?_
                      refine lv_bipush (v := 32) hx hb d_TX_areTypable_16 (by decide) ?_
                      refine lv_icmp_lt (tgt := 28) hx hb d_TX_areTypable_18 (by decide) (fun hc11 => ?_) (fun hc11 => ?_)
                      · refine lv_iconst (v := 0) hx hb d_TX_areTypable_28 (by decide) ?_
                        exact W.zret (v := 0) (ty := .boolean) hx hb hr (by decide +kernel) (fun t ht hW => ⟨⟨0, (), rfl, rfl, trivial⟩, hS.F ht⟩) hS.2.2 d_TX_areTypable_29
                      · refine lv_iload hx hb d_TX_areTypable_21 (lv_at hl 0 rfl) ?_
                        refine lv_bipush (v := 126) hx hb d_TX_areTypable_23 (by decide) ?_
                        refine lv_icmp_le (tgt := 30) hx hb d_TX_areTypable_25 (by decide) (fun hc12 => ?_) (fun hc12 => ?_)
                        · refine lv_iinc (k := 1) (v := 6) hx hb d_TX_areTypable_30 hl rfl (by decide) (by decide) rfl (fun ls hl => ?_)
                          have hl : lv_has ls 5 [(3, .int 6), (4, .int (bc x 5)), (0, .long x), (2, .int 7)] := hl
                          refine lv_goto (tgt := 2) hx hb d_TX_areTypable_33 (by decide) ?_
                          refine lv_iload_n hx hb d_TX_areTypable_2 rfl (lv_at hl 0 rfl) ?_
                          refine lv_iload_n hx hb d_TX_areTypable_3 rfl (lv_at hl 3 rfl) ?_
                          refine lv_icmp_ge (tgt := 36) hx hb d_TX_areTypable_4 (by decide) (fun h9 => absurd h9 (by decide)) (fun _ => ?_)
                          refine lv_lload_n hx hb d_TX_areTypable_7 rfl (lv_at hl 2 rfl) ?_
                          refine lv_iload_n hx hb d_TX_areTypable_8 rfl (lv_at hl 0 rfl) ?_
                          refine pu_calli (va_runS (As := [.long x, .int 6]) (rest := []) ⟨hx, hb, hml, hown, hts⟩ (c_TX_byteOf l dC dI (x) (6)) (wd_S 2 hts k_351 k_2 k_349 k_350 rfl rfl (by decide +kernel) ⟨Nat.le_of_ble_eq_true rfl, Nat.le_of_ble_eq_true rfl⟩) ⟨fun a U g mk q => by obtain ⟨q0, qP, qK, qN⟩ := q; exact ⟨q0, qP, va_K.moved (u := U) (U := U.calling g mk a) (Vm.Alike.refl U.vm) qK, nw_ok.same (s := U) (U := U.calling g mk a) rfl qN⟩, fun U hU hW => ⟨rfl, by rw [hU]; exact hP.sub (ws' := []) [] rfl, va_K.moved hW.alike (hK.sub (tys' := []) [] rfl), nw_ok.warm hW hN⟩⟩ rfl rfl hl.1 rfl (lv_room (Nat.le_of_ble_eq_true rfl)) d_TX_areTypable_9 ⟨Nat.le_of_ble_eq_true rfl, Nat.le_of_ble_eq_true rfl⟩) (fun r7 hr7 => ?_)
                          try dsimp only at hr7
                          subst hr7
                          refine lv_istore hx hb d_TX_areTypable_12 hl (by decide) rfl (fun ls hl => ?_)
                          have hl : lv_has ls 5 [(4, .int (bc x 6)), (3, .int 6), (0, .long x), (2, .int 7)] := hl
                          refine lv_iload hx hb d_TX_areTypable_14 (lv_at hl 0 rfl) ?_
                          refine lv_bipush (v := 32) hx hb d_TX_areTypable_16 (by decide) ?_
                          refine lv_icmp_lt (tgt := 28) hx hb d_TX_areTypable_18 (by decide) (fun hc13 => ?_) (fun hc13 => ?_)
                          · refine lv_iconst (v := 0) hx hb d_TX_areTypable_28 (by decide) ?_
                            exact W.zret (v := 0) (ty := .boolean) hx hb hr (by decide +kernel) (fun t ht hW => ⟨⟨0, (), rfl, rfl, trivial⟩, hS.F ht⟩) hS.2.2 d_TX_areTypable_29
                          · refine lv_iload hx hb d_TX_areTypable_21 (lv_at hl 0 rfl) ?_
                            refine lv_bipush (v := 126) hx hb d_TX_areTypable_23 (by decide) ?_
                            refine lv_icmp_le (tgt := 30) hx hb d_TX_areTypable_25 (by decide) (fun hc14 => ?_) (fun hc14 => ?_)
                            · refine lv_iinc (k := 1) (v := 7) hx hb d_TX_areTypable_30 hl rfl (by decide) (by decide) rfl (fun ls hl => ?_)
                              have hl : lv_has ls 5 [(3, .int 7), (4, .int (bc x 6)), (0, .long x), (2, .int 7)] := hl
                              refine lv_goto (tgt := 2) hx hb d_TX_areTypable_33 (by decide) ?_
                              refine lv_iload_n hx hb d_TX_areTypable_2 rfl (lv_at hl 0 rfl) ?_
                              refine lv_iload_n hx hb d_TX_areTypable_3 rfl (lv_at hl 3 rfl) ?_
                              refine lv_icmp_ge (tgt := 36) hx hb d_TX_areTypable_4 (by decide) (fun _ => ?_) (fun h9 => absurd (by decide) h9)
                              exact absurd ⟨okc (d := 0) (by decide) hc1 hc2, okc (d := 8) (by decide) hc3 hc4, okc (d := 16) (by decide) hc5 hc6, okc (d := 24) (by decide) hc7 hc8, okc (d := 32) (by decide) hc9 hc10, okc (d := 40) (by decide) hc11 hc12, okc (d := 48) (by decide) hc13 hc14⟩ g
                            · refine lv_iconst (v := 0) hx hb d_TX_areTypable_28 (by decide) ?_
                              exact W.zret (v := 0) (ty := .boolean) hx hb hr (by decide +kernel) (fun t ht hW => ⟨⟨0, (), rfl, rfl, trivial⟩, hS.F ht⟩) hS.2.2 d_TX_areTypable_29
                        · refine lv_iconst (v := 0) hx hb d_TX_areTypable_28 (by decide) ?_
                          exact W.zret (v := 0) (ty := .boolean) hx hb hr (by decide +kernel) (fun t ht hW => ⟨⟨0, (), rfl, rfl, trivial⟩, hS.F ht⟩) hS.2.2 d_TX_areTypable_29
                    · refine lv_iconst (v := 0) hx hb d_TX_areTypable_28 (by decide) ?_
                      exact W.zret (v := 0) (ty := .boolean) hx hb hr (by decide +kernel) (fun t ht hW => ⟨⟨0, (), rfl, rfl, trivial⟩, hS.F ht⟩) hS.2.2 d_TX_areTypable_29
                · refine lv_iconst (v := 0) hx hb d_TX_areTypable_28 (by decide) ?_
                  exact W.zret (v := 0) (ty := .boolean) hx hb hr (by decide +kernel) (fun t ht hW => ⟨⟨0, (), rfl, rfl, trivial⟩, hS.F ht⟩) hS.2.2 d_TX_areTypable_29
            · refine lv_iconst (v := 0) hx hb d_TX_areTypable_28 (by decide) ?_
              exact W.zret (v := 0) (ty := .boolean) hx hb hr (by decide +kernel) (fun t ht hW => ⟨⟨0, (), rfl, rfl, trivial⟩, hS.F ht⟩) hS.2.2 d_TX_areTypable_29
        · refine lv_iconst (v := 0) hx hb d_TX_areTypable_28 (by decide) ?_
          exact W.zret (v := 0) (ty := .boolean) hx hb hr (by decide +kernel) (fun t ht hW => ⟨⟨0, (), rfl, rfl, trivial⟩, hS.F ht⟩) hS.2.2 d_TX_areTypable_29
    · refine lv_iconst (v := 0) hx hb d_TX_areTypable_28 (by decide) ?_
      exact W.zret (v := 0) (ty := .boolean) hx hb hr (by decide +kernel) (fun t ht hW => ⟨⟨0, (), rfl, rfl, trivial⟩, hS.F ht⟩) hS.2.2 d_TX_areTypable_29

set_option maxHeartbeats 4000000 in
set_option maxRecDepth 100000 in
theorem c_TX_areTypable_8y (l : Launch) (dC : Nat → ClassId) (dI : Nat → Nat → Nat) (x : Int64) (g : ok x 0 ∧ ok x 8 ∧ ok x 16 ∧ ok x 24 ∧ ok x 32 ∧ ok x 40 ∧ ok x 48 ∧ ok x 56) : Met l y_TX_areTypable (Cond.code y_TX_areTypable b_TX_areTypable 5 (Option.some Jvm.ClassFile.FieldType.boolean) :: wd) { frames := 1, cells := 0, slots := 0, locals := 22 } (va_Pc [.long x, .int 8] (fun U => va_P (dC, dI) cls [] U.heap ∧ va_K (dC, dI) cls [] U ∧ nw_ok U)) (va_Qi (fun r (_ : Unit) => r = 1) (fun _ _ => True) (fun _ => False)) 0 0 (fun _ => False) := by
  refine Met.ofW (cc := b_TX_areTypable) (maxL := 5) (ret := (Option.some Jvm.ClassFile.FieldType.boolean)) (by decide) rfl ?_
  intro p e s m args below meth c s₁ B hml hv
  obtain ⟨rfl, hP, hK, hN⟩ := hv
  have hx := B.exec
  have hb := B.bytes
  have hr := B.returns
  have hlocks := B.notSynchronized
  have hts : ∀ w ∈ wd, w.before ([.long x, .int 8] : List Value).toArray s = true := fun w hw => atoms_spec (ws := (Cond.code y_TX_areTypable b_TX_areTypable 5 (Option.some Jvm.ClassFile.FieldType.boolean) :: wd)) B.pre w (List.mem_cons_of_mem _ hw)
  have hown : s.vm.findClass "LeastSolutions$Text" = some m.cls := findClass_of_methodNamed B.named
  have hS : va_S (fun _ => False) s.heap s.heap [] := va_S.rf
  have hl := lv_entry ([.long x, .int 8]) (n := 5) (Nat.le_of_ble_eq_true rfl)
  rw [lg_entry_eq]
  generalize (lg_sl ([.long x, .int 8]) ++ List.replicate (5 - (lg_sl ([.long x, .int 8])).length) Slot.unset).toArray = ls at hl ⊢
  have hl : lv_has ls 5 [(0, .long x), (2, .int 8)] := hl
  refine lv_iconst (v := 0) hx hb d_TX_areTypable_0 (by decide) ?_
  refine lv_istore_n hx hb d_TX_areTypable_1 rfl hl (by decide) rfl (fun ls hl => ?_)
  have hl : lv_has ls 5 [(3, .int 0), (0, .long x), (2, .int 8)] := hl
  refine lv_iload_n hx hb d_TX_areTypable_2 rfl (lv_at hl 0 rfl) ?_
  refine lv_iload_n hx hb d_TX_areTypable_3 rfl (lv_at hl 2 rfl) ?_
  refine lv_icmp_ge (tgt := 36) hx hb d_TX_areTypable_4 (by decide) (fun h9 => absurd h9 (by decide)) (fun _ => ?_)
  refine lv_lload_n hx hb d_TX_areTypable_7 rfl (lv_at hl 1 rfl) ?_
  refine lv_iload_n hx hb d_TX_areTypable_8 rfl (lv_at hl 0 rfl) ?_
  refine pu_calli (va_runS (As := [.long x, .int 0]) (rest := []) ⟨hx, hb, hml, hown, hts⟩ (c_TX_byteOf l dC dI (x) (0)) (wd_S 2 hts k_351 k_2 k_349 k_350 rfl rfl (by decide +kernel) ⟨Nat.le_of_ble_eq_true rfl, Nat.le_of_ble_eq_true rfl⟩) ⟨fun a U g mk q => by obtain ⟨q0, qP, qK, qN⟩ := q; exact ⟨q0, qP, va_K.moved (u := U) (U := U.calling g mk a) (Vm.Alike.refl U.vm) qK, nw_ok.same (s := U) (U := U.calling g mk a) rfl qN⟩, fun U hU hW => ⟨rfl, by rw [hU]; exact hP.sub (ws' := []) [] rfl, va_K.moved hW.alike (hK.sub (tys' := []) [] rfl), nw_ok.warm hW hN⟩⟩ rfl rfl hl.1 rfl (lv_room (Nat.le_of_ble_eq_true rfl)) d_TX_areTypable_9 ⟨Nat.le_of_ble_eq_true rfl, Nat.le_of_ble_eq_true rfl⟩) (fun r1 hr1 => ?_)
  try dsimp only at hr1
  subst hr1
  refine lv_istore hx hb d_TX_areTypable_12 hl (by decide) rfl (fun ls hl => ?_)
  have hl : lv_has ls 5 [(4, .int (bc x 0)), (3, .int 0), (0, .long x), (2, .int 8)] := hl
  refine lv_iload hx hb d_TX_areTypable_14 (lv_at hl 0 rfl) ?_
  refine lv_bipush (v := 32) hx hb d_TX_areTypable_16 (by decide) ?_
  refine lv_icmp_lt (tgt := 28) hx hb d_TX_areTypable_18 (by decide) (fun h9 => absurd h9 (okc1 (d := 0) (by decide) (g.1))) (fun _ => ?_)
  refine lv_iload hx hb d_TX_areTypable_21 (lv_at hl 0 rfl) ?_
  refine lv_bipush (v := 126) hx hb d_TX_areTypable_23 (by decide) ?_
  refine lv_icmp_le (tgt := 30) hx hb d_TX_areTypable_25 (by decide) (fun _ => ?_) (fun h9 => absurd (okc2 (d := 0) (by decide) (g.1)) h9)
  refine lv_iinc (k := 1) (v := 1) hx hb d_TX_areTypable_30 hl rfl (by decide) (by decide) rfl (fun ls hl => ?_)
  have hl : lv_has ls 5 [(3, .int 1), (4, .int (bc x 0)), (0, .long x), (2, .int 8)] := hl
  refine lv_goto (tgt := 2) hx hb d_TX_areTypable_33 (by decide) ?_
  refine lv_iload_n hx hb d_TX_areTypable_2 rfl (lv_at hl 0 rfl) ?_
  refine lv_iload_n hx hb d_TX_areTypable_3 rfl (lv_at hl 3 rfl) ?_
  refine lv_icmp_ge (tgt := 36) hx hb d_TX_areTypable_4 (by decide) (fun h9 => absurd h9 (by decide)) (fun _ => ?_)
  refine lv_lload_n hx hb d_TX_areTypable_7 rfl (lv_at hl 2 rfl) ?_
  refine lv_iload_n hx hb d_TX_areTypable_8 rfl (lv_at hl 0 rfl) ?_
  refine pu_calli (va_runS (As := [.long x, .int 1]) (rest := []) ⟨hx, hb, hml, hown, hts⟩ (c_TX_byteOf l dC dI (x) (1)) (wd_S 2 hts k_351 k_2 k_349 k_350 rfl rfl (by decide +kernel) ⟨Nat.le_of_ble_eq_true rfl, Nat.le_of_ble_eq_true rfl⟩) ⟨fun a U g mk q => by obtain ⟨q0, qP, qK, qN⟩ := q; exact ⟨q0, qP, va_K.moved (u := U) (U := U.calling g mk a) (Vm.Alike.refl U.vm) qK, nw_ok.same (s := U) (U := U.calling g mk a) rfl qN⟩, fun U hU hW => ⟨rfl, by rw [hU]; exact hP.sub (ws' := []) [] rfl, va_K.moved hW.alike (hK.sub (tys' := []) [] rfl), nw_ok.warm hW hN⟩⟩ rfl rfl hl.1 rfl (lv_room (Nat.le_of_ble_eq_true rfl)) d_TX_areTypable_9 ⟨Nat.le_of_ble_eq_true rfl, Nat.le_of_ble_eq_true rfl⟩) (fun r2 hr2 => ?_)
  try dsimp only at hr2
  subst hr2
  refine lv_istore hx hb d_TX_areTypable_12 hl (by decide) rfl (fun ls hl => ?_)
  have hl : lv_has ls 5 [(4, .int (bc x 1)), (3, .int 1), (0, .long x), (2, .int 8)] := hl
  refine lv_iload hx hb d_TX_areTypable_14 (lv_at hl 0 rfl) ?_
  refine lv_bipush (v := 32) hx hb d_TX_areTypable_16 (by decide) ?_
  refine lv_icmp_lt (tgt := 28) hx hb d_TX_areTypable_18 (by decide) (fun h9 => absurd h9 (okc1 (d := 8) (by decide) (g.2.1))) (fun _ => ?_)
  refine lv_iload hx hb d_TX_areTypable_21 (lv_at hl 0 rfl) ?_
  refine lv_bipush (v := 126) hx hb d_TX_areTypable_23 (by decide) ?_
  refine lv_icmp_le (tgt := 30) hx hb d_TX_areTypable_25 (by decide) (fun _ => ?_) (fun h9 => absurd (okc2 (d := 8) (by decide) (g.2.1)) h9)
  refine lv_iinc (k := 1) (v := 2) hx hb d_TX_areTypable_30 hl rfl (by decide) (by decide) rfl (fun ls hl => ?_)
  have hl : lv_has ls 5 [(3, .int 2), (4, .int (bc x 1)), (0, .long x), (2, .int 8)] := hl
  refine lv_goto (tgt := 2) hx hb d_TX_areTypable_33 (by decide) ?_
  refine lv_iload_n hx hb d_TX_areTypable_2 rfl (lv_at hl 0 rfl) ?_
  refine lv_iload_n hx hb d_TX_areTypable_3 rfl (lv_at hl 3 rfl) ?_
  refine lv_icmp_ge (tgt := 36) hx hb d_TX_areTypable_4 (by decide) (fun h9 => absurd h9 (by decide)) (fun _ => ?_)
  refine lv_lload_n hx hb d_TX_areTypable_7 rfl (lv_at hl 2 rfl) ?_
  refine lv_iload_n hx hb d_TX_areTypable_8 rfl (lv_at hl 0 rfl) ?_
  refine pu_calli (va_runS (As := [.long x, .int 2]) (rest := []) ⟨hx, hb, hml, hown, hts⟩ (c_TX_byteOf l dC dI (x) (2)) (wd_S 2 hts k_351 k_2 k_349 k_350 rfl rfl (by decide +kernel) ⟨Nat.le_of_ble_eq_true rfl, Nat.le_of_ble_eq_true rfl⟩) ⟨fun a U g mk q => by obtain ⟨q0, qP, qK, qN⟩ := q; exact ⟨q0, qP, va_K.moved (u := U) (U := U.calling g mk a) (Vm.Alike.refl U.vm) qK, nw_ok.same (s := U) (U := U.calling g mk a) rfl qN⟩, fun U hU hW => ⟨rfl, by rw [hU]; exact hP.sub (ws' := []) [] rfl, va_K.moved hW.alike (hK.sub (tys' := []) [] rfl), nw_ok.warm hW hN⟩⟩ rfl rfl hl.1 rfl (lv_room (Nat.le_of_ble_eq_true rfl)) d_TX_areTypable_9 ⟨Nat.le_of_ble_eq_true rfl, Nat.le_of_ble_eq_true rfl⟩) (fun r3 hr3 => ?_)
  try dsimp only at hr3
  subst hr3
  refine lv_istore hx hb d_TX_areTypable_12 hl (by decide) rfl (fun ls hl => ?_)
  have hl : lv_has ls 5 [(4, .int (bc x 2)), (3, .int 2), (0, .long x), (2, .int 8)] := hl
  refine lv_iload hx hb d_TX_areTypable_14 (lv_at hl 0 rfl) ?_
  refine lv_bipush (v := 32) hx hb d_TX_areTypable_16 (by decide) ?_
  refine lv_icmp_lt (tgt := 28) hx hb d_TX_areTypable_18 (by decide) (fun h9 => absurd h9 (okc1 (d := 16) (by decide) (g.2.2.1))) (fun _ => ?_)
  refine lv_iload hx hb d_TX_areTypable_21 (lv_at hl 0 rfl) ?_
  refine lv_bipush (v := 126) hx hb d_TX_areTypable_23 (by decide) ?_
  refine lv_icmp_le (tgt := 30) hx hb d_TX_areTypable_25 (by decide) (fun _ => ?_) (fun h9 => absurd (okc2 (d := 16) (by decide) (g.2.2.1)) h9)
  refine lv_iinc (k := 1) (v := 3) hx hb d_TX_areTypable_30 hl rfl (by decide) (by decide) rfl (fun ls hl => ?_)
  have hl : lv_has ls 5 [(3, .int 3), (4, .int (bc x 2)), (0, .long x), (2, .int 8)] := hl
  refine lv_goto (tgt := 2) hx hb d_TX_areTypable_33 (by decide) ?_
  refine lv_iload_n hx hb d_TX_areTypable_2 rfl (lv_at hl 0 rfl) ?_
  refine lv_iload_n hx hb d_TX_areTypable_3 rfl (lv_at hl 3 rfl) ?_
  refine lv_icmp_ge (tgt := 36) hx hb d_TX_areTypable_4 (by decide) (fun h9 => absurd h9 (by decide)) (fun _ => ?_)
  refine lv_lload_n hx hb d_TX_areTypable_7 rfl (lv_at hl 2 rfl) ?_
  refine lv_iload_n hx hb d_TX_areTypable_8 rfl (lv_at hl 0 rfl) ?_
  refine pu_calli (va_runS (As := [.long x, .int 3]) (rest := []) ⟨hx, hb, hml, hown, hts⟩ (c_TX_byteOf l dC dI (x) (3)) (wd_S 2 hts k_351 k_2 k_349 k_350 rfl rfl (by decide +kernel) ⟨Nat.le_of_ble_eq_true rfl, Nat.le_of_ble_eq_true rfl⟩) ⟨fun a U g mk q => by obtain ⟨q0, qP, qK, qN⟩ := q; exact ⟨q0, qP, va_K.moved (u := U) (U := U.calling g mk a) (Vm.Alike.refl U.vm) qK, nw_ok.same (s := U) (U := U.calling g mk a) rfl qN⟩, fun U hU hW => ⟨rfl, by rw [hU]; exact hP.sub (ws' := []) [] rfl, va_K.moved hW.alike (hK.sub (tys' := []) [] rfl), nw_ok.warm hW hN⟩⟩ rfl rfl hl.1 rfl (lv_room (Nat.le_of_ble_eq_true rfl)) d_TX_areTypable_9 ⟨Nat.le_of_ble_eq_true rfl, Nat.le_of_ble_eq_true rfl⟩) (fun r4 hr4 => ?_)
  try dsimp only at hr4
  subst hr4
  refine lv_istore hx hb d_TX_areTypable_12 hl (by decide) rfl (fun ls hl => ?_)
  have hl : lv_has ls 5 [(4, .int (bc x 3)), (3, .int 3), (0, .long x), (2, .int 8)] := hl
  refine lv_iload hx hb d_TX_areTypable_14 (lv_at hl 0 rfl) ?_
  refine lv_bipush (v := 32) hx hb d_TX_areTypable_16 (by decide) ?_
  refine lv_icmp_lt (tgt := 28) hx hb d_TX_areTypable_18 (by decide) (fun h9 => absurd h9 (okc1 (d := 24) (by decide) (g.2.2.2.1))) (fun _ => ?_)
  refine lv_iload hx hb d_TX_areTypable_21 (lv_at hl 0 rfl) ?_
  refine lv_bipush (v := 126) hx hb d_TX_areTypable_23 (by decide) ?_
  refine lv_icmp_le (tgt := 30) hx hb d_TX_areTypable_25 (by decide) (fun _ => ?_) (fun h9 => absurd (okc2 (d := 24) (by decide) (g.2.2.2.1)) h9)
  refine lv_iinc (k := 1) (v := 4) hx hb d_TX_areTypable_30 hl rfl (by decide) (by decide) rfl (fun ls hl => ?_)
  have hl : lv_has ls 5 [(3, .int 4), (4, .int (bc x 3)), (0, .long x), (2, .int 8)] := hl
  refine lv_goto (tgt := 2) hx hb d_TX_areTypable_33 (by decide) ?_
  refine lv_iload_n hx hb d_TX_areTypable_2 rfl (lv_at hl 0 rfl) ?_
  refine lv_iload_n hx hb d_TX_areTypable_3 rfl (lv_at hl 3 rfl) ?_
  refine lv_icmp_ge (tgt := 36) hx hb d_TX_areTypable_4 (by decide) (fun h9 => absurd h9 (by decide)) (fun _ => ?_)
  refine lv_lload_n hx hb d_TX_areTypable_7 rfl (lv_at hl 2 rfl) ?_
  refine lv_iload_n hx hb d_TX_areTypable_8 rfl (lv_at hl 0 rfl) ?_
  refine pu_calli (va_runS (As := [.long x, .int 4]) (rest := []) ⟨hx, hb, hml, hown, hts⟩ (c_TX_byteOf l dC dI (x) (4)) (wd_S 2 hts k_351 k_2 k_349 k_350 rfl rfl (by decide +kernel) ⟨Nat.le_of_ble_eq_true rfl, Nat.le_of_ble_eq_true rfl⟩) ⟨fun a U g mk q => by obtain ⟨q0, qP, qK, qN⟩ := q; exact ⟨q0, qP, va_K.moved (u := U) (U := U.calling g mk a) (Vm.Alike.refl U.vm) qK, nw_ok.same (s := U) (U := U.calling g mk a) rfl qN⟩, fun U hU hW => ⟨rfl, by rw [hU]; exact hP.sub (ws' := []) [] rfl, va_K.moved hW.alike (hK.sub (tys' := []) [] rfl), nw_ok.warm hW hN⟩⟩ rfl rfl hl.1 rfl (lv_room (Nat.le_of_ble_eq_true rfl)) d_TX_areTypable_9 ⟨Nat.le_of_ble_eq_true rfl, Nat.le_of_ble_eq_true rfl⟩) (fun r5 hr5 => ?_)
  try dsimp only at hr5
  subst hr5
  refine lv_istore hx hb d_TX_areTypable_12 hl (by decide) rfl (fun ls hl => ?_)
  have hl : lv_has ls 5 [(4, .int (bc x 4)), (3, .int 4), (0, .long x), (2, .int 8)] := hl
  refine lv_iload hx hb d_TX_areTypable_14 (lv_at hl 0 rfl) ?_
  refine lv_bipush (v := 32) hx hb d_TX_areTypable_16 (by decide) ?_
  refine lv_icmp_lt (tgt := 28) hx hb d_TX_areTypable_18 (by decide) (fun h9 => absurd h9 (okc1 (d := 32) (by decide) (g.2.2.2.2.1))) (fun _ => ?_)
  refine lv_iload hx hb d_TX_areTypable_21 (lv_at hl 0 rfl) ?_
  refine lv_bipush (v := 126) hx hb d_TX_areTypable_23 (by decide) ?_
  refine lv_icmp_le (tgt := 30) hx hb d_TX_areTypable_25 (by decide) (fun _ => ?_) (fun h9 => absurd (okc2 (d := 32) (by decide) (g.2.2.2.2.1)) h9)
  refine lv_iinc (k := 1) (v := 5) hx hb d_TX_areTypable_30 hl rfl (by decide) (by decide) rfl (fun ls hl => ?_)
  have hl : lv_has ls 5 [(3, .int 5), (4, .int (bc x 4)), (0, .long x), (2, .int 8)] := hl
  refine lv_goto (tgt := 2) hx hb d_TX_areTypable_33 (by decide) ?_
  refine lv_iload_n hx hb d_TX_areTypable_2 rfl (lv_at hl 0 rfl) ?_
  refine lv_iload_n hx hb d_TX_areTypable_3 rfl (lv_at hl 3 rfl) ?_
  refine lv_icmp_ge (tgt := 36) hx hb d_TX_areTypable_4 (by decide) (fun h9 => absurd h9 (by decide)) (fun _ => ?_)
  refine lv_lload_n hx hb d_TX_areTypable_7 rfl (lv_at hl 2 rfl) ?_
  refine lv_iload_n hx hb d_TX_areTypable_8 rfl (lv_at hl 0 rfl) ?_
  refine pu_calli (va_runS (As := [.long x, .int 5]) (rest := []) ⟨hx, hb, hml, hown, hts⟩ (c_TX_byteOf l dC dI (x) (5)) (wd_S 2 hts k_351 k_2 k_349 k_350 rfl rfl (by decide +kernel) ⟨Nat.le_of_ble_eq_true rfl, Nat.le_of_ble_eq_true rfl⟩) ⟨fun a U g mk q => by obtain ⟨q0, qP, qK, qN⟩ := q; exact ⟨q0, qP, va_K.moved (u := U) (U := U.calling g mk a) (Vm.Alike.refl U.vm) qK, nw_ok.same (s := U) (U := U.calling g mk a) rfl qN⟩, fun U hU hW => ⟨rfl, by rw [hU]; exact hP.sub (ws' := []) [] rfl, va_K.moved hW.alike (hK.sub (tys' := []) [] rfl), nw_ok.warm hW hN⟩⟩ rfl rfl hl.1 rfl (lv_room (Nat.le_of_ble_eq_true rfl)) d_TX_areTypable_9 ⟨Nat.le_of_ble_eq_true rfl, Nat.le_of_ble_eq_true rfl⟩) (fun r6 hr6 => ?_)
  try dsimp only at hr6
  subst hr6
  refine lv_istore hx hb d_TX_areTypable_12 hl (by decide) rfl (fun ls hl => ?_)
  have hl : lv_has ls 5 [(4, .int (bc x 5)), (3, .int 5), (0, .long x), (2, .int 8)] := hl
  refine lv_iload hx hb d_TX_areTypable_14 (lv_at hl 0 rfl) ?_
  refine lv_bipush (v := 32) hx hb d_TX_areTypable_16 (by decide) ?_
  refine lv_icmp_lt (tgt := 28) hx hb d_TX_areTypable_18 (by decide) (fun h9 => absurd h9 (okc1 (d := 40) (by decide) (g.2.2.2.2.2.1))) (fun _ => ?_)
  refine lv_iload hx hb d_TX_areTypable_21 (lv_at hl 0 rfl) ?_
  refine lv_bipush (v := 126) hx hb d_TX_areTypable_23 (by decide) ?_
  refine lv_icmp_le (tgt := 30) hx hb d_TX_areTypable_25 (by decide) (fun _ => ?_) (fun h9 => absurd (okc2 (d := 40) (by decide) (g.2.2.2.2.2.1)) h9)
  refine lv_iinc (k := 1) (v := 6) hx hb d_TX_areTypable_30 hl rfl (by decide) (by decide) rfl (fun ls hl => ?_)
  have hl : lv_has ls 5 [(3, .int 6), (4, .int (bc x 5)), (0, .long x), (2, .int 8)] := hl
  refine lv_goto (tgt := 2) hx hb d_TX_areTypable_33 (by decide) ?_
  refine lv_iload_n hx hb d_TX_areTypable_2 rfl (lv_at hl 0 rfl) ?_
  refine lv_iload_n hx hb d_TX_areTypable_3 rfl (lv_at hl 3 rfl) ?_
  refine lv_icmp_ge (tgt := 36) hx hb d_TX_areTypable_4 (by decide) (fun h9 => absurd h9 (by decide)) (fun _ => ?_)
  refine lv_lload_n hx hb d_TX_areTypable_7 rfl (lv_at hl 2 rfl) ?_
  refine lv_iload_n hx hb d_TX_areTypable_8 rfl (lv_at hl 0 rfl) ?_
  refine pu_calli (va_runS (As := [.long x, .int 6]) (rest := []) ⟨hx, hb, hml, hown, hts⟩ (c_TX_byteOf l dC dI (x) (6)) (wd_S 2 hts k_351 k_2 k_349 k_350 rfl rfl (by decide +kernel) ⟨Nat.le_of_ble_eq_true rfl, Nat.le_of_ble_eq_true rfl⟩) ⟨fun a U g mk q => by obtain ⟨q0, qP, qK, qN⟩ := q; exact ⟨q0, qP, va_K.moved (u := U) (U := U.calling g mk a) (Vm.Alike.refl U.vm) qK, nw_ok.same (s := U) (U := U.calling g mk a) rfl qN⟩, fun U hU hW => ⟨rfl, by rw [hU]; exact hP.sub (ws' := []) [] rfl, va_K.moved hW.alike (hK.sub (tys' := []) [] rfl), nw_ok.warm hW hN⟩⟩ rfl rfl hl.1 rfl (lv_room (Nat.le_of_ble_eq_true rfl)) d_TX_areTypable_9 ⟨Nat.le_of_ble_eq_true rfl, Nat.le_of_ble_eq_true rfl⟩) (fun r7 hr7 => ?_)
  try dsimp only at hr7
  subst hr7
  refine lv_istore hx hb d_TX_areTypable_12 hl (by decide) rfl (fun ls hl => ?_)
  have hl : lv_has ls 5 [(4, .int (bc x 6)), (3, .int 6), (0, .long x), (2, .int 8)] := hl
  refine lv_iload hx hb d_TX_areTypable_14 (lv_at hl 0 rfl) ?_
  refine lv_bipush (v := 32) hx hb d_TX_areTypable_16 (by decide) ?_
  refine lv_icmp_lt (tgt := 28) hx hb d_TX_areTypable_18 (by decide) (fun h9 => absurd h9 (okc1 (d := 48) (by decide) (g.2.2.2.2.2.2.1))) (fun _ => ?_)
  refine lv_iload hx hb d_TX_areTypable_21 (lv_at hl 0 rfl) ?_
  refine lv_bipush (v := 126) hx hb d_TX_areTypable_23 (by decide) ?_
  refine lv_icmp_le (tgt := 30) hx hb d_TX_areTypable_25 (by decide) (fun _ => ?_) (fun h9 => absurd (okc2 (d := 48) (by decide) (g.2.2.2.2.2.2.1)) h9)
  refine lv_iinc (k := 1) (v := 7) hx hb d_TX_areTypable_30 hl rfl (by decide) (by decide) rfl (fun ls hl => ?_)
  have hl : lv_has ls 5 [(3, .int 7), (4, .int (bc x 6)), (0, .long x), (2, .int 8)] := hl
  refine lv_goto (tgt := 2) hx hb d_TX_areTypable_33 (by decide) ?_
  refine lv_iload_n hx hb d_TX_areTypable_2 rfl (lv_at hl 0 rfl) ?_
  refine lv_iload_n hx hb d_TX_areTypable_3 rfl (lv_at hl 3 rfl) ?_
  refine lv_icmp_ge (tgt := 36) hx hb d_TX_areTypable_4 (by decide) (fun h9 => absurd h9 (by decide)) (fun _ => ?_)
  refine lv_lload_n hx hb d_TX_areTypable_7 rfl (lv_at hl 2 rfl) ?_
  refine lv_iload_n hx hb d_TX_areTypable_8 rfl (lv_at hl 0 rfl) ?_
  refine pu_calli (va_runS (As := [.long x, .int 7]) (rest := []) ⟨hx, hb, hml, hown, hts⟩ (c_TX_byteOf l dC dI (x) (7)) (wd_S 2 hts k_351 k_2 k_349 k_350 rfl rfl (by decide +kernel) ⟨Nat.le_of_ble_eq_true rfl, Nat.le_of_ble_eq_true rfl⟩) ⟨fun a U g mk q => by obtain ⟨q0, qP, qK, qN⟩ := q; exact ⟨q0, qP, va_K.moved (u := U) (U := U.calling g mk a) (Vm.Alike.refl U.vm) qK, nw_ok.same (s := U) (U := U.calling g mk a) rfl qN⟩, fun U hU hW => ⟨rfl, by rw [hU]; exact hP.sub (ws' := []) [] rfl, va_K.moved hW.alike (hK.sub (tys' := []) [] rfl), nw_ok.warm hW hN⟩⟩ rfl rfl hl.1 rfl (lv_room (Nat.le_of_ble_eq_true rfl)) d_TX_areTypable_9 ⟨Nat.le_of_ble_eq_true rfl, Nat.le_of_ble_eq_true rfl⟩) (fun r8 hr8 => ?_)
  try dsimp only at hr8
  subst hr8
  refine lv_istore hx hb d_TX_areTypable_12 hl (by decide) rfl (fun ls hl => ?_)
  have hl : lv_has ls 5 [(4, .int (bc x 7)), (3, .int 7), (0, .long x), (2, .int 8)] := hl
  refine lv_iload hx hb d_TX_areTypable_14 (lv_at hl 0 rfl) ?_
  refine lv_bipush (v := 32) hx hb d_TX_areTypable_16 (by decide) ?_
  refine lv_icmp_lt (tgt := 28) hx hb d_TX_areTypable_18 (by decide) (fun h9 => absurd h9 (okc1 (d := 56) (by decide) (g.2.2.2.2.2.2.2))) (fun _ => ?_)
  refine lv_iload hx hb d_TX_areTypable_21 (lv_at hl 0 rfl) ?_
  refine lv_bipush (v := 126) hx hb d_TX_areTypable_23 (by decide) ?_
  refine lv_icmp_le (tgt := 30) hx hb d_TX_areTypable_25 (by decide) (fun _ => ?_) (fun h9 => absurd (okc2 (d := 56) (by decide) (g.2.2.2.2.2.2.2)) h9)
  refine lv_iinc (k := 1) (v := 8) hx hb d_TX_areTypable_30 hl rfl (by decide) (by decide) rfl (fun ls hl => ?_)
  have hl : lv_has ls 5 [(3, .int 8), (4, .int (bc x 7)), (0, .long x), (2, .int 8)] := hl
  refine lv_goto (tgt := 2) hx hb d_TX_areTypable_33 (by decide) ?_
  refine lv_iload_n hx hb d_TX_areTypable_2 rfl (lv_at hl 0 rfl) ?_
  refine lv_iload_n hx hb d_TX_areTypable_3 rfl (lv_at hl 3 rfl) ?_
  refine lv_icmp_ge (tgt := 36) hx hb d_TX_areTypable_4 (by decide) (fun _ => ?_) (fun h9 => absurd (by decide) h9)
  refine lv_iconst (v := 1) hx hb d_TX_areTypable_36 (by decide) ?_
  exact W.zret (v := 1) (ty := .boolean) hx hb hr (by decide +kernel) (fun t ht hW => ⟨⟨1, (), rfl, rfl, trivial⟩, hS.F ht⟩) hS.2.2 d_TX_areTypable_37

set_option maxHeartbeats 4000000 in
set_option maxRecDepth 100000 in
theorem c_TX_areTypable_8n (l : Launch) (dC : Nat → ClassId) (dI : Nat → Nat → Nat) (x : Int64) (g : ¬ (ok x 0 ∧ ok x 8 ∧ ok x 16 ∧ ok x 24 ∧ ok x 32 ∧ ok x 40 ∧ ok x 48 ∧ ok x 56)) : Met l y_TX_areTypable (Cond.code y_TX_areTypable b_TX_areTypable 5 (Option.some Jvm.ClassFile.FieldType.boolean) :: wd) { frames := 1, cells := 0, slots := 0, locals := 22 } (va_Pc [.long x, .int 8] (fun U => va_P (dC, dI) cls [] U.heap ∧ va_K (dC, dI) cls [] U ∧ nw_ok U)) (va_Qi (fun r (_ : Unit) => r = 0) (fun _ _ => True) (fun _ => False)) 0 0 (fun _ => False) := by
  refine Met.ofW (cc := b_TX_areTypable) (maxL := 5) (ret := (Option.some Jvm.ClassFile.FieldType.boolean)) (by decide) rfl ?_
  intro p e s m args below meth c s₁ B hml hv
  obtain ⟨rfl, hP, hK, hN⟩ := hv
  have hx := B.exec
  have hb := B.bytes
  have hr := B.returns
  have hlocks := B.notSynchronized
  have hts : ∀ w ∈ wd, w.before ([.long x, .int 8] : List Value).toArray s = true := fun w hw => atoms_spec (ws := (Cond.code y_TX_areTypable b_TX_areTypable 5 (Option.some Jvm.ClassFile.FieldType.boolean) :: wd)) B.pre w (List.mem_cons_of_mem _ hw)
  have hown : s.vm.findClass "LeastSolutions$Text" = some m.cls := findClass_of_methodNamed B.named
  have hS : va_S (fun _ => False) s.heap s.heap [] := va_S.rf
  have hl := lv_entry ([.long x, .int 8]) (n := 5) (Nat.le_of_ble_eq_true rfl)
  rw [lg_entry_eq]
  generalize (lg_sl ([.long x, .int 8]) ++ List.replicate (5 - (lg_sl ([.long x, .int 8])).length) Slot.unset).toArray = ls at hl ⊢
  have hl : lv_has ls 5 [(0, .long x), (2, .int 8)] := hl
  refine lv_iconst (v := 0) hx hb d_TX_areTypable_0 (by decide) ?_
  refine lv_istore_n hx hb d_TX_areTypable_1 rfl hl (by decide) rfl (fun ls hl => ?_)
  have hl : lv_has ls 5 [(3, .int 0), (0, .long x), (2, .int 8)] := hl
  refine lv_iload_n hx hb d_TX_areTypable_2 rfl (lv_at hl 0 rfl) ?_
  refine lv_iload_n hx hb d_TX_areTypable_3 rfl (lv_at hl 2 rfl) ?_
  refine lv_icmp_ge (tgt := 36) hx hb d_TX_areTypable_4 (by decide) (fun h9 => absurd h9 (by decide)) (fun _ => ?_)
  refine lv_lload_n hx hb d_TX_areTypable_7 rfl (lv_at hl 1 rfl) ?_
  refine lv_iload_n hx hb d_TX_areTypable_8 rfl (lv_at hl 0 rfl) ?_
  refine pu_calli (va_runS (As := [.long x, .int 0]) (rest := []) ⟨hx, hb, hml, hown, hts⟩ (c_TX_byteOf l dC dI (x) (0)) (wd_S 2 hts k_351 k_2 k_349 k_350 rfl rfl (by decide +kernel) ⟨Nat.le_of_ble_eq_true rfl, Nat.le_of_ble_eq_true rfl⟩) ⟨fun a U g mk q => by obtain ⟨q0, qP, qK, qN⟩ := q; exact ⟨q0, qP, va_K.moved (u := U) (U := U.calling g mk a) (Vm.Alike.refl U.vm) qK, nw_ok.same (s := U) (U := U.calling g mk a) rfl qN⟩, fun U hU hW => ⟨rfl, by rw [hU]; exact hP.sub (ws' := []) [] rfl, va_K.moved hW.alike (hK.sub (tys' := []) [] rfl), nw_ok.warm hW hN⟩⟩ rfl rfl hl.1 rfl (lv_room (Nat.le_of_ble_eq_true rfl)) d_TX_areTypable_9 ⟨Nat.le_of_ble_eq_true rfl, Nat.le_of_ble_eq_true rfl⟩) (fun r1 hr1 => ?_)
  try dsimp only at hr1
  subst hr1
  refine lv_istore hx hb d_TX_areTypable_12 hl (by decide) rfl (fun ls hl => ?_)
  have hl : lv_has ls 5 [(4, .int (bc x 0)), (3, .int 0), (0, .long x), (2, .int 8)] := hl
  refine lv_iload hx hb d_TX_areTypable_14 (lv_at hl 0 rfl) ?_
  refine lv_bipush (v := 32) hx hb d_TX_areTypable_16 (by decide) ?_
  refine lv_icmp_lt (tgt := 28) hx hb d_TX_areTypable_18 (by decide) (fun hc1 => ?_) (fun hc1 => ?_)
  · refine lv_iconst (v := 0) hx hb d_TX_areTypable_28 (by decide) ?_
    exact W.zret (v := 0) (ty := .boolean) hx hb hr (by decide +kernel) (fun t ht hW => ⟨⟨0, (), rfl, rfl, trivial⟩, hS.F ht⟩) hS.2.2 d_TX_areTypable_29
  · refine lv_iload hx hb d_TX_areTypable_21 (lv_at hl 0 rfl) ?_
    refine lv_bipush (v := 126) hx hb d_TX_areTypable_23 (by decide) ?_
    refine lv_icmp_le (tgt := 30) hx hb d_TX_areTypable_25 (by decide) (fun hc2 => ?_) (fun hc2 => ?_)
    · refine lv_iinc (k := 1) (v := 1) hx hb d_TX_areTypable_30 hl rfl (by decide) (by decide) rfl (fun ls hl => ?_)
      have hl : lv_has ls 5 [(3, .int 1), (4, .int (bc x 0)), (0, .long x), (2, .int 8)] := hl
      refine lv_goto (tgt := 2) hx hb d_TX_areTypable_33 (by decide) ?_
      refine lv_iload_n hx hb d_TX_areTypable_2 rfl (lv_at hl 0 rfl) ?_
      refine lv_iload_n hx hb d_TX_areTypable_3 rfl (lv_at hl 3 rfl) ?_
      refine lv_icmp_ge (tgt := 36) hx hb d_TX_areTypable_4 (by decide) (fun h9 => absurd h9 (by decide)) (fun _ => ?_)
      refine lv_lload_n hx hb d_TX_areTypable_7 rfl (lv_at hl 2 rfl) ?_
      refine lv_iload_n hx hb d_TX_areTypable_8 rfl (lv_at hl 0 rfl) ?_
      refine pu_calli (va_runS (As := [.long x, .int 1]) (rest := []) ⟨hx, hb, hml, hown, hts⟩ (c_TX_byteOf l dC dI (x) (1)) (wd_S 2 hts k_351 k_2 k_349 k_350 rfl rfl (by decide +kernel) ⟨Nat.le_of_ble_eq_true rfl, Nat.le_of_ble_eq_true rfl⟩) ⟨fun a U g mk q => by obtain ⟨q0, qP, qK, qN⟩ := q; exact ⟨q0, qP, va_K.moved (u := U) (U := U.calling g mk a) (Vm.Alike.refl U.vm) qK, nw_ok.same (s := U) (U := U.calling g mk a) rfl qN⟩, fun U hU hW => ⟨rfl, by rw [hU]; exact hP.sub (ws' := []) [] rfl, va_K.moved hW.alike (hK.sub (tys' := []) [] rfl), nw_ok.warm hW hN⟩⟩ rfl rfl hl.1 rfl (lv_room (Nat.le_of_ble_eq_true rfl)) d_TX_areTypable_9 ⟨Nat.le_of_ble_eq_true rfl, Nat.le_of_ble_eq_true rfl⟩) (fun r2 hr2 => ?_)
      try dsimp only at hr2
      subst hr2
      refine lv_istore hx hb d_TX_areTypable_12 hl (by decide) rfl (fun ls hl => ?_)
      have hl : lv_has ls 5 [(4, .int (bc x 1)), (3, .int 1), (0, .long x), (2, .int 8)] := hl
      refine lv_iload hx hb d_TX_areTypable_14 (lv_at hl 0 rfl) ?_
      refine lv_bipush (v := 32) hx hb d_TX_areTypable_16 (by decide) ?_
      refine lv_icmp_lt (tgt := 28) hx hb d_TX_areTypable_18 (by decide) (fun hc3 => ?_) (fun hc3 => ?_)
      · refine lv_iconst (v := 0) hx hb d_TX_areTypable_28 (by decide) ?_
        exact W.zret (v := 0) (ty := .boolean) hx hb hr (by decide +kernel) (fun t ht hW => ⟨⟨0, (), rfl, rfl, trivial⟩, hS.F ht⟩) hS.2.2 d_TX_areTypable_29
      · refine lv_iload hx hb d_TX_areTypable_21 (lv_at hl 0 rfl) ?_
        refine lv_bipush (v := 126) hx hb d_TX_areTypable_23 (by decide) ?_
        refine lv_icmp_le (tgt := 30) hx hb d_TX_areTypable_25 (by decide) (fun hc4 => ?_) (fun hc4 => ?_)
        · refine lv_iinc (k := 1) (v := 2) hx hb d_TX_areTypable_30 hl rfl (by decide) (by decide) rfl (fun ls hl => ?_)
          have hl : lv_has ls 5 [(3, .int 2), (4, .int (bc x 1)), (0, .long x), (2, .int 8)] := hl
          refine lv_goto (tgt := 2) hx hb d_TX_areTypable_33 (by decide) ?_
          refine lv_iload_n hx hb d_TX_areTypable_2 rfl (lv_at hl 0 rfl) ?_
          refine lv_iload_n hx hb d_TX_areTypable_3 rfl (lv_at hl 3 rfl) ?_
          refine lv_icmp_ge (tgt := 36) hx hb d_TX_areTypable_4 (by decide) (fun h9 => absurd h9 (by decide)) (fun _ => ?_)
          refine lv_lload_n hx hb d_TX_areTypable_7 rfl (lv_at hl 2 rfl) ?_
          refine lv_iload_n hx hb d_TX_areTypable_8 rfl (lv_at hl 0 rfl) ?_
          refine pu_calli (va_runS (As := [.long x, .int 2]) (rest := []) ⟨hx, hb, hml, hown, hts⟩ (c_TX_byteOf l dC dI (x) (2)) (wd_S 2 hts k_351 k_2 k_349 k_350 rfl rfl (by decide +kernel) ⟨Nat.le_of_ble_eq_true rfl, Nat.le_of_ble_eq_true rfl⟩) ⟨fun a U g mk q => by obtain ⟨q0, qP, qK, qN⟩ := q; exact ⟨q0, qP, va_K.moved (u := U) (U := U.calling g mk a) (Vm.Alike.refl U.vm) qK, nw_ok.same (s := U) (U := U.calling g mk a) rfl qN⟩, fun U hU hW => ⟨rfl, by rw [hU]; exact hP.sub (ws' := []) [] rfl, va_K.moved hW.alike (hK.sub (tys' := []) [] rfl), nw_ok.warm hW hN⟩⟩ rfl rfl hl.1 rfl (lv_room (Nat.le_of_ble_eq_true rfl)) d_TX_areTypable_9 ⟨Nat.le_of_ble_eq_true rfl, Nat.le_of_ble_eq_true rfl⟩) (fun r3 hr3 => ?_)
          try dsimp only at hr3
          subst hr3
          refine lv_istore hx hb d_TX_areTypable_12 hl (by decide) rfl (fun ls hl => ?_)
          have hl : lv_has ls 5 [(4, .int (bc x 2)), (3, .int 2), (0, .long x), (2, .int 8)] := hl
          refine lv_iload hx hb d_TX_areTypable_14 (lv_at hl 0 rfl) ?_
          refine lv_bipush (v := 32) hx hb d_TX_areTypable_16 (by decide) ?_
          refine lv_icmp_lt (tgt := 28) hx hb d_TX_areTypable_18 (by decide) (fun hc5 => ?_) (fun hc5 => ?_)
          · refine lv_iconst (v := 0) hx hb d_TX_areTypable_28 (by decide) ?_
            exact W.zret (v := 0) (ty := .boolean) hx hb hr (by decide +kernel) (fun t ht hW => ⟨⟨0, (), rfl, rfl, trivial⟩, hS.F ht⟩) hS.2.2 d_TX_areTypable_29
          · refine lv_iload hx hb d_TX_areTypable_21 (lv_at hl 0 rfl) ?_
            refine lv_bipush (v := 126) hx hb d_TX_areTypable_23 (by decide) ?_
            refine lv_icmp_le (tgt := 30) hx hb d_TX_areTypable_25 (by decide) (fun hc6 => ?_) (fun hc6 => ?_)
            · refine lv_iinc (k := 1) (v := 3) hx hb d_TX_areTypable_30 hl rfl (by decide) (by decide) rfl (fun ls hl => ?_)
              have hl : lv_has ls 5 [(3, .int 3), (4, .int (bc x 2)), (0, .long x), (2, .int 8)] := hl
              refine lv_goto (tgt := 2) hx hb d_TX_areTypable_33 (by decide) ?_
              refine lv_iload_n hx hb d_TX_areTypable_2 rfl (lv_at hl 0 rfl) ?_
              refine lv_iload_n hx hb d_TX_areTypable_3 rfl (lv_at hl 3 rfl) ?_
              refine lv_icmp_ge (tgt := 36) hx hb d_TX_areTypable_4 (by decide) (fun h9 => absurd h9 (by decide)) (fun _ => ?_)
              refine lv_lload_n hx hb d_TX_areTypable_7 rfl (lv_at hl 2 rfl) ?_
              refine lv_iload_n hx hb d_TX_areTypable_8 rfl (lv_at hl 0 rfl) ?_
              refine pu_calli (va_runS (As := [.long x, .int 3]) (rest := []) ⟨hx, hb, hml, hown, hts⟩ (c_TX_byteOf l dC dI (x) (3)) (wd_S 2 hts k_351 k_2 k_349 k_350 rfl rfl (by decide +kernel) ⟨Nat.le_of_ble_eq_true rfl, Nat.le_of_ble_eq_true rfl⟩) ⟨fun a U g mk q => by obtain ⟨q0, qP, qK, qN⟩ := q; exact ⟨q0, qP, va_K.moved (u := U) (U := U.calling g mk a) (Vm.Alike.refl U.vm) qK, nw_ok.same (s := U) (U := U.calling g mk a) rfl qN⟩, fun U hU hW => ⟨rfl, by rw [hU]; exact hP.sub (ws' := []) [] rfl, va_K.moved hW.alike (hK.sub (tys' := []) [] rfl), nw_ok.warm hW hN⟩⟩ rfl rfl hl.1 rfl (lv_room (Nat.le_of_ble_eq_true rfl)) d_TX_areTypable_9 ⟨Nat.le_of_ble_eq_true rfl, Nat.le_of_ble_eq_true rfl⟩) (fun r4 hr4 => ?_)
              try dsimp only at hr4
              subst hr4
              refine lv_istore hx hb d_TX_areTypable_12 hl (by decide) rfl (fun ls hl => ?_)
              have hl : lv_has ls 5 [(4, .int (bc x 3)), (3, .int 3), (0, .long x), (2, .int 8)] := hl
              refine lv_iload hx hb d_TX_areTypable_14 (lv_at hl 0 rfl) ?_
              refine lv_bipush (v := 32) hx hb d_TX_areTypable_16 (by decide) ?_
              refine lv_icmp_lt (tgt := 28) hx hb d_TX_areTypable_18 (by decide) (fun hc7 => ?_) (fun hc7 => ?_)
              · refine lv_iconst (v := 0) hx hb d_TX_areTypable_28 (by decide) ?_
                exact W.zret (v := 0) (ty := .boolean) hx hb hr (by decide +kernel) (fun t ht hW => ⟨⟨0, (), rfl, rfl, trivial⟩, hS.F ht⟩) hS.2.2 d_TX_areTypable_29
              · refine lv_iload hx hb d_TX_areTypable_21 (lv_at hl 0 rfl) ?_
                refine lv_bipush (v := 126) hx hb d_TX_areTypable_23 (by decide) ?_
                refine lv_icmp_le (tgt := 30) hx hb d_TX_areTypable_25 (by decide) (fun hc8 => ?_) (fun hc8 => ?_)
                · refine lv_iinc (k := 1) (v := 4) hx hb d_TX_areTypable_30 hl rfl (by decide) (by decide) rfl (fun ls hl => ?_)
                  have hl : lv_has ls 5 [(3, .int 4), (4, .int (bc x 3)), (0, .long x), (2, .int 8)] := hl
                  refine lv_goto (tgt := 2) hx hb d_TX_areTypable_33 (by decide) ?_
                  refine lv_iload_n hx hb d_TX_areTypable_2 rfl (lv_at hl 0 rfl) ?_
                  refine lv_iload_n hx hb d_TX_areTypable_3 rfl (lv_at hl 3 rfl) ?_
                  refine lv_icmp_ge (tgt := 36) hx hb d_TX_areTypable_4 (by decide) (fun h9 => absurd h9 (by decide)) (fun _ => ?_)
                  refine lv_lload_n hx hb d_TX_areTypable_7 rfl (lv_at hl 2 rfl) ?_
                  refine lv_iload_n hx hb d_TX_areTypable_8 rfl (lv_at hl 0 rfl) ?_
                  refine pu_calli (va_runS (As := [.long x, .int 4]) (rest := []) ⟨hx, hb, hml, hown, hts⟩ (c_TX_byteOf l dC dI (x) (4)) (wd_S 2 hts k_351 k_2 k_349 k_350 rfl rfl (by decide +kernel) ⟨Nat.le_of_ble_eq_true rfl, Nat.le_of_ble_eq_true rfl⟩) ⟨fun a U g mk q => by obtain ⟨q0, qP, qK, qN⟩ := q; exact ⟨q0, qP, va_K.moved (u := U) (U := U.calling g mk a) (Vm.Alike.refl U.vm) qK, nw_ok.same (s := U) (U := U.calling g mk a) rfl qN⟩, fun U hU hW => ⟨rfl, by rw [hU]; exact hP.sub (ws' := []) [] rfl, va_K.moved hW.alike (hK.sub (tys' := []) [] rfl), nw_ok.warm hW hN⟩⟩ rfl rfl hl.1 rfl (lv_room (Nat.le_of_ble_eq_true rfl)) d_TX_areTypable_9 ⟨Nat.le_of_ble_eq_true rfl, Nat.le_of_ble_eq_true rfl⟩) (fun r5 hr5 => ?_)
                  try dsimp only at hr5
                  subst hr5
                  refine lv_istore hx hb d_TX_areTypable_12 hl (by decide) rfl (fun ls hl => ?_)
                  have hl : lv_has ls 5 [(4, .int (bc x 4)), (3, .int 4), (0, .long x), (2, .int 8)] := hl
                  refine lv_iload hx hb d_TX_areTypable_14 (lv_at hl 0 rfl) ?_
                  refine lv_bipush (v := 32) hx hb d_TX_areTypable_16 (by decide) ?_
                  refine lv_icmp_lt (tgt := 28) hx hb d_TX_areTypable_18 (by decide) (fun hc9 => ?_) (fun hc9 => ?_)
                  · refine lv_iconst (v := 0) hx hb d_TX_areTypable_28 (by decide) ?_
                    exact W.zret (v := 0) (ty := .boolean) hx hb hr (by decide +kernel) (fun t ht hW => ⟨⟨0, (), rfl, rfl, trivial⟩, hS.F ht⟩) hS.2.2 d_TX_areTypable_29
                  · refine lv_iload hx hb d_TX_areTypable_21 (lv_at hl 0 rfl) ?_
                    refine lv_bipush (v := 126) hx hb d_TX_areTypable_23 (by decide) ?_
                    refine lv_icmp_le (tgt := 30) hx hb d_TX_areTypable_25 (by decide) (fun hc10 => ?_) (fun hc10 => ?_)
                    · refine lv_iinc (k := 1) (v := 5) hx hb d_TX_areTypable_30 hl rfl (by decide) (by decide) rfl (fun ls hl => ?_)
                      have hl : lv_has ls 5 [(3, .int 5), (4, .int (bc x 4)), (0, .long x), (2, .int 8)] := hl
                      refine lv_goto (tgt := 2) hx hb d_TX_areTypable_33 (by decide) ?_
                      refine lv_iload_n hx hb d_TX_areTypable_2 rfl (lv_at hl 0 rfl) ?_
                      refine lv_iload_n hx hb d_TX_areTypable_3 rfl (lv_at hl 3 rfl) ?_
                      refine lv_icmp_ge (tgt := 36) hx hb d_TX_areTypable_4 (by decide) (fun h9 => absurd h9 (by decide)) (fun _ => ?_)
                      refine lv_lload_n hx hb d_TX_areTypable_7 rfl (lv_at hl 2 rfl) ?_
                      refine lv_iload_n hx hb d_TX_areTypable_8 rfl (lv_at hl 0 rfl) ?_
                      refine pu_calli (va_runS (As := [.long x, .int 5]) (rest := []) ⟨hx, hb, hml, hown, hts⟩ (c_TX_byteOf l dC dI (x) (5)) (wd_S 2 hts k_351 k_2 k_349 k_350 rfl rfl (by decide +kernel) ⟨Nat.le_of_ble_eq_true rfl, Nat.le_of_ble_eq_true rfl⟩) ⟨fun a U g mk q => by obtain ⟨q0, qP, qK, qN⟩ := q; exact ⟨q0, qP, va_K.moved (u := U) (U := U.calling g mk a) (Vm.Alike.refl U.vm) qK, nw_ok.same (s := U) (U := U.calling g mk a) rfl qN⟩, fun U hU hW => ⟨rfl, by rw [hU]; exact hP.sub (ws' := []) [] rfl, va_K.moved hW.alike (hK.sub (tys' := []) [] rfl), nw_ok.warm hW hN⟩⟩ rfl rfl hl.1 rfl (lv_room (Nat.le_of_ble_eq_true rfl)) d_TX_areTypable_9 ⟨Nat.le_of_ble_eq_true rfl, Nat.le_of_ble_eq_true rfl⟩) (fun r6 hr6 => ?_)
                      try dsimp only at hr6
                      subst hr6
                      refine lv_istore hx hb d_TX_areTypable_12 hl (by decide) rfl (fun ls hl => ?_)
                      have hl : lv_has ls 5 [(4, .int (bc x 5)), (3, .int 5), (0, .long x), (2, .int 8)] := hl
                      refine lv_iload hx hb d_TX_areTypable_14 (lv_at hl 0 rfl) ?_
                      refine lv_bipush (v := 32) hx hb d_TX_areTypable_16 (by decide) ?_
                      refine lv_icmp_lt (tgt := 28) hx hb d_TX_areTypable_18 (by decide) (fun hc11 => ?_) (fun hc11 => ?_)
                      · refine lv_iconst (v := 0) hx hb d_TX_areTypable_28 (by decide) ?_
                        exact W.zret (v := 0) (ty := .boolean) hx hb hr (by decide +kernel) (fun t ht hW => ⟨⟨0, (), rfl, rfl, trivial⟩, hS.F ht⟩) hS.2.2 d_TX_areTypable_29
                      · refine lv_iload hx hb d_TX_areTypable_21 (lv_at hl 0 rfl) ?_
                        refine lv_bipush (v := 126) hx hb d_TX_areTypable_23 (by decide) ?_
                        refine lv_icmp_le (tgt := 30) hx hb d_TX_areTypable_25 (by decide) (fun hc12 => ?_) (fun hc12 => ?_)
                        · refine lv_iinc (k := 1) (v := 6) hx hb d_TX_areTypable_30 hl rfl (by decide) (by decide) rfl (fun ls hl => ?_)
                          have hl : lv_has ls 5 [(3, .int 6), (4, .int (bc x 5)), (0, .long x), (2, .int 8)] := hl
                          refine lv_goto (tgt := 2) hx hb d_TX_areTypable_33 (by decide) ?_
                          refine lv_iload_n hx hb d_TX_areTypable_2 rfl (lv_at hl 0 rfl) ?_
                          refine lv_iload_n hx hb d_TX_areTypable_3 rfl (lv_at hl 3 rfl) ?_
                          refine lv_icmp_ge (tgt := 36) hx hb d_TX_areTypable_4 (by decide) (fun h9 => absurd h9 (by decide)) (fun _ => ?_)
                          refine lv_lload_n hx hb d_TX_areTypable_7 rfl (lv_at hl 2 rfl) ?_
                          refine lv_iload_n hx hb d_TX_areTypable_8 rfl (lv_at hl 0 rfl) ?_
                          refine pu_calli (va_runS (As := [.long x, .int 6]) (rest := []) ⟨hx, hb, hml, hown, hts⟩ (c_TX_byteOf l dC dI (x) (6)) (wd_S 2 hts k_351 k_2 k_349 k_350 rfl rfl (by decide +kernel) ⟨Nat.le_of_ble_eq_true rfl, Nat.le_of_ble_eq_true rfl⟩) ⟨fun a U g mk q => by obtain ⟨q0, qP, qK, qN⟩ := q; exact ⟨q0, qP, va_K.moved (u := U) (U := U.calling g mk a) (Vm.Alike.refl U.vm) qK, nw_ok.same (s := U) (U := U.calling g mk a) rfl qN⟩, fun U hU hW => ⟨rfl, by rw [hU]; exact hP.sub (ws' := []) [] rfl, va_K.moved hW.alike (hK.sub (tys' := []) [] rfl), nw_ok.warm hW hN⟩⟩ rfl rfl hl.1 rfl (lv_room (Nat.le_of_ble_eq_true rfl)) d_TX_areTypable_9 ⟨Nat.le_of_ble_eq_true rfl, Nat.le_of_ble_eq_true rfl⟩) (fun r7 hr7 => ?_)
                          try dsimp only at hr7
                          subst hr7
                          refine lv_istore hx hb d_TX_areTypable_12 hl (by decide) rfl (fun ls hl => ?_)
                          have hl : lv_has ls 5 [(4, .int (bc x 6)), (3, .int 6), (0, .long x), (2, .int 8)] := hl
                          refine lv_iload hx hb d_TX_areTypable_14 (lv_at hl 0 rfl) ?_
                          refine lv_bipush (v := 32) hx hb d_TX_areTypable_16 (by decide) ?_
                          refine lv_icmp_lt (tgt := 28) hx hb d_TX_areTypable_18 (by decide) (fun hc13 => ?_) (fun hc13 => ?_)
                          · refine lv_iconst (v := 0) hx hb d_TX_areTypable_28 (by decide) ?_
                            exact W.zret (v := 0) (ty := .boolean) hx hb hr (by decide +kernel) (fun t ht hW => ⟨⟨0, (), rfl, rfl, trivial⟩, hS.F ht⟩) hS.2.2 d_TX_areTypable_29
                          · refine lv_iload hx hb d_TX_areTypable_21 (lv_at hl 0 rfl) ?_
                            refine lv_bipush (v := 126) hx hb d_TX_areTypable_23 (by decide) ?_
                            refine lv_icmp_le (tgt := 30) hx hb d_TX_areTypable_25 (by decide) (fun hc14 => ?_) (fun hc14 => ?_)
                            · refine lv_iinc (k := 1) (v := 7) hx hb d_TX_areTypable_30 hl rfl (by decide) (by decide) rfl (fun ls hl => ?_)
                              have hl : lv_has ls 5 [(3, .int 7), (4, .int (bc x 6)), (0, .long x), (2, .int 8)] := hl
                              refine lv_goto (tgt := 2) hx hb d_TX_areTypable_33 (by decide) ?_
                              refine lv_iload_n hx hb d_TX_areTypable_2 rfl (lv_at hl 0 rfl) ?_
                              refine lv_iload_n hx hb d_TX_areTypable_3 rfl (lv_at hl 3 rfl) ?_
                              refine lv_icmp_ge (tgt := 36) hx hb d_TX_areTypable_4 (by decide) (fun h9 => absurd h9 (by decide)) (fun _ => ?_)
                              refine lv_lload_n hx hb d_TX_areTypable_7 rfl (lv_at hl 2 rfl) ?_
                              refine lv_iload_n hx hb d_TX_areTypable_8 rfl (lv_at hl 0 rfl) ?_
                              refine pu_calli (va_runS (As := [.long x, .int 7]) (rest := []) ⟨hx, hb, hml, hown, hts⟩ (c_TX_byteOf l dC dI (x) (7)) (wd_S 2 hts k_351 k_2 k_349 k_350 rfl rfl (by decide +kernel) ⟨Nat.le_of_ble_eq_true rfl, Nat.le_of_ble_eq_true rfl⟩) ⟨fun a U g mk q => by obtain ⟨q0, qP, qK, qN⟩ := q; exact ⟨q0, qP, va_K.moved (u := U) (U := U.calling g mk a) (Vm.Alike.refl U.vm) qK, nw_ok.same (s := U) (U := U.calling g mk a) rfl qN⟩, fun U hU hW => ⟨rfl, by rw [hU]; exact hP.sub (ws' := []) [] rfl, va_K.moved hW.alike (hK.sub (tys' := []) [] rfl), nw_ok.warm hW hN⟩⟩ rfl rfl hl.1 rfl (lv_room (Nat.le_of_ble_eq_true rfl)) d_TX_areTypable_9 ⟨Nat.le_of_ble_eq_true rfl, Nat.le_of_ble_eq_true rfl⟩) (fun r8 hr8 => ?_)
                              try dsimp only at hr8
                              subst hr8
                              refine lv_istore hx hb d_TX_areTypable_12 hl (by decide) rfl (fun ls hl => ?_)
                              have hl : lv_has ls 5 [(4, .int (bc x 7)), (3, .int 7), (0, .long x), (2, .int 8)] := hl
                              refine lv_iload hx hb d_TX_areTypable_14 (lv_at hl 0 rfl) ?_
                              refine lv_bipush (v := 32) hx hb d_TX_areTypable_16 (by decide) ?_
                              refine lv_icmp_lt (tgt := 28) hx hb d_TX_areTypable_18 (by decide) (fun hc15 => ?_) (fun hc15 => ?_)
                              · refine lv_iconst (v := 0) hx hb d_TX_areTypable_28 (by decide) ?_
                                exact W.zret (v := 0) (ty := .boolean) hx hb hr (by decide +kernel) (fun t ht hW => ⟨⟨0, (), rfl, rfl, trivial⟩, hS.F ht⟩) hS.2.2 d_TX_areTypable_29
                              · refine lv_iload hx hb d_TX_areTypable_21 (lv_at hl 0 rfl) ?_
                                refine lv_bipush (v := 126) hx hb d_TX_areTypable_23 (by decide) ?_
                                refine lv_icmp_le (tgt := 30) hx hb d_TX_areTypable_25 (by decide) (fun hc16 => ?_) (fun hc16 => ?_)
                                · refine lv_iinc (k := 1) (v := 8) hx hb d_TX_areTypable_30 hl rfl (by decide) (by decide) rfl (fun ls hl => ?_)
                                  have hl : lv_has ls 5 [(3, .int 8), (4, .int (bc x 7)), (0, .long x), (2, .int 8)] := hl
                                  refine lv_goto (tgt := 2) hx hb d_TX_areTypable_33 (by decide) ?_
                                  refine lv_iload_n hx hb d_TX_areTypable_2 rfl (lv_at hl 0 rfl) ?_
                                  refine lv_iload_n hx hb d_TX_areTypable_3 rfl (lv_at hl 3 rfl) ?_
                                  refine lv_icmp_ge (tgt := 36) hx hb d_TX_areTypable_4 (by decide) (fun _ => ?_) (fun h9 => absurd (by decide) h9)
                                  exact absurd ⟨okc (d := 0) (by decide) hc1 hc2, okc (d := 8) (by decide) hc3 hc4, okc (d := 16) (by decide) hc5 hc6, okc (d := 24) (by decide) hc7 hc8, okc (d := 32) (by decide) hc9 hc10, okc (d := 40) (by decide) hc11 hc12, okc (d := 48) (by decide) hc13 hc14, okc (d := 56) (by decide) hc15 hc16⟩ g
                                · refine lv_iconst (v := 0) hx hb d_TX_areTypable_28 (by decide) ?_
                                  exact W.zret (v := 0) (ty := .boolean) hx hb hr (by decide +kernel) (fun t ht hW => ⟨⟨0, (), rfl, rfl, trivial⟩, hS.F ht⟩) hS.2.2 d_TX_areTypable_29
                            · refine lv_iconst (v := 0) hx hb d_TX_areTypable_28 (by decide) ?_
                              exact W.zret (v := 0) (ty := .boolean) hx hb hr (by decide +kernel) (fun t ht hW => ⟨⟨0, (), rfl, rfl, trivial⟩, hS.F ht⟩) hS.2.2 d_TX_areTypable_29
                        · refine lv_iconst (v := 0) hx hb d_TX_areTypable_28 (by decide) ?_
                          exact W.zret (v := 0) (ty := .boolean) hx hb hr (by decide +kernel) (fun t ht hW => ⟨⟨0, (), rfl, rfl, trivial⟩, hS.F ht⟩) hS.2.2 d_TX_areTypable_29
                    · refine lv_iconst (v := 0) hx hb d_TX_areTypable_28 (by decide) ?_
                      exact W.zret (v := 0) (ty := .boolean) hx hb hr (by decide +kernel) (fun t ht hW => ⟨⟨0, (), rfl, rfl, trivial⟩, hS.F ht⟩) hS.2.2 d_TX_areTypable_29
                · refine lv_iconst (v := 0) hx hb d_TX_areTypable_28 (by decide) ?_
                  exact W.zret (v := 0) (ty := .boolean) hx hb hr (by decide +kernel) (fun t ht hW => ⟨⟨0, (), rfl, rfl, trivial⟩, hS.F ht⟩) hS.2.2 d_TX_areTypable_29
            · refine lv_iconst (v := 0) hx hb d_TX_areTypable_28 (by decide) ?_
              exact W.zret (v := 0) (ty := .boolean) hx hb hr (by decide +kernel) (fun t ht hW => ⟨⟨0, (), rfl, rfl, trivial⟩, hS.F ht⟩) hS.2.2 d_TX_areTypable_29
        · refine lv_iconst (v := 0) hx hb d_TX_areTypable_28 (by decide) ?_
          exact W.zret (v := 0) (ty := .boolean) hx hb hr (by decide +kernel) (fun t ht hW => ⟨⟨0, (), rfl, rfl, trivial⟩, hS.F ht⟩) hS.2.2 d_TX_areTypable_29
    · refine lv_iconst (v := 0) hx hb d_TX_areTypable_28 (by decide) ?_
      exact W.zret (v := 0) (ty := .boolean) hx hb hr (by decide +kernel) (fun t ht hW => ⟨⟨0, (), rfl, rfl, trivial⟩, hS.F ht⟩) hS.2.2 d_TX_areTypable_29

set_option maxHeartbeats 4000000 in
set_option maxRecDepth 100000 in
theorem c_TX_put_s (l : Launch) (dC : Nat → ClassId) (dI : Nat → Nat → Nat) (h0 : Nat) (t0 : Nat) (x : Int64) (n : Int32) (g0 : n < 1 ∨ 8 < n) : Met l y_TX_put (Cond.code y_TX_put b_TX_put 5 (Option.some Jvm.ClassFile.FieldType.boolean) :: wd) { frames := 0, cells := 0, slots := 0, locals := 0 } (va_Pc [.ref h0, .long x, .int n] (fun U => va_P (dC, dI) cls [(h0, .inr (1, [.ref t0, .int 0]))] U.heap ∧ va_K (dC, dI) cls [] U ∧ nw_ok U)) (va_Qi (fun r (_ : Unit) => r = 0) (fun _ _ => True) (fun _ => False)) 0 0 (fun _ => False) := by
  refine Met.ofW (cc := b_TX_put) (maxL := 5) (ret := (Option.some Jvm.ClassFile.FieldType.boolean)) (by decide) rfl ?_
  intro p e s m args below meth c s₁ B hml hv
  obtain ⟨rfl, hP, hK, hN⟩ := hv
  have hx := B.exec
  have hb := B.bytes
  have hr := B.returns
  have hlocks := B.notSynchronized
  have hts : ∀ w ∈ wd, w.before ([.ref h0, .long x, .int n] : List Value).toArray s = true := fun w hw => atoms_spec (ws := (Cond.code y_TX_put b_TX_put 5 (Option.some Jvm.ClassFile.FieldType.boolean) :: wd)) B.pre w (List.mem_cons_of_mem _ hw)
  have hown : s.vm.findClass "LeastSolutions$Text" = some m.cls := findClass_of_methodNamed B.named
  have hS : va_S (fun _ => False) s.heap s.heap [] := va_S.rf
  have hl := lv_entry ([.ref h0, .long x, .int n]) (n := 5) (Nat.le_of_ble_eq_true rfl)
  rw [lg_entry_eq]
  generalize (lg_sl ([.ref h0, .long x, .int n]) ++ List.replicate (5 - (lg_sl ([.ref h0, .long x, .int n])).length) Slot.unset).toArray = ls at hl ⊢
  have hl : lv_has ls 5 [(0, .ref h0), (1, .long x), (3, .int n)] := hl
  refine lv_iload_n hx hb d_TX_put_0 rfl (lv_at hl 2 rfl) ?_
  refine lv_iconst (v := 1) hx hb d_TX_put_1 (by decide) ?_
  refine lv_icmp_lt (tgt := 31) hx hb d_TX_put_2 (by decide) (fun hc1 => ?_) (fun hc1 => ?_)
  · refine lv_iconst (v := 0) hx hb d_TX_put_31 (by decide) ?_
    exact W.zret (v := 0) (ty := .boolean) hx hb hr (by decide +kernel) (fun t ht hW => ⟨⟨0, (), rfl, rfl, trivial⟩, hS.F ht⟩) hS.2.2 d_TX_put_32
  · refine lv_iload_n hx hb d_TX_put_5 rfl (lv_at hl 2 rfl) ?_
    refine lv_bipush (v := 8) hx hb d_TX_put_6 (by decide) ?_
    refine lv_icmp_gt (tgt := 31) hx hb d_TX_put_8 (by decide) (fun _ => ?_) (fun h9 => absurd (g0.resolve_left hc1) h9)
    refine lv_iconst (v := 0) hx hb d_TX_put_31 (by decide) ?_
    exact W.zret (v := 0) (ty := .boolean) hx hb hr (by decide +kernel) (fun t ht hW => ⟨⟨0, (), rfl, rfl, trivial⟩, hS.F ht⟩) hS.2.2 d_TX_put_32

set_option maxHeartbeats 4000000 in
set_option maxRecDepth 100000 in
theorem c_TX_put_1n (l : Launch) (dC : Nat → ClassId) (dI : Nat → Nat → Nat) (h0 : Nat) (t0 : Nat) (x : Int64) (g : ¬ (ok x 0)) : Met l y_TX_put (Cond.code y_TX_put b_TX_put 5 (Option.some Jvm.ClassFile.FieldType.boolean) :: wd) { frames := 2, cells := 0, slots := 0, locals := 46 } (va_Pc [.ref h0, .long x, .int 1] (fun U => va_P (dC, dI) cls [(h0, .inr (1, [.ref t0, .int 0]))] U.heap ∧ va_K (dC, dI) cls [] U ∧ nw_ok U)) (va_Qi (fun r (_ : Unit) => r = 0) (fun _ _ => True) (fun _ => False)) 0 0 (fun _ => False) := by
  refine Met.ofW (cc := b_TX_put) (maxL := 5) (ret := (Option.some Jvm.ClassFile.FieldType.boolean)) (by decide) rfl ?_
  intro p e s m args below meth c s₁ B hml hv
  obtain ⟨rfl, hP, hK, hN⟩ := hv
  have hx := B.exec
  have hb := B.bytes
  have hr := B.returns
  have hlocks := B.notSynchronized
  have hts : ∀ w ∈ wd, w.before ([.ref h0, .long x, .int 1] : List Value).toArray s = true := fun w hw => atoms_spec (ws := (Cond.code y_TX_put b_TX_put 5 (Option.some Jvm.ClassFile.FieldType.boolean) :: wd)) B.pre w (List.mem_cons_of_mem _ hw)
  have hown : s.vm.findClass "LeastSolutions$Text" = some m.cls := findClass_of_methodNamed B.named
  have hS : va_S (fun _ => False) s.heap s.heap [] := va_S.rf
  have hl := lv_entry ([.ref h0, .long x, .int 1]) (n := 5) (Nat.le_of_ble_eq_true rfl)
  rw [lg_entry_eq]
  generalize (lg_sl ([.ref h0, .long x, .int 1]) ++ List.replicate (5 - (lg_sl ([.ref h0, .long x, .int 1])).length) Slot.unset).toArray = ls at hl ⊢
  have hl : lv_has ls 5 [(0, .ref h0), (1, .long x), (3, .int 1)] := hl
  refine lv_iload_n hx hb d_TX_put_0 rfl (lv_at hl 2 rfl) ?_
  refine lv_iconst (v := 1) hx hb d_TX_put_1 (by decide) ?_
  refine lv_icmp_lt (tgt := 31) hx hb d_TX_put_2 (by decide) (fun h9 => absurd h9 (by decide)) (fun _ => ?_)
  refine lv_iload_n hx hb d_TX_put_5 rfl (lv_at hl 2 rfl) ?_
  refine lv_bipush (v := 8) hx hb d_TX_put_6 (by decide) ?_
  refine lv_icmp_gt (tgt := 31) hx hb d_TX_put_8 (by decide) (fun h9 => absurd h9 (by decide)) (fun _ => ?_)
  refine lv_aload_n hx hb d_TX_put_11 rfl (lv_at hl 0 rfl) ?_
  refine va_get (D := (dC, dI)) (ci := 1) (v := .int 0) (C := R_TX) (T := T_TX) (N := 2) hx hb hts in_TX hown hK hP 0 rfl rfl 1 (by decide) (hts _ k_37) (fun _ h9 => h9) rfl d_TX_put_12 ?_
  refine lv_iload_n hx hb d_TX_put_15 rfl (lv_at hl 2 rfl) ?_
  refine lv_iadd hx hb d_TX_put_16 ?_
  refine W.eq (g2 := F0 m 17 ls [.int 1]) rfl ?_
  refine lv_sipush (v := 300) hx hb d_TX_put_17 (by decide) ?_
  refine lv_icmp_gt (tgt := 31) hx hb d_TX_put_20 (by decide) (fun h9 => absurd h9 (by decide)) (fun _ => ?_)
  refine lv_lload_n hx hb d_TX_put_23 rfl (lv_at hl 1 rfl) ?_
  refine lv_iload_n hx hb d_TX_put_24 rfl (lv_at hl 2 rfl) ?_
  refine pu_calli (va_runS (As := [.long x, .int 1]) (rest := []) ⟨hx, hb, hml, hown, hts⟩ (c_TX_areTypable_1n l dC dI (x) (g)) (wd_S 2 hts k_348 k_2 k_346 k_347 rfl rfl (by decide +kernel) ⟨Nat.le_of_ble_eq_true rfl, Nat.le_of_ble_eq_true rfl⟩) ⟨fun a U g mk q => by obtain ⟨q0, qP, qK, qN⟩ := q; exact ⟨q0, qP, va_K.moved (u := U) (U := U.calling g mk a) (Vm.Alike.refl U.vm) qK, nw_ok.same (s := U) (U := U.calling g mk a) rfl qN⟩, fun U hU hW => ⟨rfl, by rw [hU]; exact hP.sub (ws' := []) [] rfl, va_K.moved hW.alike (hK.sub (tys' := []) [] rfl), nw_ok.warm hW hN⟩⟩ rfl rfl hl.1 rfl (lv_room (Nat.le_of_ble_eq_true rfl)) d_TX_put_25 ⟨Nat.le_of_ble_eq_true rfl, Nat.le_of_ble_eq_true rfl⟩) (fun r1 hr1 => ?_)
  try dsimp only at hr1
  subst hr1
  refine lv_if_ne (tgt := 33) hx hb d_TX_put_28 (by decide) (fun h9 => absurd (by decide) h9) (fun _ => ?_)
  refine lv_iconst (v := 0) hx hb d_TX_put_31 (by decide) ?_
  exact W.zret (v := 0) (ty := .boolean) hx hb hr (by decide +kernel) (fun t ht hW => ⟨⟨0, (), rfl, rfl, trivial⟩, hS.F ht⟩) hS.2.2 d_TX_put_32

set_option maxHeartbeats 4000000 in
set_option maxRecDepth 100000 in
theorem c_TX_put_1y (l : Launch) (dC : Nat → ClassId) (dI : Nat → Nat → Nat) (h0 : Nat) (t0 : Nat) (cT : ClassId) (x : Int64) (sz : Nat) (g : ok x 0) : Met l y_TX_put (Cond.code y_TX_put b_TX_put 5 (Option.some Jvm.ClassFile.FieldType.boolean) :: wd) { frames := 2, cells := 0, slots := 0, locals := 46 } (va_Pc [.ref h0, .long x, .int 1] (fun U => U.heap.size = sz ∧ va_P (dC, dI) cls [(h0, .inr (1, [.ref t0, .int 0])), (t0, .inl (cT, 300, .inl (fun _ => (0 : Int32))))] U.heap ∧ va_K (dC, dI) cls [(cT, .byte)] U ∧ va_D (fun _ => True) [(h0, .inr (1, [.ref t0, .int 0])), (t0, .inl (cT, 300, .inl (fun _ => (0 : Int32))))] ∧ nw_ok U)) (va_Qi (fun r (_ : Unit) => r = 1) (fun (_ : Unit) t => va_P (dC, dI) cls [(h0, .inr (1, [.ref t0, .int 1]))] t.heap ∧ va_K (dC, dI) cls [(cT, .byte)] t ∧ va_D (va_A [(h0, .inr (1, [.ref t0, .int 0])), (t0, .inl (cT, 300, .inl (fun _ => (0 : Int32))))] sz) [(h0, .inr (1, [.ref t0, .int 1]))]) (va_A [(h0, .inr (1, [.ref t0, .int 0])), (t0, .inl (cT, 300, .inl (fun _ => (0 : Int32))))] sz)) 0 0 (va_A [(h0, .inr (1, [.ref t0, .int 0])), (t0, .inl (cT, 300, .inl (fun _ => (0 : Int32))))] sz) := by
  refine Met.ofW (cc := b_TX_put) (maxL := 5) (ret := (Option.some Jvm.ClassFile.FieldType.boolean)) (by decide) rfl ?_
  intro p e s m args below meth c s₁ B hml hv
  obtain ⟨rfl, hsz, hP, hK, hD0, hN⟩ := hv
  have hx := B.exec
  have hb := B.bytes
  have hr := B.returns
  have hlocks := B.notSynchronized
  have hts : ∀ w ∈ wd, w.before ([.ref h0, .long x, .int 1] : List Value).toArray s = true := fun w hw => atoms_spec (ws := (Cond.code y_TX_put b_TX_put 5 (Option.some Jvm.ClassFile.FieldType.boolean) :: wd)) B.pre w (List.mem_cons_of_mem _ hw)
  have hown : s.vm.findClass "LeastSolutions$Text" = some m.cls := findClass_of_methodNamed B.named
  subst hsz
  have hD := hD0.self (sz := s.heap.size)
  generalize hAe : va_A [(h0, .inr (1, [.ref t0, .int 0])), (t0, .inl (cT, 300, .inl (fun _ => (0 : Int32))))] s.heap.size = A at hD ⊢
  have hA : ∀ q : Nat, s.heap.size ≤ q → A q := fun q h => by rw [← hAe]; exact Or.inr h
  have hS : va_S A s.heap s.heap [] := va_S.rf
  have hl := lv_entry ([.ref h0, .long x, .int 1]) (n := 5) (Nat.le_of_ble_eq_true rfl)
  rw [lg_entry_eq]
  generalize (lg_sl ([.ref h0, .long x, .int 1]) ++ List.replicate (5 - (lg_sl ([.ref h0, .long x, .int 1])).length) Slot.unset).toArray = ls at hl ⊢
  have hl : lv_has ls 5 [(0, .ref h0), (1, .long x), (3, .int 1)] := hl
  refine lv_iload_n hx hb d_TX_put_0 rfl (lv_at hl 2 rfl) ?_
  refine lv_iconst (v := 1) hx hb d_TX_put_1 (by decide) ?_
  refine lv_icmp_lt (tgt := 31) hx hb d_TX_put_2 (by decide) (fun h9 => absurd h9 (by decide)) (fun _ => ?_)
  refine lv_iload_n hx hb d_TX_put_5 rfl (lv_at hl 2 rfl) ?_
  refine lv_bipush (v := 8) hx hb d_TX_put_6 (by decide) ?_
  refine lv_icmp_gt (tgt := 31) hx hb d_TX_put_8 (by decide) (fun h9 => absurd h9 (by decide)) (fun _ => ?_)
  refine lv_aload_n hx hb d_TX_put_11 rfl (lv_at hl 0 rfl) ?_
  refine va_get (D := (dC, dI)) (ci := 1) (v := .int 0) (C := R_TX) (T := T_TX) (N := 2) hx hb hts in_TX hown hK hP 0 rfl rfl 1 (by decide) (hts _ k_37) (fun _ h9 => h9) rfl d_TX_put_12 ?_
  refine lv_iload_n hx hb d_TX_put_15 rfl (lv_at hl 2 rfl) ?_
  refine lv_iadd hx hb d_TX_put_16 ?_
  refine W.eq (g2 := F0 m 17 ls [.int 1]) rfl ?_
  refine lv_sipush (v := 300) hx hb d_TX_put_17 (by decide) ?_
  refine lv_icmp_gt (tgt := 31) hx hb d_TX_put_20 (by decide) (fun h9 => absurd h9 (by decide)) (fun _ => ?_)
  refine lv_lload_n hx hb d_TX_put_23 rfl (lv_at hl 1 rfl) ?_
  refine lv_iload_n hx hb d_TX_put_24 rfl (lv_at hl 2 rfl) ?_
  refine va_calli (va_runS (As := [.long x, .int 1]) (rest := []) ⟨hx, hb, hml, hown, hts⟩ (c_TX_areTypable_1y l dC dI (x) (g)) (wd_S 2 hts k_348 k_2 k_346 k_347 rfl rfl (by decide +kernel) ⟨Nat.le_of_ble_eq_true rfl, Nat.le_of_ble_eq_true rfl⟩) ⟨fun a U g mk q => by obtain ⟨q0, qP, qK, qN⟩ := q; exact ⟨q0, qP, va_K.moved (u := U) (U := U.calling g mk a) (Vm.Alike.refl U.vm) qK, nw_ok.same (s := U) (U := U.calling g mk a) rfl qN⟩, fun U hU hW => ⟨rfl, by rw [hU]; exact hP.sub (ws' := []) [] rfl, va_K.moved hW.alike (hK.sub (tys' := []) [] rfl), nw_ok.warm hW hN⟩⟩ rfl rfl hl.1 rfl (lv_room (Nat.le_of_ble_eq_true rfl)) d_TX_put_25 ⟨Nat.le_of_ble_eq_true rfl, Nat.le_of_ble_eq_true rfl⟩) hS (fun q _ h => h.elim) (fun q h => h.elim) (fun r1 u t H1 locs ht hvm hr1 hB hz1 hk1 hS => ?_)
  try dsimp only at hr1
  subst hr1
  have hP : va_P (dC, dI) cls [(h0, .inr (1, [.ref t0, .int 0])), (t0, .inl (cT, 300, .inl (fun _ => (0 : Int32))))] H1 := hP.kept (fun k q hq => hk1 q.1 (hP k q hq).lt id)
  have hP : va_P (dC, dI) cls [(h0, .inr (1, [.ref t0, .int 0])), (t0, .inl (cT, 300, .inl (fun _ => (0 : Int32))))] H1 := hP
  have hD : va_D A [(h0, .inr (1, [.ref t0, .int 0])), (t0, .inl (cT, 300, .inl (fun _ => (0 : Int32))))] := hD
  refine lv_if_ne (tgt := 33) hx hb d_TX_put_28 (by decide) (fun _ => ?_) (fun h9 => absurd h9 (by decide))
  refine lv_iload_n hx hb d_TX_put_33 rfl (lv_at hl 2 rfl) ?_
  refine lv_iconst (v := 1) hx hb d_TX_put_34 (by decide) ?_
  refine lv_isub hx hb d_TX_put_35 ?_
  refine W.eq (g2 := F0 m 36 ls [.int 0]) rfl ?_
  refine lv_istore hx hb d_TX_put_36 hl (by decide) rfl (fun ls hl => ?_)
  have hl : lv_has ls 5 [(4, .int 0), (0, .ref h0), (1, .long x), (3, .int 1)] := hl
  refine lv_iload hx hb d_TX_put_38 (lv_at hl 0 rfl) ?_
  refine lv_if_lt (tgt := 75) hx hb d_TX_put_40 (by decide) (fun h9 => absurd h9 (by decide)) (fun _ => ?_)
  refine lv_aload_n hx hb d_TX_put_43 rfl (lv_at hl 1 rfl) ?_
  refine va_get (D := (dC, dI)) (ci := 1) (v := .ref t0) (C := R_TX) (T := T_TX) (N := 2) hx hb hts in_TX hown hK hP 0 rfl rfl 0 (by decide) (hts _ k_36) (fun _ h9 => h9) rfl d_TX_put_44 ?_
  refine lv_aload_n hx hb d_TX_put_47 rfl (lv_at hl 1 rfl) ?_
  refine va_get (D := (dC, dI)) (ci := 1) (v := .int 0) (C := R_TX) (T := T_TX) (N := 2) hx hb hts in_TX hown hK hP 0 rfl rfl 1 (by decide) (hts _ k_37) (fun _ h9 => h9) rfl d_TX_put_48 ?_
  refine lv_lload_n hx hb d_TX_put_51 rfl (lv_at hl 2 rfl) ?_
  refine lv_iload hx hb d_TX_put_52 (lv_at hl 0 rfl) ?_
  refine va_calli (va_runS (As := [.long x, .int 0]) (rest := [.int 0, .ref t0]) ⟨hx, hb, hml, hown, hts⟩ (c_TX_byteOf l dC dI (x) (0)) (wd_S 2 hts k_351 k_2 k_349 k_350 rfl rfl (by decide +kernel) ⟨Nat.le_of_ble_eq_true rfl, Nat.le_of_ble_eq_true rfl⟩) ⟨fun a U g mk q => by obtain ⟨q0, qP, qK, qN⟩ := q; exact ⟨q0, qP, va_K.moved (u := U) (U := U.calling g mk a) (Vm.Alike.refl U.vm) qK, nw_ok.same (s := U) (U := U.calling g mk a) rfl qN⟩, fun U hU hW => ⟨rfl, by rw [hU]; exact hP.sub (ws' := []) [] rfl, va_K.moved hW.alike (hK.sub (tys' := []) [] rfl), nw_ok.warm hW hN⟩⟩ rfl rfl hl.1 rfl (lv_room (Nat.le_of_ble_eq_true rfl)) d_TX_put_54 ⟨Nat.le_of_ble_eq_true rfl, Nat.le_of_ble_eq_true rfl⟩) hS (fun q _ h => h.elim) (fun q h => h.elim) (fun r2 u t H2 locs ht hvm hr2 hB hz1 hk1 hS => ?_)
  try dsimp only at hr2
  subst hr2
  have hP : va_P (dC, dI) cls [(h0, .inr (1, [.ref t0, .int 0])), (t0, .inl (cT, 300, .inl (fun _ => (0 : Int32))))] H2 := hP.kept (fun k q hq => hk1 q.1 (hP k q hq).lt id)
  have hP : va_P (dC, dI) cls [(h0, .inr (1, [.ref t0, .int 0])), (t0, .inl (cT, 300, .inl (fun _ => (0 : Int32))))] H2 := hP
  have hD : va_D A [(h0, .inr (1, [.ref t0, .int 0])), (t0, .inl (cT, 300, .inl (fun _ => (0 : Int32))))] := hD
  refine lv_i2b (v := (bc x 0).toInt8.toInt32) hx hb d_TX_put_57 rfl ?_
  refine va_bast hx hb hK hP hD hS 1 0 rfl rfl (show ¬ ((0 : Int32) < 0 ∨ 300 ≤ (0 : Int32).toNatClampNeg) from by decide) d_TX_put_58 (fun H3 locs hP hD hS => ?_)
  have hP : va_P (dC, dI) cls [(h0, .inr (1, [.ref t0, .int 0])), (t0, .inl (cT, 300, .inl (upd (fun _ => (0 : Int32)) (0 : Int32).toNatClampNeg (vp_nar .byte (bc x 0).toInt8.toInt32))))] H3 := hP
  have hD : va_D A [(h0, .inr (1, [.ref t0, .int 0])), (t0, .inl (cT, 300, .inl (upd (fun _ => (0 : Int32)) (0 : Int32).toNatClampNeg (vp_nar .byte (bc x 0).toInt8.toInt32))))] := hD
  refine lv_aload_n hx hb d_TX_put_59 rfl (lv_at hl 1 rfl) ?_
  refine lv_dup hx hb d_TX_put_60 rfl ?_
  refine va_get (D := (dC, dI)) (ci := 1) (v := .int 0) (C := R_TX) (T := T_TX) (N := 2) hx hb hts in_TX hown hK hP 0 rfl rfl 1 (by decide) (hts _ k_37) (fun _ h9 => h9) rfl d_TX_put_61 ?_
  refine lv_iconst (v := 1) hx hb d_TX_put_64 (by decide) ?_
  refine lv_iadd hx hb d_TX_put_65 ?_
  refine W.eq (g2 := F0 m 66 ls [.int 1, .ref h0]) rfl ?_
  refine va_put (D := (dC, dI)) (ci := 1) (v := .int 1) (ty := .int) (C := R_TX) (T := T_TX) (N := 2) hx hb hts in_TX t_TX t_TX_ok n_TX hown hK hP hD hS 0 rfl rfl 1 (by decide) (hts _ k_37) (fun _ h9 => h9) rfl (by decide +kernel) rfl rfl (Nat.le_of_ble_eq_true rfl) d_TX_put_66 (fun H4 locs hP hD hS => ?_)
  have hP : va_P (dC, dI) cls [(h0, .inr (1, [.ref t0, .int 1])), (t0, .inl (cT, 300, .inl (upd (fun _ => (0 : Int32)) (0 : Int32).toNatClampNeg (vp_nar .byte (bc x 0).toInt8.toInt32))))] H4 := hP
  have hD : va_D A [(h0, .inr (1, [.ref t0, .int 1])), (t0, .inl (cT, 300, .inl (upd (fun _ => (0 : Int32)) (0 : Int32).toNatClampNeg (vp_nar .byte (bc x 0).toInt8.toInt32))))] := hD
  refine lv_iinc (k := 0) (v := (-1)) hx hb d_TX_put_69 hl rfl (by decide) (by decide) rfl (fun ls hl => ?_)
  have hl : lv_has ls 5 [(4, .int (-1)), (0, .ref h0), (1, .long x), (3, .int 1)] := hl
  refine lv_goto (tgt := 38) hx hb d_TX_put_72 (by decide) ?_
  refine lv_iload hx hb d_TX_put_38 (lv_at hl 0 rfl) ?_
  refine lv_if_lt (tgt := 75) hx hb d_TX_put_40 (by decide) (fun _ => ?_) (fun h9 => absurd (by decide) h9)
  refine lv_iconst (v := 1) hx hb d_TX_put_75 (by decide) ?_
  have hP9 := hP.sub (ws' := [(h0, .inr (1, [.ref t0, .int 1]))]) [0] rfl
  have hD9 := hD.sub (ws' := [(h0, .inr (1, [.ref t0, .int 1]))]) [0] (by decide) rfl
  have hK9 := hK.sub (tys' := [(cT, .byte)]) [0] rfl
  exact W.zret (v := 1) (ty := .boolean) hx hb hr (by decide +kernel) (fun t ht hW => ⟨⟨1, (), rfl, rfl, by rw [ht]; exact hP9, va_K.moved hW.alike hK9, hD9⟩, hS.F ht⟩) hS.2.2 d_TX_put_76

set_option maxHeartbeats 4000000 in
set_option maxRecDepth 100000 in
theorem c_TX_put_2n (l : Launch) (dC : Nat → ClassId) (dI : Nat → Nat → Nat) (h0 : Nat) (t0 : Nat) (x : Int64) (g : ¬ (ok x 0 ∧ ok x 8)) : Met l y_TX_put (Cond.code y_TX_put b_TX_put 5 (Option.some Jvm.ClassFile.FieldType.boolean) :: wd) { frames := 2, cells := 0, slots := 0, locals := 46 } (va_Pc [.ref h0, .long x, .int 2] (fun U => va_P (dC, dI) cls [(h0, .inr (1, [.ref t0, .int 0]))] U.heap ∧ va_K (dC, dI) cls [] U ∧ nw_ok U)) (va_Qi (fun r (_ : Unit) => r = 0) (fun _ _ => True) (fun _ => False)) 0 0 (fun _ => False) := by
  refine Met.ofW (cc := b_TX_put) (maxL := 5) (ret := (Option.some Jvm.ClassFile.FieldType.boolean)) (by decide) rfl ?_
  intro p e s m args below meth c s₁ B hml hv
  obtain ⟨rfl, hP, hK, hN⟩ := hv
  have hx := B.exec
  have hb := B.bytes
  have hr := B.returns
  have hlocks := B.notSynchronized
  have hts : ∀ w ∈ wd, w.before ([.ref h0, .long x, .int 2] : List Value).toArray s = true := fun w hw => atoms_spec (ws := (Cond.code y_TX_put b_TX_put 5 (Option.some Jvm.ClassFile.FieldType.boolean) :: wd)) B.pre w (List.mem_cons_of_mem _ hw)
  have hown : s.vm.findClass "LeastSolutions$Text" = some m.cls := findClass_of_methodNamed B.named
  have hS : va_S (fun _ => False) s.heap s.heap [] := va_S.rf
  have hl := lv_entry ([.ref h0, .long x, .int 2]) (n := 5) (Nat.le_of_ble_eq_true rfl)
  rw [lg_entry_eq]
  generalize (lg_sl ([.ref h0, .long x, .int 2]) ++ List.replicate (5 - (lg_sl ([.ref h0, .long x, .int 2])).length) Slot.unset).toArray = ls at hl ⊢
  have hl : lv_has ls 5 [(0, .ref h0), (1, .long x), (3, .int 2)] := hl
  refine lv_iload_n hx hb d_TX_put_0 rfl (lv_at hl 2 rfl) ?_
  refine lv_iconst (v := 1) hx hb d_TX_put_1 (by decide) ?_
  refine lv_icmp_lt (tgt := 31) hx hb d_TX_put_2 (by decide) (fun h9 => absurd h9 (by decide)) (fun _ => ?_)
  refine lv_iload_n hx hb d_TX_put_5 rfl (lv_at hl 2 rfl) ?_
  refine lv_bipush (v := 8) hx hb d_TX_put_6 (by decide) ?_
  refine lv_icmp_gt (tgt := 31) hx hb d_TX_put_8 (by decide) (fun h9 => absurd h9 (by decide)) (fun _ => ?_)
  refine lv_aload_n hx hb d_TX_put_11 rfl (lv_at hl 0 rfl) ?_
  refine va_get (D := (dC, dI)) (ci := 1) (v := .int 0) (C := R_TX) (T := T_TX) (N := 2) hx hb hts in_TX hown hK hP 0 rfl rfl 1 (by decide) (hts _ k_37) (fun _ h9 => h9) rfl d_TX_put_12 ?_
  refine lv_iload_n hx hb d_TX_put_15 rfl (lv_at hl 2 rfl) ?_
  refine lv_iadd hx hb d_TX_put_16 ?_
  refine W.eq (g2 := F0 m 17 ls [.int 2]) rfl ?_
  refine lv_sipush (v := 300) hx hb d_TX_put_17 (by decide) ?_
  refine lv_icmp_gt (tgt := 31) hx hb d_TX_put_20 (by decide) (fun h9 => absurd h9 (by decide)) (fun _ => ?_)
  refine lv_lload_n hx hb d_TX_put_23 rfl (lv_at hl 1 rfl) ?_
  refine lv_iload_n hx hb d_TX_put_24 rfl (lv_at hl 2 rfl) ?_
  refine pu_calli (va_runS (As := [.long x, .int 2]) (rest := []) ⟨hx, hb, hml, hown, hts⟩ (c_TX_areTypable_2n l dC dI (x) (g)) (wd_S 2 hts k_348 k_2 k_346 k_347 rfl rfl (by decide +kernel) ⟨Nat.le_of_ble_eq_true rfl, Nat.le_of_ble_eq_true rfl⟩) ⟨fun a U g mk q => by obtain ⟨q0, qP, qK, qN⟩ := q; exact ⟨q0, qP, va_K.moved (u := U) (U := U.calling g mk a) (Vm.Alike.refl U.vm) qK, nw_ok.same (s := U) (U := U.calling g mk a) rfl qN⟩, fun U hU hW => ⟨rfl, by rw [hU]; exact hP.sub (ws' := []) [] rfl, va_K.moved hW.alike (hK.sub (tys' := []) [] rfl), nw_ok.warm hW hN⟩⟩ rfl rfl hl.1 rfl (lv_room (Nat.le_of_ble_eq_true rfl)) d_TX_put_25 ⟨Nat.le_of_ble_eq_true rfl, Nat.le_of_ble_eq_true rfl⟩) (fun r1 hr1 => ?_)
  try dsimp only at hr1
  subst hr1
  refine lv_if_ne (tgt := 33) hx hb d_TX_put_28 (by decide) (fun h9 => absurd (by decide) h9) (fun _ => ?_)
  refine lv_iconst (v := 0) hx hb d_TX_put_31 (by decide) ?_
  exact W.zret (v := 0) (ty := .boolean) hx hb hr (by decide +kernel) (fun t ht hW => ⟨⟨0, (), rfl, rfl, trivial⟩, hS.F ht⟩) hS.2.2 d_TX_put_32

set_option maxHeartbeats 4000000 in
set_option maxRecDepth 100000 in
theorem c_TX_put_2y (l : Launch) (dC : Nat → ClassId) (dI : Nat → Nat → Nat) (h0 : Nat) (t0 : Nat) (cT : ClassId) (x : Int64) (sz : Nat) (g : ok x 0 ∧ ok x 8) : Met l y_TX_put (Cond.code y_TX_put b_TX_put 5 (Option.some Jvm.ClassFile.FieldType.boolean) :: wd) { frames := 2, cells := 0, slots := 0, locals := 46 } (va_Pc [.ref h0, .long x, .int 2] (fun U => U.heap.size = sz ∧ va_P (dC, dI) cls [(h0, .inr (1, [.ref t0, .int 0])), (t0, .inl (cT, 300, .inl (fun _ => (0 : Int32))))] U.heap ∧ va_K (dC, dI) cls [(cT, .byte)] U ∧ va_D (fun _ => True) [(h0, .inr (1, [.ref t0, .int 0])), (t0, .inl (cT, 300, .inl (fun _ => (0 : Int32))))] ∧ nw_ok U)) (va_Qi (fun r (_ : Unit) => r = 1) (fun (_ : Unit) t => va_P (dC, dI) cls [(h0, .inr (1, [.ref t0, .int 2]))] t.heap ∧ va_K (dC, dI) cls [(cT, .byte)] t ∧ va_D (va_A [(h0, .inr (1, [.ref t0, .int 0])), (t0, .inl (cT, 300, .inl (fun _ => (0 : Int32))))] sz) [(h0, .inr (1, [.ref t0, .int 2]))]) (va_A [(h0, .inr (1, [.ref t0, .int 0])), (t0, .inl (cT, 300, .inl (fun _ => (0 : Int32))))] sz)) 0 0 (va_A [(h0, .inr (1, [.ref t0, .int 0])), (t0, .inl (cT, 300, .inl (fun _ => (0 : Int32))))] sz) := by
  refine Met.ofW (cc := b_TX_put) (maxL := 5) (ret := (Option.some Jvm.ClassFile.FieldType.boolean)) (by decide) rfl ?_
  intro p e s m args below meth c s₁ B hml hv
  obtain ⟨rfl, hsz, hP, hK, hD0, hN⟩ := hv
  have hx := B.exec
  have hb := B.bytes
  have hr := B.returns
  have hlocks := B.notSynchronized
  have hts : ∀ w ∈ wd, w.before ([.ref h0, .long x, .int 2] : List Value).toArray s = true := fun w hw => atoms_spec (ws := (Cond.code y_TX_put b_TX_put 5 (Option.some Jvm.ClassFile.FieldType.boolean) :: wd)) B.pre w (List.mem_cons_of_mem _ hw)
  have hown : s.vm.findClass "LeastSolutions$Text" = some m.cls := findClass_of_methodNamed B.named
  subst hsz
  have hD := hD0.self (sz := s.heap.size)
  generalize hAe : va_A [(h0, .inr (1, [.ref t0, .int 0])), (t0, .inl (cT, 300, .inl (fun _ => (0 : Int32))))] s.heap.size = A at hD ⊢
  have hA : ∀ q : Nat, s.heap.size ≤ q → A q := fun q h => by rw [← hAe]; exact Or.inr h
  have hS : va_S A s.heap s.heap [] := va_S.rf
  have hl := lv_entry ([.ref h0, .long x, .int 2]) (n := 5) (Nat.le_of_ble_eq_true rfl)
  rw [lg_entry_eq]
  generalize (lg_sl ([.ref h0, .long x, .int 2]) ++ List.replicate (5 - (lg_sl ([.ref h0, .long x, .int 2])).length) Slot.unset).toArray = ls at hl ⊢
  have hl : lv_has ls 5 [(0, .ref h0), (1, .long x), (3, .int 2)] := hl
  refine lv_iload_n hx hb d_TX_put_0 rfl (lv_at hl 2 rfl) ?_
  refine lv_iconst (v := 1) hx hb d_TX_put_1 (by decide) ?_
  refine lv_icmp_lt (tgt := 31) hx hb d_TX_put_2 (by decide) (fun h9 => absurd h9 (by decide)) (fun _ => ?_)
  refine lv_iload_n hx hb d_TX_put_5 rfl (lv_at hl 2 rfl) ?_
  refine lv_bipush (v := 8) hx hb d_TX_put_6 (by decide) ?_
  refine lv_icmp_gt (tgt := 31) hx hb d_TX_put_8 (by decide) (fun h9 => absurd h9 (by decide)) (fun _ => ?_)
  refine lv_aload_n hx hb d_TX_put_11 rfl (lv_at hl 0 rfl) ?_
  refine va_get (D := (dC, dI)) (ci := 1) (v := .int 0) (C := R_TX) (T := T_TX) (N := 2) hx hb hts in_TX hown hK hP 0 rfl rfl 1 (by decide) (hts _ k_37) (fun _ h9 => h9) rfl d_TX_put_12 ?_
  refine lv_iload_n hx hb d_TX_put_15 rfl (lv_at hl 2 rfl) ?_
  refine lv_iadd hx hb d_TX_put_16 ?_
  refine W.eq (g2 := F0 m 17 ls [.int 2]) rfl ?_
  refine lv_sipush (v := 300) hx hb d_TX_put_17 (by decide) ?_
  refine lv_icmp_gt (tgt := 31) hx hb d_TX_put_20 (by decide) (fun h9 => absurd h9 (by decide)) (fun _ => ?_)
  refine lv_lload_n hx hb d_TX_put_23 rfl (lv_at hl 1 rfl) ?_
  refine lv_iload_n hx hb d_TX_put_24 rfl (lv_at hl 2 rfl) ?_
  refine va_calli (va_runS (As := [.long x, .int 2]) (rest := []) ⟨hx, hb, hml, hown, hts⟩ (c_TX_areTypable_2y l dC dI (x) (g)) (wd_S 2 hts k_348 k_2 k_346 k_347 rfl rfl (by decide +kernel) ⟨Nat.le_of_ble_eq_true rfl, Nat.le_of_ble_eq_true rfl⟩) ⟨fun a U g mk q => by obtain ⟨q0, qP, qK, qN⟩ := q; exact ⟨q0, qP, va_K.moved (u := U) (U := U.calling g mk a) (Vm.Alike.refl U.vm) qK, nw_ok.same (s := U) (U := U.calling g mk a) rfl qN⟩, fun U hU hW => ⟨rfl, by rw [hU]; exact hP.sub (ws' := []) [] rfl, va_K.moved hW.alike (hK.sub (tys' := []) [] rfl), nw_ok.warm hW hN⟩⟩ rfl rfl hl.1 rfl (lv_room (Nat.le_of_ble_eq_true rfl)) d_TX_put_25 ⟨Nat.le_of_ble_eq_true rfl, Nat.le_of_ble_eq_true rfl⟩) hS (fun q _ h => h.elim) (fun q h => h.elim) (fun r1 u t H1 locs ht hvm hr1 hB hz1 hk1 hS => ?_)
  try dsimp only at hr1
  subst hr1
  have hP : va_P (dC, dI) cls [(h0, .inr (1, [.ref t0, .int 0])), (t0, .inl (cT, 300, .inl (fun _ => (0 : Int32))))] H1 := hP.kept (fun k q hq => hk1 q.1 (hP k q hq).lt id)
  have hP : va_P (dC, dI) cls [(h0, .inr (1, [.ref t0, .int 0])), (t0, .inl (cT, 300, .inl (fun _ => (0 : Int32))))] H1 := hP
  have hD : va_D A [(h0, .inr (1, [.ref t0, .int 0])), (t0, .inl (cT, 300, .inl (fun _ => (0 : Int32))))] := hD
  refine lv_if_ne (tgt := 33) hx hb d_TX_put_28 (by decide) (fun _ => ?_) (fun h9 => absurd h9 (by decide))
  refine lv_iload_n hx hb d_TX_put_33 rfl (lv_at hl 2 rfl) ?_
  refine lv_iconst (v := 1) hx hb d_TX_put_34 (by decide) ?_
  refine lv_isub hx hb d_TX_put_35 ?_
  refine W.eq (g2 := F0 m 36 ls [.int 1]) rfl ?_
  refine lv_istore hx hb d_TX_put_36 hl (by decide) rfl (fun ls hl => ?_)
  have hl : lv_has ls 5 [(4, .int 1), (0, .ref h0), (1, .long x), (3, .int 2)] := hl
  refine lv_iload hx hb d_TX_put_38 (lv_at hl 0 rfl) ?_
  refine lv_if_lt (tgt := 75) hx hb d_TX_put_40 (by decide) (fun h9 => absurd h9 (by decide)) (fun _ => ?_)
  refine lv_aload_n hx hb d_TX_put_43 rfl (lv_at hl 1 rfl) ?_
  refine va_get (D := (dC, dI)) (ci := 1) (v := .ref t0) (C := R_TX) (T := T_TX) (N := 2) hx hb hts in_TX hown hK hP 0 rfl rfl 0 (by decide) (hts _ k_36) (fun _ h9 => h9) rfl d_TX_put_44 ?_
  refine lv_aload_n hx hb d_TX_put_47 rfl (lv_at hl 1 rfl) ?_
  refine va_get (D := (dC, dI)) (ci := 1) (v := .int 0) (C := R_TX) (T := T_TX) (N := 2) hx hb hts in_TX hown hK hP 0 rfl rfl 1 (by decide) (hts _ k_37) (fun _ h9 => h9) rfl d_TX_put_48 ?_
  refine lv_lload_n hx hb d_TX_put_51 rfl (lv_at hl 2 rfl) ?_
  refine lv_iload hx hb d_TX_put_52 (lv_at hl 0 rfl) ?_
  refine va_calli (va_runS (As := [.long x, .int 1]) (rest := [.int 0, .ref t0]) ⟨hx, hb, hml, hown, hts⟩ (c_TX_byteOf l dC dI (x) (1)) (wd_S 2 hts k_351 k_2 k_349 k_350 rfl rfl (by decide +kernel) ⟨Nat.le_of_ble_eq_true rfl, Nat.le_of_ble_eq_true rfl⟩) ⟨fun a U g mk q => by obtain ⟨q0, qP, qK, qN⟩ := q; exact ⟨q0, qP, va_K.moved (u := U) (U := U.calling g mk a) (Vm.Alike.refl U.vm) qK, nw_ok.same (s := U) (U := U.calling g mk a) rfl qN⟩, fun U hU hW => ⟨rfl, by rw [hU]; exact hP.sub (ws' := []) [] rfl, va_K.moved hW.alike (hK.sub (tys' := []) [] rfl), nw_ok.warm hW hN⟩⟩ rfl rfl hl.1 rfl (lv_room (Nat.le_of_ble_eq_true rfl)) d_TX_put_54 ⟨Nat.le_of_ble_eq_true rfl, Nat.le_of_ble_eq_true rfl⟩) hS (fun q _ h => h.elim) (fun q h => h.elim) (fun r2 u t H2 locs ht hvm hr2 hB hz1 hk1 hS => ?_)
  try dsimp only at hr2
  subst hr2
  have hP : va_P (dC, dI) cls [(h0, .inr (1, [.ref t0, .int 0])), (t0, .inl (cT, 300, .inl (fun _ => (0 : Int32))))] H2 := hP.kept (fun k q hq => hk1 q.1 (hP k q hq).lt id)
  have hP : va_P (dC, dI) cls [(h0, .inr (1, [.ref t0, .int 0])), (t0, .inl (cT, 300, .inl (fun _ => (0 : Int32))))] H2 := hP
  have hD : va_D A [(h0, .inr (1, [.ref t0, .int 0])), (t0, .inl (cT, 300, .inl (fun _ => (0 : Int32))))] := hD
  refine lv_i2b (v := (bc x 1).toInt8.toInt32) hx hb d_TX_put_57 rfl ?_
  refine va_bast hx hb hK hP hD hS 1 0 rfl rfl (show ¬ ((0 : Int32) < 0 ∨ 300 ≤ (0 : Int32).toNatClampNeg) from by decide) d_TX_put_58 (fun H3 locs hP hD hS => ?_)
  have hP : va_P (dC, dI) cls [(h0, .inr (1, [.ref t0, .int 0])), (t0, .inl (cT, 300, .inl (upd (fun _ => (0 : Int32)) (0 : Int32).toNatClampNeg (vp_nar .byte (bc x 1).toInt8.toInt32))))] H3 := hP
  have hD : va_D A [(h0, .inr (1, [.ref t0, .int 0])), (t0, .inl (cT, 300, .inl (upd (fun _ => (0 : Int32)) (0 : Int32).toNatClampNeg (vp_nar .byte (bc x 1).toInt8.toInt32))))] := hD
  refine lv_aload_n hx hb d_TX_put_59 rfl (lv_at hl 1 rfl) ?_
  refine lv_dup hx hb d_TX_put_60 rfl ?_
  refine va_get (D := (dC, dI)) (ci := 1) (v := .int 0) (C := R_TX) (T := T_TX) (N := 2) hx hb hts in_TX hown hK hP 0 rfl rfl 1 (by decide) (hts _ k_37) (fun _ h9 => h9) rfl d_TX_put_61 ?_
  refine lv_iconst (v := 1) hx hb d_TX_put_64 (by decide) ?_
  refine lv_iadd hx hb d_TX_put_65 ?_
  refine W.eq (g2 := F0 m 66 ls [.int 1, .ref h0]) rfl ?_
  refine va_put (D := (dC, dI)) (ci := 1) (v := .int 1) (ty := .int) (C := R_TX) (T := T_TX) (N := 2) hx hb hts in_TX t_TX t_TX_ok n_TX hown hK hP hD hS 0 rfl rfl 1 (by decide) (hts _ k_37) (fun _ h9 => h9) rfl (by decide +kernel) rfl rfl (Nat.le_of_ble_eq_true rfl) d_TX_put_66 (fun H4 locs hP hD hS => ?_)
  have hP : va_P (dC, dI) cls [(h0, .inr (1, [.ref t0, .int 1])), (t0, .inl (cT, 300, .inl (upd (fun _ => (0 : Int32)) (0 : Int32).toNatClampNeg (vp_nar .byte (bc x 1).toInt8.toInt32))))] H4 := hP
  have hD : va_D A [(h0, .inr (1, [.ref t0, .int 1])), (t0, .inl (cT, 300, .inl (upd (fun _ => (0 : Int32)) (0 : Int32).toNatClampNeg (vp_nar .byte (bc x 1).toInt8.toInt32))))] := hD
  refine lv_iinc (k := 0) (v := 0) hx hb d_TX_put_69 hl rfl (by decide) (by decide) rfl (fun ls hl => ?_)
  have hl : lv_has ls 5 [(4, .int 0), (0, .ref h0), (1, .long x), (3, .int 2)] := hl
  refine lv_goto (tgt := 38) hx hb d_TX_put_72 (by decide) ?_
  refine lv_iload hx hb d_TX_put_38 (lv_at hl 0 rfl) ?_
  refine lv_if_lt (tgt := 75) hx hb d_TX_put_40 (by decide) (fun h9 => absurd h9 (by decide)) (fun _ => ?_)
  refine lv_aload_n hx hb d_TX_put_43 rfl (lv_at hl 1 rfl) ?_
  refine va_get (D := (dC, dI)) (ci := 1) (v := .ref t0) (C := R_TX) (T := T_TX) (N := 2) hx hb hts in_TX hown hK hP 0 rfl rfl 0 (by decide) (hts _ k_36) (fun _ h9 => h9) rfl d_TX_put_44 ?_
  refine lv_aload_n hx hb d_TX_put_47 rfl (lv_at hl 1 rfl) ?_
  refine va_get (D := (dC, dI)) (ci := 1) (v := .int 1) (C := R_TX) (T := T_TX) (N := 2) hx hb hts in_TX hown hK hP 0 rfl rfl 1 (by decide) (hts _ k_37) (fun _ h9 => h9) rfl d_TX_put_48 ?_
  refine lv_lload_n hx hb d_TX_put_51 rfl (lv_at hl 2 rfl) ?_
  refine lv_iload hx hb d_TX_put_52 (lv_at hl 0 rfl) ?_
  refine va_calli (va_runS (As := [.long x, .int 0]) (rest := [.int 1, .ref t0]) ⟨hx, hb, hml, hown, hts⟩ (c_TX_byteOf l dC dI (x) (0)) (wd_S 2 hts k_351 k_2 k_349 k_350 rfl rfl (by decide +kernel) ⟨Nat.le_of_ble_eq_true rfl, Nat.le_of_ble_eq_true rfl⟩) ⟨fun a U g mk q => by obtain ⟨q0, qP, qK, qN⟩ := q; exact ⟨q0, qP, va_K.moved (u := U) (U := U.calling g mk a) (Vm.Alike.refl U.vm) qK, nw_ok.same (s := U) (U := U.calling g mk a) rfl qN⟩, fun U hU hW => ⟨rfl, by rw [hU]; exact hP.sub (ws' := []) [] rfl, va_K.moved hW.alike (hK.sub (tys' := []) [] rfl), nw_ok.warm hW hN⟩⟩ rfl rfl hl.1 rfl (lv_room (Nat.le_of_ble_eq_true rfl)) d_TX_put_54 ⟨Nat.le_of_ble_eq_true rfl, Nat.le_of_ble_eq_true rfl⟩) hS (fun q _ h => h.elim) (fun q h => h.elim) (fun r3 u t H5 locs ht hvm hr3 hB hz1 hk1 hS => ?_)
  try dsimp only at hr3
  subst hr3
  have hP : va_P (dC, dI) cls [(h0, .inr (1, [.ref t0, .int 1])), (t0, .inl (cT, 300, .inl (upd (fun _ => (0 : Int32)) (0 : Int32).toNatClampNeg (vp_nar .byte (bc x 1).toInt8.toInt32))))] H5 := hP.kept (fun k q hq => hk1 q.1 (hP k q hq).lt id)
  have hP : va_P (dC, dI) cls [(h0, .inr (1, [.ref t0, .int 1])), (t0, .inl (cT, 300, .inl (upd (fun _ => (0 : Int32)) (0 : Int32).toNatClampNeg (vp_nar .byte (bc x 1).toInt8.toInt32))))] H5 := hP
  have hD : va_D A [(h0, .inr (1, [.ref t0, .int 1])), (t0, .inl (cT, 300, .inl (upd (fun _ => (0 : Int32)) (0 : Int32).toNatClampNeg (vp_nar .byte (bc x 1).toInt8.toInt32))))] := hD
  refine lv_i2b (v := (bc x 0).toInt8.toInt32) hx hb d_TX_put_57 rfl ?_
  refine va_bast hx hb hK hP hD hS 1 0 rfl rfl (show ¬ ((1 : Int32) < 0 ∨ 300 ≤ (1 : Int32).toNatClampNeg) from by decide) d_TX_put_58 (fun H6 locs hP hD hS => ?_)
  have hP : va_P (dC, dI) cls [(h0, .inr (1, [.ref t0, .int 1])), (t0, .inl (cT, 300, .inl (upd (upd (fun _ => (0 : Int32)) (0 : Int32).toNatClampNeg (vp_nar .byte (bc x 1).toInt8.toInt32)) (1 : Int32).toNatClampNeg (vp_nar .byte (bc x 0).toInt8.toInt32))))] H6 := hP
  have hD : va_D A [(h0, .inr (1, [.ref t0, .int 1])), (t0, .inl (cT, 300, .inl (upd (upd (fun _ => (0 : Int32)) (0 : Int32).toNatClampNeg (vp_nar .byte (bc x 1).toInt8.toInt32)) (1 : Int32).toNatClampNeg (vp_nar .byte (bc x 0).toInt8.toInt32))))] := hD
  refine lv_aload_n hx hb d_TX_put_59 rfl (lv_at hl 1 rfl) ?_
  refine lv_dup hx hb d_TX_put_60 rfl ?_
  refine va_get (D := (dC, dI)) (ci := 1) (v := .int 1) (C := R_TX) (T := T_TX) (N := 2) hx hb hts in_TX hown hK hP 0 rfl rfl 1 (by decide) (hts _ k_37) (fun _ h9 => h9) rfl d_TX_put_61 ?_
  refine lv_iconst (v := 1) hx hb d_TX_put_64 (by decide) ?_
  refine lv_iadd hx hb d_TX_put_65 ?_
  refine W.eq (g2 := F0 m 66 ls [.int 2, .ref h0]) rfl ?_
  refine va_put (D := (dC, dI)) (ci := 1) (v := .int 2) (ty := .int) (C := R_TX) (T := T_TX) (N := 2) hx hb hts in_TX t_TX t_TX_ok n_TX hown hK hP hD hS 0 rfl rfl 1 (by decide) (hts _ k_37) (fun _ h9 => h9) rfl (by decide +kernel) rfl rfl (Nat.le_of_ble_eq_true rfl) d_TX_put_66 (fun H7 locs hP hD hS => ?_)
  have hP : va_P (dC, dI) cls [(h0, .inr (1, [.ref t0, .int 2])), (t0, .inl (cT, 300, .inl (upd (upd (fun _ => (0 : Int32)) (0 : Int32).toNatClampNeg (vp_nar .byte (bc x 1).toInt8.toInt32)) (1 : Int32).toNatClampNeg (vp_nar .byte (bc x 0).toInt8.toInt32))))] H7 := hP
  have hD : va_D A [(h0, .inr (1, [.ref t0, .int 2])), (t0, .inl (cT, 300, .inl (upd (upd (fun _ => (0 : Int32)) (0 : Int32).toNatClampNeg (vp_nar .byte (bc x 1).toInt8.toInt32)) (1 : Int32).toNatClampNeg (vp_nar .byte (bc x 0).toInt8.toInt32))))] := hD
  refine lv_iinc (k := 0) (v := (-1)) hx hb d_TX_put_69 hl rfl (by decide) (by decide) rfl (fun ls hl => ?_)
  have hl : lv_has ls 5 [(4, .int (-1)), (0, .ref h0), (1, .long x), (3, .int 2)] := hl
  refine lv_goto (tgt := 38) hx hb d_TX_put_72 (by decide) ?_
  refine lv_iload hx hb d_TX_put_38 (lv_at hl 0 rfl) ?_
  refine lv_if_lt (tgt := 75) hx hb d_TX_put_40 (by decide) (fun _ => ?_) (fun h9 => absurd (by decide) h9)
  refine lv_iconst (v := 1) hx hb d_TX_put_75 (by decide) ?_
  have hP9 := hP.sub (ws' := [(h0, .inr (1, [.ref t0, .int 2]))]) [0] rfl
  have hD9 := hD.sub (ws' := [(h0, .inr (1, [.ref t0, .int 2]))]) [0] (by decide) rfl
  have hK9 := hK.sub (tys' := [(cT, .byte)]) [0] rfl
  exact W.zret (v := 1) (ty := .boolean) hx hb hr (by decide +kernel) (fun t ht hW => ⟨⟨1, (), rfl, rfl, by rw [ht]; exact hP9, va_K.moved hW.alike hK9, hD9⟩, hS.F ht⟩) hS.2.2 d_TX_put_76

set_option maxHeartbeats 4000000 in
set_option maxRecDepth 100000 in
theorem c_TX_put_3n (l : Launch) (dC : Nat → ClassId) (dI : Nat → Nat → Nat) (h0 : Nat) (t0 : Nat) (x : Int64) (g : ¬ (ok x 0 ∧ ok x 8 ∧ ok x 16)) : Met l y_TX_put (Cond.code y_TX_put b_TX_put 5 (Option.some Jvm.ClassFile.FieldType.boolean) :: wd) { frames := 2, cells := 0, slots := 0, locals := 46 } (va_Pc [.ref h0, .long x, .int 3] (fun U => va_P (dC, dI) cls [(h0, .inr (1, [.ref t0, .int 0]))] U.heap ∧ va_K (dC, dI) cls [] U ∧ nw_ok U)) (va_Qi (fun r (_ : Unit) => r = 0) (fun _ _ => True) (fun _ => False)) 0 0 (fun _ => False) := by
  refine Met.ofW (cc := b_TX_put) (maxL := 5) (ret := (Option.some Jvm.ClassFile.FieldType.boolean)) (by decide) rfl ?_
  intro p e s m args below meth c s₁ B hml hv
  obtain ⟨rfl, hP, hK, hN⟩ := hv
  have hx := B.exec
  have hb := B.bytes
  have hr := B.returns
  have hlocks := B.notSynchronized
  have hts : ∀ w ∈ wd, w.before ([.ref h0, .long x, .int 3] : List Value).toArray s = true := fun w hw => atoms_spec (ws := (Cond.code y_TX_put b_TX_put 5 (Option.some Jvm.ClassFile.FieldType.boolean) :: wd)) B.pre w (List.mem_cons_of_mem _ hw)
  have hown : s.vm.findClass "LeastSolutions$Text" = some m.cls := findClass_of_methodNamed B.named
  have hS : va_S (fun _ => False) s.heap s.heap [] := va_S.rf
  have hl := lv_entry ([.ref h0, .long x, .int 3]) (n := 5) (Nat.le_of_ble_eq_true rfl)
  rw [lg_entry_eq]
  generalize (lg_sl ([.ref h0, .long x, .int 3]) ++ List.replicate (5 - (lg_sl ([.ref h0, .long x, .int 3])).length) Slot.unset).toArray = ls at hl ⊢
  have hl : lv_has ls 5 [(0, .ref h0), (1, .long x), (3, .int 3)] := hl
  refine lv_iload_n hx hb d_TX_put_0 rfl (lv_at hl 2 rfl) ?_
  refine lv_iconst (v := 1) hx hb d_TX_put_1 (by decide) ?_
  refine lv_icmp_lt (tgt := 31) hx hb d_TX_put_2 (by decide) (fun h9 => absurd h9 (by decide)) (fun _ => ?_)
  refine lv_iload_n hx hb d_TX_put_5 rfl (lv_at hl 2 rfl) ?_
  refine lv_bipush (v := 8) hx hb d_TX_put_6 (by decide) ?_
  refine lv_icmp_gt (tgt := 31) hx hb d_TX_put_8 (by decide) (fun h9 => absurd h9 (by decide)) (fun _ => ?_)
  refine lv_aload_n hx hb d_TX_put_11 rfl (lv_at hl 0 rfl) ?_
  refine va_get (D := (dC, dI)) (ci := 1) (v := .int 0) (C := R_TX) (T := T_TX) (N := 2) hx hb hts in_TX hown hK hP 0 rfl rfl 1 (by decide) (hts _ k_37) (fun _ h9 => h9) rfl d_TX_put_12 ?_
  refine lv_iload_n hx hb d_TX_put_15 rfl (lv_at hl 2 rfl) ?_
  refine lv_iadd hx hb d_TX_put_16 ?_
  refine W.eq (g2 := F0 m 17 ls [.int 3]) rfl ?_
  refine lv_sipush (v := 300) hx hb d_TX_put_17 (by decide) ?_
  refine lv_icmp_gt (tgt := 31) hx hb d_TX_put_20 (by decide) (fun h9 => absurd h9 (by decide)) (fun _ => ?_)
  refine lv_lload_n hx hb d_TX_put_23 rfl (lv_at hl 1 rfl) ?_
  refine lv_iload_n hx hb d_TX_put_24 rfl (lv_at hl 2 rfl) ?_
  refine pu_calli (va_runS (As := [.long x, .int 3]) (rest := []) ⟨hx, hb, hml, hown, hts⟩ (c_TX_areTypable_3n l dC dI (x) (g)) (wd_S 2 hts k_348 k_2 k_346 k_347 rfl rfl (by decide +kernel) ⟨Nat.le_of_ble_eq_true rfl, Nat.le_of_ble_eq_true rfl⟩) ⟨fun a U g mk q => by obtain ⟨q0, qP, qK, qN⟩ := q; exact ⟨q0, qP, va_K.moved (u := U) (U := U.calling g mk a) (Vm.Alike.refl U.vm) qK, nw_ok.same (s := U) (U := U.calling g mk a) rfl qN⟩, fun U hU hW => ⟨rfl, by rw [hU]; exact hP.sub (ws' := []) [] rfl, va_K.moved hW.alike (hK.sub (tys' := []) [] rfl), nw_ok.warm hW hN⟩⟩ rfl rfl hl.1 rfl (lv_room (Nat.le_of_ble_eq_true rfl)) d_TX_put_25 ⟨Nat.le_of_ble_eq_true rfl, Nat.le_of_ble_eq_true rfl⟩) (fun r1 hr1 => ?_)
  try dsimp only at hr1
  subst hr1
  refine lv_if_ne (tgt := 33) hx hb d_TX_put_28 (by decide) (fun h9 => absurd (by decide) h9) (fun _ => ?_)
  refine lv_iconst (v := 0) hx hb d_TX_put_31 (by decide) ?_
  exact W.zret (v := 0) (ty := .boolean) hx hb hr (by decide +kernel) (fun t ht hW => ⟨⟨0, (), rfl, rfl, trivial⟩, hS.F ht⟩) hS.2.2 d_TX_put_32

set_option maxHeartbeats 4000000 in
set_option maxRecDepth 100000 in
theorem c_TX_put_3y (l : Launch) (dC : Nat → ClassId) (dI : Nat → Nat → Nat) (h0 : Nat) (t0 : Nat) (cT : ClassId) (x : Int64) (sz : Nat) (g : ok x 0 ∧ ok x 8 ∧ ok x 16) : Met l y_TX_put (Cond.code y_TX_put b_TX_put 5 (Option.some Jvm.ClassFile.FieldType.boolean) :: wd) { frames := 2, cells := 0, slots := 0, locals := 46 } (va_Pc [.ref h0, .long x, .int 3] (fun U => U.heap.size = sz ∧ va_P (dC, dI) cls [(h0, .inr (1, [.ref t0, .int 0])), (t0, .inl (cT, 300, .inl (fun _ => (0 : Int32))))] U.heap ∧ va_K (dC, dI) cls [(cT, .byte)] U ∧ va_D (fun _ => True) [(h0, .inr (1, [.ref t0, .int 0])), (t0, .inl (cT, 300, .inl (fun _ => (0 : Int32))))] ∧ nw_ok U)) (va_Qi (fun r (_ : Unit) => r = 1) (fun (_ : Unit) t => va_P (dC, dI) cls [(h0, .inr (1, [.ref t0, .int 3]))] t.heap ∧ va_K (dC, dI) cls [(cT, .byte)] t ∧ va_D (va_A [(h0, .inr (1, [.ref t0, .int 0])), (t0, .inl (cT, 300, .inl (fun _ => (0 : Int32))))] sz) [(h0, .inr (1, [.ref t0, .int 3]))]) (va_A [(h0, .inr (1, [.ref t0, .int 0])), (t0, .inl (cT, 300, .inl (fun _ => (0 : Int32))))] sz)) 0 0 (va_A [(h0, .inr (1, [.ref t0, .int 0])), (t0, .inl (cT, 300, .inl (fun _ => (0 : Int32))))] sz) := by
  refine Met.ofW (cc := b_TX_put) (maxL := 5) (ret := (Option.some Jvm.ClassFile.FieldType.boolean)) (by decide) rfl ?_
  intro p e s m args below meth c s₁ B hml hv
  obtain ⟨rfl, hsz, hP, hK, hD0, hN⟩ := hv
  have hx := B.exec
  have hb := B.bytes
  have hr := B.returns
  have hlocks := B.notSynchronized
  have hts : ∀ w ∈ wd, w.before ([.ref h0, .long x, .int 3] : List Value).toArray s = true := fun w hw => atoms_spec (ws := (Cond.code y_TX_put b_TX_put 5 (Option.some Jvm.ClassFile.FieldType.boolean) :: wd)) B.pre w (List.mem_cons_of_mem _ hw)
  have hown : s.vm.findClass "LeastSolutions$Text" = some m.cls := findClass_of_methodNamed B.named
  subst hsz
  have hD := hD0.self (sz := s.heap.size)
  generalize hAe : va_A [(h0, .inr (1, [.ref t0, .int 0])), (t0, .inl (cT, 300, .inl (fun _ => (0 : Int32))))] s.heap.size = A at hD ⊢
  have hA : ∀ q : Nat, s.heap.size ≤ q → A q := fun q h => by rw [← hAe]; exact Or.inr h
  have hS : va_S A s.heap s.heap [] := va_S.rf
  have hl := lv_entry ([.ref h0, .long x, .int 3]) (n := 5) (Nat.le_of_ble_eq_true rfl)
  rw [lg_entry_eq]
  generalize (lg_sl ([.ref h0, .long x, .int 3]) ++ List.replicate (5 - (lg_sl ([.ref h0, .long x, .int 3])).length) Slot.unset).toArray = ls at hl ⊢
  have hl : lv_has ls 5 [(0, .ref h0), (1, .long x), (3, .int 3)] := hl
  refine lv_iload_n hx hb d_TX_put_0 rfl (lv_at hl 2 rfl) ?_
  refine lv_iconst (v := 1) hx hb d_TX_put_1 (by decide) ?_
  refine lv_icmp_lt (tgt := 31) hx hb d_TX_put_2 (by decide) (fun h9 => absurd h9 (by decide)) (fun _ => ?_)
  refine lv_iload_n hx hb d_TX_put_5 rfl (lv_at hl 2 rfl) ?_
  refine lv_bipush (v := 8) hx hb d_TX_put_6 (by decide) ?_
  refine lv_icmp_gt (tgt := 31) hx hb d_TX_put_8 (by decide) (fun h9 => absurd h9 (by decide)) (fun _ => ?_)
  refine lv_aload_n hx hb d_TX_put_11 rfl (lv_at hl 0 rfl) ?_
  refine va_get (D := (dC, dI)) (ci := 1) (v := .int 0) (C := R_TX) (T := T_TX) (N := 2) hx hb hts in_TX hown hK hP 0 rfl rfl 1 (by decide) (hts _ k_37) (fun _ h9 => h9) rfl d_TX_put_12 ?_
  refine lv_iload_n hx hb d_TX_put_15 rfl (lv_at hl 2 rfl) ?_
  refine lv_iadd hx hb d_TX_put_16 ?_
  refine W.eq (g2 := F0 m 17 ls [.int 3]) rfl ?_
  refine lv_sipush (v := 300) hx hb d_TX_put_17 (by decide) ?_
  refine lv_icmp_gt (tgt := 31) hx hb d_TX_put_20 (by decide) (fun h9 => absurd h9 (by decide)) (fun _ => ?_)
  refine lv_lload_n hx hb d_TX_put_23 rfl (lv_at hl 1 rfl) ?_
  refine lv_iload_n hx hb d_TX_put_24 rfl (lv_at hl 2 rfl) ?_
  refine va_calli (va_runS (As := [.long x, .int 3]) (rest := []) ⟨hx, hb, hml, hown, hts⟩ (c_TX_areTypable_3y l dC dI (x) (g)) (wd_S 2 hts k_348 k_2 k_346 k_347 rfl rfl (by decide +kernel) ⟨Nat.le_of_ble_eq_true rfl, Nat.le_of_ble_eq_true rfl⟩) ⟨fun a U g mk q => by obtain ⟨q0, qP, qK, qN⟩ := q; exact ⟨q0, qP, va_K.moved (u := U) (U := U.calling g mk a) (Vm.Alike.refl U.vm) qK, nw_ok.same (s := U) (U := U.calling g mk a) rfl qN⟩, fun U hU hW => ⟨rfl, by rw [hU]; exact hP.sub (ws' := []) [] rfl, va_K.moved hW.alike (hK.sub (tys' := []) [] rfl), nw_ok.warm hW hN⟩⟩ rfl rfl hl.1 rfl (lv_room (Nat.le_of_ble_eq_true rfl)) d_TX_put_25 ⟨Nat.le_of_ble_eq_true rfl, Nat.le_of_ble_eq_true rfl⟩) hS (fun q _ h => h.elim) (fun q h => h.elim) (fun r1 u t H1 locs ht hvm hr1 hB hz1 hk1 hS => ?_)
  try dsimp only at hr1
  subst hr1
  have hP : va_P (dC, dI) cls [(h0, .inr (1, [.ref t0, .int 0])), (t0, .inl (cT, 300, .inl (fun _ => (0 : Int32))))] H1 := hP.kept (fun k q hq => hk1 q.1 (hP k q hq).lt id)
  have hP : va_P (dC, dI) cls [(h0, .inr (1, [.ref t0, .int 0])), (t0, .inl (cT, 300, .inl (fun _ => (0 : Int32))))] H1 := hP
  have hD : va_D A [(h0, .inr (1, [.ref t0, .int 0])), (t0, .inl (cT, 300, .inl (fun _ => (0 : Int32))))] := hD
  refine lv_if_ne (tgt := 33) hx hb d_TX_put_28 (by decide) (fun _ => ?_) (fun h9 => absurd h9 (by decide))
  refine lv_iload_n hx hb d_TX_put_33 rfl (lv_at hl 2 rfl) ?_
  refine lv_iconst (v := 1) hx hb d_TX_put_34 (by decide) ?_
  refine lv_isub hx hb d_TX_put_35 ?_
  refine W.eq (g2 := F0 m 36 ls [.int 2]) rfl ?_
  refine lv_istore hx hb d_TX_put_36 hl (by decide) rfl (fun ls hl => ?_)
  have hl : lv_has ls 5 [(4, .int 2), (0, .ref h0), (1, .long x), (3, .int 3)] := hl
  refine lv_iload hx hb d_TX_put_38 (lv_at hl 0 rfl) ?_
  refine lv_if_lt (tgt := 75) hx hb d_TX_put_40 (by decide) (fun h9 => absurd h9 (by decide)) (fun _ => ?_)
  refine lv_aload_n hx hb d_TX_put_43 rfl (lv_at hl 1 rfl) ?_
  refine va_get (D := (dC, dI)) (ci := 1) (v := .ref t0) (C := R_TX) (T := T_TX) (N := 2) hx hb hts in_TX hown hK hP 0 rfl rfl 0 (by decide) (hts _ k_36) (fun _ h9 => h9) rfl d_TX_put_44 ?_
  refine lv_aload_n hx hb d_TX_put_47 rfl (lv_at hl 1 rfl) ?_
  refine va_get (D := (dC, dI)) (ci := 1) (v := .int 0) (C := R_TX) (T := T_TX) (N := 2) hx hb hts in_TX hown hK hP 0 rfl rfl 1 (by decide) (hts _ k_37) (fun _ h9 => h9) rfl d_TX_put_48 ?_
  refine lv_lload_n hx hb d_TX_put_51 rfl (lv_at hl 2 rfl) ?_
  refine lv_iload hx hb d_TX_put_52 (lv_at hl 0 rfl) ?_
  refine va_calli (va_runS (As := [.long x, .int 2]) (rest := [.int 0, .ref t0]) ⟨hx, hb, hml, hown, hts⟩ (c_TX_byteOf l dC dI (x) (2)) (wd_S 2 hts k_351 k_2 k_349 k_350 rfl rfl (by decide +kernel) ⟨Nat.le_of_ble_eq_true rfl, Nat.le_of_ble_eq_true rfl⟩) ⟨fun a U g mk q => by obtain ⟨q0, qP, qK, qN⟩ := q; exact ⟨q0, qP, va_K.moved (u := U) (U := U.calling g mk a) (Vm.Alike.refl U.vm) qK, nw_ok.same (s := U) (U := U.calling g mk a) rfl qN⟩, fun U hU hW => ⟨rfl, by rw [hU]; exact hP.sub (ws' := []) [] rfl, va_K.moved hW.alike (hK.sub (tys' := []) [] rfl), nw_ok.warm hW hN⟩⟩ rfl rfl hl.1 rfl (lv_room (Nat.le_of_ble_eq_true rfl)) d_TX_put_54 ⟨Nat.le_of_ble_eq_true rfl, Nat.le_of_ble_eq_true rfl⟩) hS (fun q _ h => h.elim) (fun q h => h.elim) (fun r2 u t H2 locs ht hvm hr2 hB hz1 hk1 hS => ?_)
  try dsimp only at hr2
  subst hr2
  have hP : va_P (dC, dI) cls [(h0, .inr (1, [.ref t0, .int 0])), (t0, .inl (cT, 300, .inl (fun _ => (0 : Int32))))] H2 := hP.kept (fun k q hq => hk1 q.1 (hP k q hq).lt id)
  have hP : va_P (dC, dI) cls [(h0, .inr (1, [.ref t0, .int 0])), (t0, .inl (cT, 300, .inl (fun _ => (0 : Int32))))] H2 := hP
  have hD : va_D A [(h0, .inr (1, [.ref t0, .int 0])), (t0, .inl (cT, 300, .inl (fun _ => (0 : Int32))))] := hD
  refine lv_i2b (v := (bc x 2).toInt8.toInt32) hx hb d_TX_put_57 rfl ?_
  refine va_bast hx hb hK hP hD hS 1 0 rfl rfl (show ¬ ((0 : Int32) < 0 ∨ 300 ≤ (0 : Int32).toNatClampNeg) from by decide) d_TX_put_58 (fun H3 locs hP hD hS => ?_)
  have hP : va_P (dC, dI) cls [(h0, .inr (1, [.ref t0, .int 0])), (t0, .inl (cT, 300, .inl (upd (fun _ => (0 : Int32)) (0 : Int32).toNatClampNeg (vp_nar .byte (bc x 2).toInt8.toInt32))))] H3 := hP
  have hD : va_D A [(h0, .inr (1, [.ref t0, .int 0])), (t0, .inl (cT, 300, .inl (upd (fun _ => (0 : Int32)) (0 : Int32).toNatClampNeg (vp_nar .byte (bc x 2).toInt8.toInt32))))] := hD
  refine lv_aload_n hx hb d_TX_put_59 rfl (lv_at hl 1 rfl) ?_
  refine lv_dup hx hb d_TX_put_60 rfl ?_
  refine va_get (D := (dC, dI)) (ci := 1) (v := .int 0) (C := R_TX) (T := T_TX) (N := 2) hx hb hts in_TX hown hK hP 0 rfl rfl 1 (by decide) (hts _ k_37) (fun _ h9 => h9) rfl d_TX_put_61 ?_
  refine lv_iconst (v := 1) hx hb d_TX_put_64 (by decide) ?_
  refine lv_iadd hx hb d_TX_put_65 ?_
  refine W.eq (g2 := F0 m 66 ls [.int 1, .ref h0]) rfl ?_
  refine va_put (D := (dC, dI)) (ci := 1) (v := .int 1) (ty := .int) (C := R_TX) (T := T_TX) (N := 2) hx hb hts in_TX t_TX t_TX_ok n_TX hown hK hP hD hS 0 rfl rfl 1 (by decide) (hts _ k_37) (fun _ h9 => h9) rfl (by decide +kernel) rfl rfl (Nat.le_of_ble_eq_true rfl) d_TX_put_66 (fun H4 locs hP hD hS => ?_)
  have hP : va_P (dC, dI) cls [(h0, .inr (1, [.ref t0, .int 1])), (t0, .inl (cT, 300, .inl (upd (fun _ => (0 : Int32)) (0 : Int32).toNatClampNeg (vp_nar .byte (bc x 2).toInt8.toInt32))))] H4 := hP
  have hD : va_D A [(h0, .inr (1, [.ref t0, .int 1])), (t0, .inl (cT, 300, .inl (upd (fun _ => (0 : Int32)) (0 : Int32).toNatClampNeg (vp_nar .byte (bc x 2).toInt8.toInt32))))] := hD
  refine lv_iinc (k := 0) (v := 1) hx hb d_TX_put_69 hl rfl (by decide) (by decide) rfl (fun ls hl => ?_)
  have hl : lv_has ls 5 [(4, .int 1), (0, .ref h0), (1, .long x), (3, .int 3)] := hl
  refine lv_goto (tgt := 38) hx hb d_TX_put_72 (by decide) ?_
  refine lv_iload hx hb d_TX_put_38 (lv_at hl 0 rfl) ?_
  refine lv_if_lt (tgt := 75) hx hb d_TX_put_40 (by decide) (fun h9 => absurd h9 (by decide)) (fun _ => ?_)
  refine lv_aload_n hx hb d_TX_put_43 rfl (lv_at hl 1 rfl) ?_
  refine va_get (D := (dC, dI)) (ci := 1) (v := .ref t0) (C := R_TX) (T := T_TX) (N := 2) hx hb hts in_TX hown hK hP 0 rfl rfl 0 (by decide) (hts _ k_36) (fun _ h9 => h9) rfl d_TX_put_44 ?_
  refine lv_aload_n hx hb d_TX_put_47 rfl (lv_at hl 1 rfl) ?_
  refine va_get (D := (dC, dI)) (ci := 1) (v := .int 1) (C := R_TX) (T := T_TX) (N := 2) hx hb hts in_TX hown hK hP 0 rfl rfl 1 (by decide) (hts _ k_37) (fun _ h9 => h9) rfl d_TX_put_48 ?_
  refine lv_lload_n hx hb d_TX_put_51 rfl (lv_at hl 2 rfl) ?_
  refine lv_iload hx hb d_TX_put_52 (lv_at hl 0 rfl) ?_
  refine va_calli (va_runS (As := [.long x, .int 1]) (rest := [.int 1, .ref t0]) ⟨hx, hb, hml, hown, hts⟩ (c_TX_byteOf l dC dI (x) (1)) (wd_S 2 hts k_351 k_2 k_349 k_350 rfl rfl (by decide +kernel) ⟨Nat.le_of_ble_eq_true rfl, Nat.le_of_ble_eq_true rfl⟩) ⟨fun a U g mk q => by obtain ⟨q0, qP, qK, qN⟩ := q; exact ⟨q0, qP, va_K.moved (u := U) (U := U.calling g mk a) (Vm.Alike.refl U.vm) qK, nw_ok.same (s := U) (U := U.calling g mk a) rfl qN⟩, fun U hU hW => ⟨rfl, by rw [hU]; exact hP.sub (ws' := []) [] rfl, va_K.moved hW.alike (hK.sub (tys' := []) [] rfl), nw_ok.warm hW hN⟩⟩ rfl rfl hl.1 rfl (lv_room (Nat.le_of_ble_eq_true rfl)) d_TX_put_54 ⟨Nat.le_of_ble_eq_true rfl, Nat.le_of_ble_eq_true rfl⟩) hS (fun q _ h => h.elim) (fun q h => h.elim) (fun r3 u t H5 locs ht hvm hr3 hB hz1 hk1 hS => ?_)
  try dsimp only at hr3
  subst hr3
  have hP : va_P (dC, dI) cls [(h0, .inr (1, [.ref t0, .int 1])), (t0, .inl (cT, 300, .inl (upd (fun _ => (0 : Int32)) (0 : Int32).toNatClampNeg (vp_nar .byte (bc x 2).toInt8.toInt32))))] H5 := hP.kept (fun k q hq => hk1 q.1 (hP k q hq).lt id)
  have hP : va_P (dC, dI) cls [(h0, .inr (1, [.ref t0, .int 1])), (t0, .inl (cT, 300, .inl (upd (fun _ => (0 : Int32)) (0 : Int32).toNatClampNeg (vp_nar .byte (bc x 2).toInt8.toInt32))))] H5 := hP
  have hD : va_D A [(h0, .inr (1, [.ref t0, .int 1])), (t0, .inl (cT, 300, .inl (upd (fun _ => (0 : Int32)) (0 : Int32).toNatClampNeg (vp_nar .byte (bc x 2).toInt8.toInt32))))] := hD
  refine lv_i2b (v := (bc x 1).toInt8.toInt32) hx hb d_TX_put_57 rfl ?_
  refine va_bast hx hb hK hP hD hS 1 0 rfl rfl (show ¬ ((1 : Int32) < 0 ∨ 300 ≤ (1 : Int32).toNatClampNeg) from by decide) d_TX_put_58 (fun H6 locs hP hD hS => ?_)
  have hP : va_P (dC, dI) cls [(h0, .inr (1, [.ref t0, .int 1])), (t0, .inl (cT, 300, .inl (upd (upd (fun _ => (0 : Int32)) (0 : Int32).toNatClampNeg (vp_nar .byte (bc x 2).toInt8.toInt32)) (1 : Int32).toNatClampNeg (vp_nar .byte (bc x 1).toInt8.toInt32))))] H6 := hP
  have hD : va_D A [(h0, .inr (1, [.ref t0, .int 1])), (t0, .inl (cT, 300, .inl (upd (upd (fun _ => (0 : Int32)) (0 : Int32).toNatClampNeg (vp_nar .byte (bc x 2).toInt8.toInt32)) (1 : Int32).toNatClampNeg (vp_nar .byte (bc x 1).toInt8.toInt32))))] := hD
  refine lv_aload_n hx hb d_TX_put_59 rfl (lv_at hl 1 rfl) ?_
  refine lv_dup hx hb d_TX_put_60 rfl ?_
  refine va_get (D := (dC, dI)) (ci := 1) (v := .int 1) (C := R_TX) (T := T_TX) (N := 2) hx hb hts in_TX hown hK hP 0 rfl rfl 1 (by decide) (hts _ k_37) (fun _ h9 => h9) rfl d_TX_put_61 ?_
  refine lv_iconst (v := 1) hx hb d_TX_put_64 (by decide) ?_
  refine lv_iadd hx hb d_TX_put_65 ?_
  refine W.eq (g2 := F0 m 66 ls [.int 2, .ref h0]) rfl ?_
  refine va_put (D := (dC, dI)) (ci := 1) (v := .int 2) (ty := .int) (C := R_TX) (T := T_TX) (N := 2) hx hb hts in_TX t_TX t_TX_ok n_TX hown hK hP hD hS 0 rfl rfl 1 (by decide) (hts _ k_37) (fun _ h9 => h9) rfl (by decide +kernel) rfl rfl (Nat.le_of_ble_eq_true rfl) d_TX_put_66 (fun H7 locs hP hD hS => ?_)
  have hP : va_P (dC, dI) cls [(h0, .inr (1, [.ref t0, .int 2])), (t0, .inl (cT, 300, .inl (upd (upd (fun _ => (0 : Int32)) (0 : Int32).toNatClampNeg (vp_nar .byte (bc x 2).toInt8.toInt32)) (1 : Int32).toNatClampNeg (vp_nar .byte (bc x 1).toInt8.toInt32))))] H7 := hP
  have hD : va_D A [(h0, .inr (1, [.ref t0, .int 2])), (t0, .inl (cT, 300, .inl (upd (upd (fun _ => (0 : Int32)) (0 : Int32).toNatClampNeg (vp_nar .byte (bc x 2).toInt8.toInt32)) (1 : Int32).toNatClampNeg (vp_nar .byte (bc x 1).toInt8.toInt32))))] := hD
  refine lv_iinc (k := 0) (v := 0) hx hb d_TX_put_69 hl rfl (by decide) (by decide) rfl (fun ls hl => ?_)
  have hl : lv_has ls 5 [(4, .int 0), (0, .ref h0), (1, .long x), (3, .int 3)] := hl
  refine lv_goto (tgt := 38) hx hb d_TX_put_72 (by decide) ?_
  refine lv_iload hx hb d_TX_put_38 (lv_at hl 0 rfl) ?_
  refine lv_if_lt (tgt := 75) hx hb d_TX_put_40 (by decide) (fun h9 => absurd h9 (by decide)) (fun _ => ?_)
  refine lv_aload_n hx hb d_TX_put_43 rfl (lv_at hl 1 rfl) ?_
  refine va_get (D := (dC, dI)) (ci := 1) (v := .ref t0) (C := R_TX) (T := T_TX) (N := 2) hx hb hts in_TX hown hK hP 0 rfl rfl 0 (by decide) (hts _ k_36) (fun _ h9 => h9) rfl d_TX_put_44 ?_
  refine lv_aload_n hx hb d_TX_put_47 rfl (lv_at hl 1 rfl) ?_
  refine va_get (D := (dC, dI)) (ci := 1) (v := .int 2) (C := R_TX) (T := T_TX) (N := 2) hx hb hts in_TX hown hK hP 0 rfl rfl 1 (by decide) (hts _ k_37) (fun _ h9 => h9) rfl d_TX_put_48 ?_
  refine lv_lload_n hx hb d_TX_put_51 rfl (lv_at hl 2 rfl) ?_
  refine lv_iload hx hb d_TX_put_52 (lv_at hl 0 rfl) ?_
  refine va_calli (va_runS (As := [.long x, .int 0]) (rest := [.int 2, .ref t0]) ⟨hx, hb, hml, hown, hts⟩ (c_TX_byteOf l dC dI (x) (0)) (wd_S 2 hts k_351 k_2 k_349 k_350 rfl rfl (by decide +kernel) ⟨Nat.le_of_ble_eq_true rfl, Nat.le_of_ble_eq_true rfl⟩) ⟨fun a U g mk q => by obtain ⟨q0, qP, qK, qN⟩ := q; exact ⟨q0, qP, va_K.moved (u := U) (U := U.calling g mk a) (Vm.Alike.refl U.vm) qK, nw_ok.same (s := U) (U := U.calling g mk a) rfl qN⟩, fun U hU hW => ⟨rfl, by rw [hU]; exact hP.sub (ws' := []) [] rfl, va_K.moved hW.alike (hK.sub (tys' := []) [] rfl), nw_ok.warm hW hN⟩⟩ rfl rfl hl.1 rfl (lv_room (Nat.le_of_ble_eq_true rfl)) d_TX_put_54 ⟨Nat.le_of_ble_eq_true rfl, Nat.le_of_ble_eq_true rfl⟩) hS (fun q _ h => h.elim) (fun q h => h.elim) (fun r4 u t H8 locs ht hvm hr4 hB hz1 hk1 hS => ?_)
  try dsimp only at hr4
  subst hr4
  have hP : va_P (dC, dI) cls [(h0, .inr (1, [.ref t0, .int 2])), (t0, .inl (cT, 300, .inl (upd (upd (fun _ => (0 : Int32)) (0 : Int32).toNatClampNeg (vp_nar .byte (bc x 2).toInt8.toInt32)) (1 : Int32).toNatClampNeg (vp_nar .byte (bc x 1).toInt8.toInt32))))] H8 := hP.kept (fun k q hq => hk1 q.1 (hP k q hq).lt id)
  have hP : va_P (dC, dI) cls [(h0, .inr (1, [.ref t0, .int 2])), (t0, .inl (cT, 300, .inl (upd (upd (fun _ => (0 : Int32)) (0 : Int32).toNatClampNeg (vp_nar .byte (bc x 2).toInt8.toInt32)) (1 : Int32).toNatClampNeg (vp_nar .byte (bc x 1).toInt8.toInt32))))] H8 := hP
  have hD : va_D A [(h0, .inr (1, [.ref t0, .int 2])), (t0, .inl (cT, 300, .inl (upd (upd (fun _ => (0 : Int32)) (0 : Int32).toNatClampNeg (vp_nar .byte (bc x 2).toInt8.toInt32)) (1 : Int32).toNatClampNeg (vp_nar .byte (bc x 1).toInt8.toInt32))))] := hD
  refine lv_i2b (v := (bc x 0).toInt8.toInt32) hx hb d_TX_put_57 rfl ?_
  refine va_bast hx hb hK hP hD hS 1 0 rfl rfl (show ¬ ((2 : Int32) < 0 ∨ 300 ≤ (2 : Int32).toNatClampNeg) from by decide) d_TX_put_58 (fun H9 locs hP hD hS => ?_)
  have hP : va_P (dC, dI) cls [(h0, .inr (1, [.ref t0, .int 2])), (t0, .inl (cT, 300, .inl (upd (upd (upd (fun _ => (0 : Int32)) (0 : Int32).toNatClampNeg (vp_nar .byte (bc x 2).toInt8.toInt32)) (1 : Int32).toNatClampNeg (vp_nar .byte (bc x 1).toInt8.toInt32)) (2 : Int32).toNatClampNeg (vp_nar .byte (bc x 0).toInt8.toInt32))))] H9 := hP
  have hD : va_D A [(h0, .inr (1, [.ref t0, .int 2])), (t0, .inl (cT, 300, .inl (upd (upd (upd (fun _ => (0 : Int32)) (0 : Int32).toNatClampNeg (vp_nar .byte (bc x 2).toInt8.toInt32)) (1 : Int32).toNatClampNeg (vp_nar .byte (bc x 1).toInt8.toInt32)) (2 : Int32).toNatClampNeg (vp_nar .byte (bc x 0).toInt8.toInt32))))] := hD
  refine lv_aload_n hx hb d_TX_put_59 rfl (lv_at hl 1 rfl) ?_
  refine lv_dup hx hb d_TX_put_60 rfl ?_
  refine va_get (D := (dC, dI)) (ci := 1) (v := .int 2) (C := R_TX) (T := T_TX) (N := 2) hx hb hts in_TX hown hK hP 0 rfl rfl 1 (by decide) (hts _ k_37) (fun _ h9 => h9) rfl d_TX_put_61 ?_
  refine lv_iconst (v := 1) hx hb d_TX_put_64 (by decide) ?_
  refine lv_iadd hx hb d_TX_put_65 ?_
  refine W.eq (g2 := F0 m 66 ls [.int 3, .ref h0]) rfl ?_
  refine va_put (D := (dC, dI)) (ci := 1) (v := .int 3) (ty := .int) (C := R_TX) (T := T_TX) (N := 2) hx hb hts in_TX t_TX t_TX_ok n_TX hown hK hP hD hS 0 rfl rfl 1 (by decide) (hts _ k_37) (fun _ h9 => h9) rfl (by decide +kernel) rfl rfl (Nat.le_of_ble_eq_true rfl) d_TX_put_66 (fun H10 locs hP hD hS => ?_)
  have hP : va_P (dC, dI) cls [(h0, .inr (1, [.ref t0, .int 3])), (t0, .inl (cT, 300, .inl (upd (upd (upd (fun _ => (0 : Int32)) (0 : Int32).toNatClampNeg (vp_nar .byte (bc x 2).toInt8.toInt32)) (1 : Int32).toNatClampNeg (vp_nar .byte (bc x 1).toInt8.toInt32)) (2 : Int32).toNatClampNeg (vp_nar .byte (bc x 0).toInt8.toInt32))))] H10 := hP
  have hD : va_D A [(h0, .inr (1, [.ref t0, .int 3])), (t0, .inl (cT, 300, .inl (upd (upd (upd (fun _ => (0 : Int32)) (0 : Int32).toNatClampNeg (vp_nar .byte (bc x 2).toInt8.toInt32)) (1 : Int32).toNatClampNeg (vp_nar .byte (bc x 1).toInt8.toInt32)) (2 : Int32).toNatClampNeg (vp_nar .byte (bc x 0).toInt8.toInt32))))] := hD
  refine lv_iinc (k := 0) (v := (-1)) hx hb d_TX_put_69 hl rfl (by decide) (by decide) rfl (fun ls hl => ?_)
  have hl : lv_has ls 5 [(4, .int (-1)), (0, .ref h0), (1, .long x), (3, .int 3)] := hl
  refine lv_goto (tgt := 38) hx hb d_TX_put_72 (by decide) ?_
  refine lv_iload hx hb d_TX_put_38 (lv_at hl 0 rfl) ?_
  refine lv_if_lt (tgt := 75) hx hb d_TX_put_40 (by decide) (fun _ => ?_) (fun h9 => absurd (by decide) h9)
  refine lv_iconst (v := 1) hx hb d_TX_put_75 (by decide) ?_
  have hP9 := hP.sub (ws' := [(h0, .inr (1, [.ref t0, .int 3]))]) [0] rfl
  have hD9 := hD.sub (ws' := [(h0, .inr (1, [.ref t0, .int 3]))]) [0] (by decide) rfl
  have hK9 := hK.sub (tys' := [(cT, .byte)]) [0] rfl
  exact W.zret (v := 1) (ty := .boolean) hx hb hr (by decide +kernel) (fun t ht hW => ⟨⟨1, (), rfl, rfl, by rw [ht]; exact hP9, va_K.moved hW.alike hK9, hD9⟩, hS.F ht⟩) hS.2.2 d_TX_put_76

set_option maxHeartbeats 4000000 in
set_option maxRecDepth 100000 in
theorem c_TX_put_4n (l : Launch) (dC : Nat → ClassId) (dI : Nat → Nat → Nat) (h0 : Nat) (t0 : Nat) (x : Int64) (g : ¬ (ok x 0 ∧ ok x 8 ∧ ok x 16 ∧ ok x 24)) : Met l y_TX_put (Cond.code y_TX_put b_TX_put 5 (Option.some Jvm.ClassFile.FieldType.boolean) :: wd) { frames := 2, cells := 0, slots := 0, locals := 46 } (va_Pc [.ref h0, .long x, .int 4] (fun U => va_P (dC, dI) cls [(h0, .inr (1, [.ref t0, .int 0]))] U.heap ∧ va_K (dC, dI) cls [] U ∧ nw_ok U)) (va_Qi (fun r (_ : Unit) => r = 0) (fun _ _ => True) (fun _ => False)) 0 0 (fun _ => False) := by
  refine Met.ofW (cc := b_TX_put) (maxL := 5) (ret := (Option.some Jvm.ClassFile.FieldType.boolean)) (by decide) rfl ?_
  intro p e s m args below meth c s₁ B hml hv
  obtain ⟨rfl, hP, hK, hN⟩ := hv
  have hx := B.exec
  have hb := B.bytes
  have hr := B.returns
  have hlocks := B.notSynchronized
  have hts : ∀ w ∈ wd, w.before ([.ref h0, .long x, .int 4] : List Value).toArray s = true := fun w hw => atoms_spec (ws := (Cond.code y_TX_put b_TX_put 5 (Option.some Jvm.ClassFile.FieldType.boolean) :: wd)) B.pre w (List.mem_cons_of_mem _ hw)
  have hown : s.vm.findClass "LeastSolutions$Text" = some m.cls := findClass_of_methodNamed B.named
  have hS : va_S (fun _ => False) s.heap s.heap [] := va_S.rf
  have hl := lv_entry ([.ref h0, .long x, .int 4]) (n := 5) (Nat.le_of_ble_eq_true rfl)
  rw [lg_entry_eq]
  generalize (lg_sl ([.ref h0, .long x, .int 4]) ++ List.replicate (5 - (lg_sl ([.ref h0, .long x, .int 4])).length) Slot.unset).toArray = ls at hl ⊢
  have hl : lv_has ls 5 [(0, .ref h0), (1, .long x), (3, .int 4)] := hl
  refine lv_iload_n hx hb d_TX_put_0 rfl (lv_at hl 2 rfl) ?_
  refine lv_iconst (v := 1) hx hb d_TX_put_1 (by decide) ?_
  refine lv_icmp_lt (tgt := 31) hx hb d_TX_put_2 (by decide) (fun h9 => absurd h9 (by decide)) (fun _ => ?_)
  refine lv_iload_n hx hb d_TX_put_5 rfl (lv_at hl 2 rfl) ?_
  refine lv_bipush (v := 8) hx hb d_TX_put_6 (by decide) ?_
  refine lv_icmp_gt (tgt := 31) hx hb d_TX_put_8 (by decide) (fun h9 => absurd h9 (by decide)) (fun _ => ?_)
  refine lv_aload_n hx hb d_TX_put_11 rfl (lv_at hl 0 rfl) ?_
  refine va_get (D := (dC, dI)) (ci := 1) (v := .int 0) (C := R_TX) (T := T_TX) (N := 2) hx hb hts in_TX hown hK hP 0 rfl rfl 1 (by decide) (hts _ k_37) (fun _ h9 => h9) rfl d_TX_put_12 ?_
  refine lv_iload_n hx hb d_TX_put_15 rfl (lv_at hl 2 rfl) ?_
  refine lv_iadd hx hb d_TX_put_16 ?_
  refine W.eq (g2 := F0 m 17 ls [.int 4]) rfl ?_
  refine lv_sipush (v := 300) hx hb d_TX_put_17 (by decide) ?_
  refine lv_icmp_gt (tgt := 31) hx hb d_TX_put_20 (by decide) (fun h9 => absurd h9 (by decide)) (fun _ => ?_)
  refine lv_lload_n hx hb d_TX_put_23 rfl (lv_at hl 1 rfl) ?_
  refine lv_iload_n hx hb d_TX_put_24 rfl (lv_at hl 2 rfl) ?_
  refine pu_calli (va_runS (As := [.long x, .int 4]) (rest := []) ⟨hx, hb, hml, hown, hts⟩ (c_TX_areTypable_4n l dC dI (x) (g)) (wd_S 2 hts k_348 k_2 k_346 k_347 rfl rfl (by decide +kernel) ⟨Nat.le_of_ble_eq_true rfl, Nat.le_of_ble_eq_true rfl⟩) ⟨fun a U g mk q => by obtain ⟨q0, qP, qK, qN⟩ := q; exact ⟨q0, qP, va_K.moved (u := U) (U := U.calling g mk a) (Vm.Alike.refl U.vm) qK, nw_ok.same (s := U) (U := U.calling g mk a) rfl qN⟩, fun U hU hW => ⟨rfl, by rw [hU]; exact hP.sub (ws' := []) [] rfl, va_K.moved hW.alike (hK.sub (tys' := []) [] rfl), nw_ok.warm hW hN⟩⟩ rfl rfl hl.1 rfl (lv_room (Nat.le_of_ble_eq_true rfl)) d_TX_put_25 ⟨Nat.le_of_ble_eq_true rfl, Nat.le_of_ble_eq_true rfl⟩) (fun r1 hr1 => ?_)
  try dsimp only at hr1
  subst hr1
  refine lv_if_ne (tgt := 33) hx hb d_TX_put_28 (by decide) (fun h9 => absurd (by decide) h9) (fun _ => ?_)
  refine lv_iconst (v := 0) hx hb d_TX_put_31 (by decide) ?_
  exact W.zret (v := 0) (ty := .boolean) hx hb hr (by decide +kernel) (fun t ht hW => ⟨⟨0, (), rfl, rfl, trivial⟩, hS.F ht⟩) hS.2.2 d_TX_put_32

set_option maxHeartbeats 4000000 in
set_option maxRecDepth 100000 in
theorem c_TX_put_4y (l : Launch) (dC : Nat → ClassId) (dI : Nat → Nat → Nat) (h0 : Nat) (t0 : Nat) (cT : ClassId) (x : Int64) (sz : Nat) (g : ok x 0 ∧ ok x 8 ∧ ok x 16 ∧ ok x 24) : Met l y_TX_put (Cond.code y_TX_put b_TX_put 5 (Option.some Jvm.ClassFile.FieldType.boolean) :: wd) { frames := 2, cells := 0, slots := 0, locals := 46 } (va_Pc [.ref h0, .long x, .int 4] (fun U => U.heap.size = sz ∧ va_P (dC, dI) cls [(h0, .inr (1, [.ref t0, .int 0])), (t0, .inl (cT, 300, .inl (fun _ => (0 : Int32))))] U.heap ∧ va_K (dC, dI) cls [(cT, .byte)] U ∧ va_D (fun _ => True) [(h0, .inr (1, [.ref t0, .int 0])), (t0, .inl (cT, 300, .inl (fun _ => (0 : Int32))))] ∧ nw_ok U)) (va_Qi (fun r (_ : Unit) => r = 1) (fun (_ : Unit) t => va_P (dC, dI) cls [(h0, .inr (1, [.ref t0, .int 4]))] t.heap ∧ va_K (dC, dI) cls [(cT, .byte)] t ∧ va_D (va_A [(h0, .inr (1, [.ref t0, .int 0])), (t0, .inl (cT, 300, .inl (fun _ => (0 : Int32))))] sz) [(h0, .inr (1, [.ref t0, .int 4]))]) (va_A [(h0, .inr (1, [.ref t0, .int 0])), (t0, .inl (cT, 300, .inl (fun _ => (0 : Int32))))] sz)) 0 0 (va_A [(h0, .inr (1, [.ref t0, .int 0])), (t0, .inl (cT, 300, .inl (fun _ => (0 : Int32))))] sz) := by
  refine Met.ofW (cc := b_TX_put) (maxL := 5) (ret := (Option.some Jvm.ClassFile.FieldType.boolean)) (by decide) rfl ?_
  intro p e s m args below meth c s₁ B hml hv
  obtain ⟨rfl, hsz, hP, hK, hD0, hN⟩ := hv
  have hx := B.exec
  have hb := B.bytes
  have hr := B.returns
  have hlocks := B.notSynchronized
  have hts : ∀ w ∈ wd, w.before ([.ref h0, .long x, .int 4] : List Value).toArray s = true := fun w hw => atoms_spec (ws := (Cond.code y_TX_put b_TX_put 5 (Option.some Jvm.ClassFile.FieldType.boolean) :: wd)) B.pre w (List.mem_cons_of_mem _ hw)
  have hown : s.vm.findClass "LeastSolutions$Text" = some m.cls := findClass_of_methodNamed B.named
  subst hsz
  have hD := hD0.self (sz := s.heap.size)
  generalize hAe : va_A [(h0, .inr (1, [.ref t0, .int 0])), (t0, .inl (cT, 300, .inl (fun _ => (0 : Int32))))] s.heap.size = A at hD ⊢
  have hA : ∀ q : Nat, s.heap.size ≤ q → A q := fun q h => by rw [← hAe]; exact Or.inr h
  have hS : va_S A s.heap s.heap [] := va_S.rf
  have hl := lv_entry ([.ref h0, .long x, .int 4]) (n := 5) (Nat.le_of_ble_eq_true rfl)
  rw [lg_entry_eq]
  generalize (lg_sl ([.ref h0, .long x, .int 4]) ++ List.replicate (5 - (lg_sl ([.ref h0, .long x, .int 4])).length) Slot.unset).toArray = ls at hl ⊢
  have hl : lv_has ls 5 [(0, .ref h0), (1, .long x), (3, .int 4)] := hl
  refine lv_iload_n hx hb d_TX_put_0 rfl (lv_at hl 2 rfl) ?_
  refine lv_iconst (v := 1) hx hb d_TX_put_1 (by decide) ?_
  refine lv_icmp_lt (tgt := 31) hx hb d_TX_put_2 (by decide) (fun h9 => absurd h9 (by decide)) (fun _ => ?_)
  refine lv_iload_n hx hb d_TX_put_5 rfl (lv_at hl 2 rfl) ?_
  refine lv_bipush (v := 8) hx hb d_TX_put_6 (by decide) ?_
  refine lv_icmp_gt (tgt := 31) hx hb d_TX_put_8 (by decide) (fun h9 => absurd h9 (by decide)) (fun _ => ?_)
  refine lv_aload_n hx hb d_TX_put_11 rfl (lv_at hl 0 rfl) ?_
  refine va_get (D := (dC, dI)) (ci := 1) (v := .int 0) (C := R_TX) (T := T_TX) (N := 2) hx hb hts in_TX hown hK hP 0 rfl rfl 1 (by decide) (hts _ k_37) (fun _ h9 => h9) rfl d_TX_put_12 ?_
  refine lv_iload_n hx hb d_TX_put_15 rfl (lv_at hl 2 rfl) ?_
  refine lv_iadd hx hb d_TX_put_16 ?_
  refine W.eq (g2 := F0 m 17 ls [.int 4]) rfl ?_
  refine lv_sipush (v := 300) hx hb d_TX_put_17 (by decide) ?_
  refine lv_icmp_gt (tgt := 31) hx hb d_TX_put_20 (by decide) (fun h9 => absurd h9 (by decide)) (fun _ => ?_)
  refine lv_lload_n hx hb d_TX_put_23 rfl (lv_at hl 1 rfl) ?_
  refine lv_iload_n hx hb d_TX_put_24 rfl (lv_at hl 2 rfl) ?_
  refine va_calli (va_runS (As := [.long x, .int 4]) (rest := []) ⟨hx, hb, hml, hown, hts⟩ (c_TX_areTypable_4y l dC dI (x) (g)) (wd_S 2 hts k_348 k_2 k_346 k_347 rfl rfl (by decide +kernel) ⟨Nat.le_of_ble_eq_true rfl, Nat.le_of_ble_eq_true rfl⟩) ⟨fun a U g mk q => by obtain ⟨q0, qP, qK, qN⟩ := q; exact ⟨q0, qP, va_K.moved (u := U) (U := U.calling g mk a) (Vm.Alike.refl U.vm) qK, nw_ok.same (s := U) (U := U.calling g mk a) rfl qN⟩, fun U hU hW => ⟨rfl, by rw [hU]; exact hP.sub (ws' := []) [] rfl, va_K.moved hW.alike (hK.sub (tys' := []) [] rfl), nw_ok.warm hW hN⟩⟩ rfl rfl hl.1 rfl (lv_room (Nat.le_of_ble_eq_true rfl)) d_TX_put_25 ⟨Nat.le_of_ble_eq_true rfl, Nat.le_of_ble_eq_true rfl⟩) hS (fun q _ h => h.elim) (fun q h => h.elim) (fun r1 u t H1 locs ht hvm hr1 hB hz1 hk1 hS => ?_)
  try dsimp only at hr1
  subst hr1
  have hP : va_P (dC, dI) cls [(h0, .inr (1, [.ref t0, .int 0])), (t0, .inl (cT, 300, .inl (fun _ => (0 : Int32))))] H1 := hP.kept (fun k q hq => hk1 q.1 (hP k q hq).lt id)
  have hP : va_P (dC, dI) cls [(h0, .inr (1, [.ref t0, .int 0])), (t0, .inl (cT, 300, .inl (fun _ => (0 : Int32))))] H1 := hP
  have hD : va_D A [(h0, .inr (1, [.ref t0, .int 0])), (t0, .inl (cT, 300, .inl (fun _ => (0 : Int32))))] := hD
  refine lv_if_ne (tgt := 33) hx hb d_TX_put_28 (by decide) (fun _ => ?_) (fun h9 => absurd h9 (by decide))
  refine lv_iload_n hx hb d_TX_put_33 rfl (lv_at hl 2 rfl) ?_
  refine lv_iconst (v := 1) hx hb d_TX_put_34 (by decide) ?_
  refine lv_isub hx hb d_TX_put_35 ?_
  refine W.eq (g2 := F0 m 36 ls [.int 3]) rfl ?_
  refine lv_istore hx hb d_TX_put_36 hl (by decide) rfl (fun ls hl => ?_)
  have hl : lv_has ls 5 [(4, .int 3), (0, .ref h0), (1, .long x), (3, .int 4)] := hl
  refine lv_iload hx hb d_TX_put_38 (lv_at hl 0 rfl) ?_
  refine lv_if_lt (tgt := 75) hx hb d_TX_put_40 (by decide) (fun h9 => absurd h9 (by decide)) (fun _ => ?_)
  refine lv_aload_n hx hb d_TX_put_43 rfl (lv_at hl 1 rfl) ?_
  refine va_get (D := (dC, dI)) (ci := 1) (v := .ref t0) (C := R_TX) (T := T_TX) (N := 2) hx hb hts in_TX hown hK hP 0 rfl rfl 0 (by decide) (hts _ k_36) (fun _ h9 => h9) rfl d_TX_put_44 ?_
  refine lv_aload_n hx hb d_TX_put_47 rfl (lv_at hl 1 rfl) ?_
  refine va_get (D := (dC, dI)) (ci := 1) (v := .int 0) (C := R_TX) (T := T_TX) (N := 2) hx hb hts in_TX hown hK hP 0 rfl rfl 1 (by decide) (hts _ k_37) (fun _ h9 => h9) rfl d_TX_put_48 ?_
  refine lv_lload_n hx hb d_TX_put_51 rfl (lv_at hl 2 rfl) ?_
  refine lv_iload hx hb d_TX_put_52 (lv_at hl 0 rfl) ?_
  refine va_calli (va_runS (As := [.long x, .int 3]) (rest := [.int 0, .ref t0]) ⟨hx, hb, hml, hown, hts⟩ (c_TX_byteOf l dC dI (x) (3)) (wd_S 2 hts k_351 k_2 k_349 k_350 rfl rfl (by decide +kernel) ⟨Nat.le_of_ble_eq_true rfl, Nat.le_of_ble_eq_true rfl⟩) ⟨fun a U g mk q => by obtain ⟨q0, qP, qK, qN⟩ := q; exact ⟨q0, qP, va_K.moved (u := U) (U := U.calling g mk a) (Vm.Alike.refl U.vm) qK, nw_ok.same (s := U) (U := U.calling g mk a) rfl qN⟩, fun U hU hW => ⟨rfl, by rw [hU]; exact hP.sub (ws' := []) [] rfl, va_K.moved hW.alike (hK.sub (tys' := []) [] rfl), nw_ok.warm hW hN⟩⟩ rfl rfl hl.1 rfl (lv_room (Nat.le_of_ble_eq_true rfl)) d_TX_put_54 ⟨Nat.le_of_ble_eq_true rfl, Nat.le_of_ble_eq_true rfl⟩) hS (fun q _ h => h.elim) (fun q h => h.elim) (fun r2 u t H2 locs ht hvm hr2 hB hz1 hk1 hS => ?_)
  try dsimp only at hr2
  subst hr2
  have hP : va_P (dC, dI) cls [(h0, .inr (1, [.ref t0, .int 0])), (t0, .inl (cT, 300, .inl (fun _ => (0 : Int32))))] H2 := hP.kept (fun k q hq => hk1 q.1 (hP k q hq).lt id)
  have hP : va_P (dC, dI) cls [(h0, .inr (1, [.ref t0, .int 0])), (t0, .inl (cT, 300, .inl (fun _ => (0 : Int32))))] H2 := hP
  have hD : va_D A [(h0, .inr (1, [.ref t0, .int 0])), (t0, .inl (cT, 300, .inl (fun _ => (0 : Int32))))] := hD
  refine lv_i2b (v := (bc x 3).toInt8.toInt32) hx hb d_TX_put_57 rfl ?_
  refine va_bast hx hb hK hP hD hS 1 0 rfl rfl (show ¬ ((0 : Int32) < 0 ∨ 300 ≤ (0 : Int32).toNatClampNeg) from by decide) d_TX_put_58 (fun H3 locs hP hD hS => ?_)
  have hP : va_P (dC, dI) cls [(h0, .inr (1, [.ref t0, .int 0])), (t0, .inl (cT, 300, .inl (upd (fun _ => (0 : Int32)) (0 : Int32).toNatClampNeg (vp_nar .byte (bc x 3).toInt8.toInt32))))] H3 := hP
  have hD : va_D A [(h0, .inr (1, [.ref t0, .int 0])), (t0, .inl (cT, 300, .inl (upd (fun _ => (0 : Int32)) (0 : Int32).toNatClampNeg (vp_nar .byte (bc x 3).toInt8.toInt32))))] := hD
  refine lv_aload_n hx hb d_TX_put_59 rfl (lv_at hl 1 rfl) ?_
  refine lv_dup hx hb d_TX_put_60 rfl ?_
  refine va_get (D := (dC, dI)) (ci := 1) (v := .int 0) (C := R_TX) (T := T_TX) (N := 2) hx hb hts in_TX hown hK hP 0 rfl rfl 1 (by decide) (hts _ k_37) (fun _ h9 => h9) rfl d_TX_put_61 ?_
  refine lv_iconst (v := 1) hx hb d_TX_put_64 (by decide) ?_
  refine lv_iadd hx hb d_TX_put_65 ?_
  refine W.eq (g2 := F0 m 66 ls [.int 1, .ref h0]) rfl ?_
  refine va_put (D := (dC, dI)) (ci := 1) (v := .int 1) (ty := .int) (C := R_TX) (T := T_TX) (N := 2) hx hb hts in_TX t_TX t_TX_ok n_TX hown hK hP hD hS 0 rfl rfl 1 (by decide) (hts _ k_37) (fun _ h9 => h9) rfl (by decide +kernel) rfl rfl (Nat.le_of_ble_eq_true rfl) d_TX_put_66 (fun H4 locs hP hD hS => ?_)
  have hP : va_P (dC, dI) cls [(h0, .inr (1, [.ref t0, .int 1])), (t0, .inl (cT, 300, .inl (upd (fun _ => (0 : Int32)) (0 : Int32).toNatClampNeg (vp_nar .byte (bc x 3).toInt8.toInt32))))] H4 := hP
  have hD : va_D A [(h0, .inr (1, [.ref t0, .int 1])), (t0, .inl (cT, 300, .inl (upd (fun _ => (0 : Int32)) (0 : Int32).toNatClampNeg (vp_nar .byte (bc x 3).toInt8.toInt32))))] := hD
  refine lv_iinc (k := 0) (v := 2) hx hb d_TX_put_69 hl rfl (by decide) (by decide) rfl (fun ls hl => ?_)
  have hl : lv_has ls 5 [(4, .int 2), (0, .ref h0), (1, .long x), (3, .int 4)] := hl
  refine lv_goto (tgt := 38) hx hb d_TX_put_72 (by decide) ?_
  refine lv_iload hx hb d_TX_put_38 (lv_at hl 0 rfl) ?_
  refine lv_if_lt (tgt := 75) hx hb d_TX_put_40 (by decide) (fun h9 => absurd h9 (by decide)) (fun _ => ?_)
  refine lv_aload_n hx hb d_TX_put_43 rfl (lv_at hl 1 rfl) ?_
  refine va_get (D := (dC, dI)) (ci := 1) (v := .ref t0) (C := R_TX) (T := T_TX) (N := 2) hx hb hts in_TX hown hK hP 0 rfl rfl 0 (by decide) (hts _ k_36) (fun _ h9 => h9) rfl d_TX_put_44 ?_
  refine lv_aload_n hx hb d_TX_put_47 rfl (lv_at hl 1 rfl) ?_
  refine va_get (D := (dC, dI)) (ci := 1) (v := .int 1) (C := R_TX) (T := T_TX) (N := 2) hx hb hts in_TX hown hK hP 0 rfl rfl 1 (by decide) (hts _ k_37) (fun _ h9 => h9) rfl d_TX_put_48 ?_
  refine lv_lload_n hx hb d_TX_put_51 rfl (lv_at hl 2 rfl) ?_
  refine lv_iload hx hb d_TX_put_52 (lv_at hl 0 rfl) ?_
  refine va_calli (va_runS (As := [.long x, .int 2]) (rest := [.int 1, .ref t0]) ⟨hx, hb, hml, hown, hts⟩ (c_TX_byteOf l dC dI (x) (2)) (wd_S 2 hts k_351 k_2 k_349 k_350 rfl rfl (by decide +kernel) ⟨Nat.le_of_ble_eq_true rfl, Nat.le_of_ble_eq_true rfl⟩) ⟨fun a U g mk q => by obtain ⟨q0, qP, qK, qN⟩ := q; exact ⟨q0, qP, va_K.moved (u := U) (U := U.calling g mk a) (Vm.Alike.refl U.vm) qK, nw_ok.same (s := U) (U := U.calling g mk a) rfl qN⟩, fun U hU hW => ⟨rfl, by rw [hU]; exact hP.sub (ws' := []) [] rfl, va_K.moved hW.alike (hK.sub (tys' := []) [] rfl), nw_ok.warm hW hN⟩⟩ rfl rfl hl.1 rfl (lv_room (Nat.le_of_ble_eq_true rfl)) d_TX_put_54 ⟨Nat.le_of_ble_eq_true rfl, Nat.le_of_ble_eq_true rfl⟩) hS (fun q _ h => h.elim) (fun q h => h.elim) (fun r3 u t H5 locs ht hvm hr3 hB hz1 hk1 hS => ?_)
  try dsimp only at hr3
  subst hr3
  have hP : va_P (dC, dI) cls [(h0, .inr (1, [.ref t0, .int 1])), (t0, .inl (cT, 300, .inl (upd (fun _ => (0 : Int32)) (0 : Int32).toNatClampNeg (vp_nar .byte (bc x 3).toInt8.toInt32))))] H5 := hP.kept (fun k q hq => hk1 q.1 (hP k q hq).lt id)
  have hP : va_P (dC, dI) cls [(h0, .inr (1, [.ref t0, .int 1])), (t0, .inl (cT, 300, .inl (upd (fun _ => (0 : Int32)) (0 : Int32).toNatClampNeg (vp_nar .byte (bc x 3).toInt8.toInt32))))] H5 := hP
  have hD : va_D A [(h0, .inr (1, [.ref t0, .int 1])), (t0, .inl (cT, 300, .inl (upd (fun _ => (0 : Int32)) (0 : Int32).toNatClampNeg (vp_nar .byte (bc x 3).toInt8.toInt32))))] := hD
  refine lv_i2b (v := (bc x 2).toInt8.toInt32) hx hb d_TX_put_57 rfl ?_
  refine va_bast hx hb hK hP hD hS 1 0 rfl rfl (show ¬ ((1 : Int32) < 0 ∨ 300 ≤ (1 : Int32).toNatClampNeg) from by decide) d_TX_put_58 (fun H6 locs hP hD hS => ?_)
  have hP : va_P (dC, dI) cls [(h0, .inr (1, [.ref t0, .int 1])), (t0, .inl (cT, 300, .inl (upd (upd (fun _ => (0 : Int32)) (0 : Int32).toNatClampNeg (vp_nar .byte (bc x 3).toInt8.toInt32)) (1 : Int32).toNatClampNeg (vp_nar .byte (bc x 2).toInt8.toInt32))))] H6 := hP
  have hD : va_D A [(h0, .inr (1, [.ref t0, .int 1])), (t0, .inl (cT, 300, .inl (upd (upd (fun _ => (0 : Int32)) (0 : Int32).toNatClampNeg (vp_nar .byte (bc x 3).toInt8.toInt32)) (1 : Int32).toNatClampNeg (vp_nar .byte (bc x 2).toInt8.toInt32))))] := hD
  refine lv_aload_n hx hb d_TX_put_59 rfl (lv_at hl 1 rfl) ?_
  refine lv_dup hx hb d_TX_put_60 rfl ?_
  refine va_get (D := (dC, dI)) (ci := 1) (v := .int 1) (C := R_TX) (T := T_TX) (N := 2) hx hb hts in_TX hown hK hP 0 rfl rfl 1 (by decide) (hts _ k_37) (fun _ h9 => h9) rfl d_TX_put_61 ?_
  refine lv_iconst (v := 1) hx hb d_TX_put_64 (by decide) ?_
  refine lv_iadd hx hb d_TX_put_65 ?_
  refine W.eq (g2 := F0 m 66 ls [.int 2, .ref h0]) rfl ?_
  refine va_put (D := (dC, dI)) (ci := 1) (v := .int 2) (ty := .int) (C := R_TX) (T := T_TX) (N := 2) hx hb hts in_TX t_TX t_TX_ok n_TX hown hK hP hD hS 0 rfl rfl 1 (by decide) (hts _ k_37) (fun _ h9 => h9) rfl (by decide +kernel) rfl rfl (Nat.le_of_ble_eq_true rfl) d_TX_put_66 (fun H7 locs hP hD hS => ?_)
  have hP : va_P (dC, dI) cls [(h0, .inr (1, [.ref t0, .int 2])), (t0, .inl (cT, 300, .inl (upd (upd (fun _ => (0 : Int32)) (0 : Int32).toNatClampNeg (vp_nar .byte (bc x 3).toInt8.toInt32)) (1 : Int32).toNatClampNeg (vp_nar .byte (bc x 2).toInt8.toInt32))))] H7 := hP
  have hD : va_D A [(h0, .inr (1, [.ref t0, .int 2])), (t0, .inl (cT, 300, .inl (upd (upd (fun _ => (0 : Int32)) (0 : Int32).toNatClampNeg (vp_nar .byte (bc x 3).toInt8.toInt32)) (1 : Int32).toNatClampNeg (vp_nar .byte (bc x 2).toInt8.toInt32))))] := hD
  refine lv_iinc (k := 0) (v := 1) hx hb d_TX_put_69 hl rfl (by decide) (by decide) rfl (fun ls hl => ?_)
  have hl : lv_has ls 5 [(4, .int 1), (0, .ref h0), (1, .long x), (3, .int 4)] := hl
  refine lv_goto (tgt := 38) hx hb d_TX_put_72 (by decide) ?_
  refine lv_iload hx hb d_TX_put_38 (lv_at hl 0 rfl) ?_
  refine lv_if_lt (tgt := 75) hx hb d_TX_put_40 (by decide) (fun h9 => absurd h9 (by decide)) (fun _ => ?_)
  refine lv_aload_n hx hb d_TX_put_43 rfl (lv_at hl 1 rfl) ?_
  refine va_get (D := (dC, dI)) (ci := 1) (v := .ref t0) (C := R_TX) (T := T_TX) (N := 2) hx hb hts in_TX hown hK hP 0 rfl rfl 0 (by decide) (hts _ k_36) (fun _ h9 => h9) rfl d_TX_put_44 ?_
  refine lv_aload_n hx hb d_TX_put_47 rfl (lv_at hl 1 rfl) ?_
  refine va_get (D := (dC, dI)) (ci := 1) (v := .int 2) (C := R_TX) (T := T_TX) (N := 2) hx hb hts in_TX hown hK hP 0 rfl rfl 1 (by decide) (hts _ k_37) (fun _ h9 => h9) rfl d_TX_put_48 ?_
  refine lv_lload_n hx hb d_TX_put_51 rfl (lv_at hl 2 rfl) ?_
  refine lv_iload hx hb d_TX_put_52 (lv_at hl 0 rfl) ?_
  refine va_calli (va_runS (As := [.long x, .int 1]) (rest := [.int 2, .ref t0]) ⟨hx, hb, hml, hown, hts⟩ (c_TX_byteOf l dC dI (x) (1)) (wd_S 2 hts k_351 k_2 k_349 k_350 rfl rfl (by decide +kernel) ⟨Nat.le_of_ble_eq_true rfl, Nat.le_of_ble_eq_true rfl⟩) ⟨fun a U g mk q => by obtain ⟨q0, qP, qK, qN⟩ := q; exact ⟨q0, qP, va_K.moved (u := U) (U := U.calling g mk a) (Vm.Alike.refl U.vm) qK, nw_ok.same (s := U) (U := U.calling g mk a) rfl qN⟩, fun U hU hW => ⟨rfl, by rw [hU]; exact hP.sub (ws' := []) [] rfl, va_K.moved hW.alike (hK.sub (tys' := []) [] rfl), nw_ok.warm hW hN⟩⟩ rfl rfl hl.1 rfl (lv_room (Nat.le_of_ble_eq_true rfl)) d_TX_put_54 ⟨Nat.le_of_ble_eq_true rfl, Nat.le_of_ble_eq_true rfl⟩) hS (fun q _ h => h.elim) (fun q h => h.elim) (fun r4 u t H8 locs ht hvm hr4 hB hz1 hk1 hS => ?_)
  try dsimp only at hr4
  subst hr4
  have hP : va_P (dC, dI) cls [(h0, .inr (1, [.ref t0, .int 2])), (t0, .inl (cT, 300, .inl (upd (upd (fun _ => (0 : Int32)) (0 : Int32).toNatClampNeg (vp_nar .byte (bc x 3).toInt8.toInt32)) (1 : Int32).toNatClampNeg (vp_nar .byte (bc x 2).toInt8.toInt32))))] H8 := hP.kept (fun k q hq => hk1 q.1 (hP k q hq).lt id)
  have hP : va_P (dC, dI) cls [(h0, .inr (1, [.ref t0, .int 2])), (t0, .inl (cT, 300, .inl (upd (upd (fun _ => (0 : Int32)) (0 : Int32).toNatClampNeg (vp_nar .byte (bc x 3).toInt8.toInt32)) (1 : Int32).toNatClampNeg (vp_nar .byte (bc x 2).toInt8.toInt32))))] H8 := hP
  have hD : va_D A [(h0, .inr (1, [.ref t0, .int 2])), (t0, .inl (cT, 300, .inl (upd (upd (fun _ => (0 : Int32)) (0 : Int32).toNatClampNeg (vp_nar .byte (bc x 3).toInt8.toInt32)) (1 : Int32).toNatClampNeg (vp_nar .byte (bc x 2).toInt8.toInt32))))] := hD
  refine lv_i2b (v := (bc x 1).toInt8.toInt32) hx hb d_TX_put_57 rfl ?_
  refine va_bast hx hb hK hP hD hS 1 0 rfl rfl (show ¬ ((2 : Int32) < 0 ∨ 300 ≤ (2 : Int32).toNatClampNeg) from by decide) d_TX_put_58 (fun H9 locs hP hD hS => ?_)
  have hP : va_P (dC, dI) cls [(h0, .inr (1, [.ref t0, .int 2])), (t0, .inl (cT, 300, .inl (upd (upd (upd (fun _ => (0 : Int32)) (0 : Int32).toNatClampNeg (vp_nar .byte (bc x 3).toInt8.toInt32)) (1 : Int32).toNatClampNeg (vp_nar .byte (bc x 2).toInt8.toInt32)) (2 : Int32).toNatClampNeg (vp_nar .byte (bc x 1).toInt8.toInt32))))] H9 := hP
  have hD : va_D A [(h0, .inr (1, [.ref t0, .int 2])), (t0, .inl (cT, 300, .inl (upd (upd (upd (fun _ => (0 : Int32)) (0 : Int32).toNatClampNeg (vp_nar .byte (bc x 3).toInt8.toInt32)) (1 : Int32).toNatClampNeg (vp_nar .byte (bc x 2).toInt8.toInt32)) (2 : Int32).toNatClampNeg (vp_nar .byte (bc x 1).toInt8.toInt32))))] := hD
  refine lv_aload_n hx hb d_TX_put_59 rfl (lv_at hl 1 rfl) ?_
  refine lv_dup hx hb d_TX_put_60 rfl ?_
  refine va_get (D := (dC, dI)) (ci := 1) (v := .int 2) (C := R_TX) (T := T_TX) (N := 2) hx hb hts in_TX hown hK hP 0 rfl rfl 1 (by decide) (hts _ k_37) (fun _ h9 => h9) rfl d_TX_put_61 ?_
  refine lv_iconst (v := 1) hx hb d_TX_put_64 (by decide) ?_
  refine lv_iadd hx hb d_TX_put_65 ?_
  refine W.eq (g2 := F0 m 66 ls [.int 3, .ref h0]) rfl ?_
  refine va_put (D := (dC, dI)) (ci := 1) (v := .int 3) (ty := .int) (C := R_TX) (T := T_TX) (N := 2) hx hb hts in_TX t_TX t_TX_ok n_TX hown hK hP hD hS 0 rfl rfl 1 (by decide) (hts _ k_37) (fun _ h9 => h9) rfl (by decide +kernel) rfl rfl (Nat.le_of_ble_eq_true rfl) d_TX_put_66 (fun H10 locs hP hD hS => ?_)
  have hP : va_P (dC, dI) cls [(h0, .inr (1, [.ref t0, .int 3])), (t0, .inl (cT, 300, .inl (upd (upd (upd (fun _ => (0 : Int32)) (0 : Int32).toNatClampNeg (vp_nar .byte (bc x 3).toInt8.toInt32)) (1 : Int32).toNatClampNeg (vp_nar .byte (bc x 2).toInt8.toInt32)) (2 : Int32).toNatClampNeg (vp_nar .byte (bc x 1).toInt8.toInt32))))] H10 := hP
  have hD : va_D A [(h0, .inr (1, [.ref t0, .int 3])), (t0, .inl (cT, 300, .inl (upd (upd (upd (fun _ => (0 : Int32)) (0 : Int32).toNatClampNeg (vp_nar .byte (bc x 3).toInt8.toInt32)) (1 : Int32).toNatClampNeg (vp_nar .byte (bc x 2).toInt8.toInt32)) (2 : Int32).toNatClampNeg (vp_nar .byte (bc x 1).toInt8.toInt32))))] := hD
  refine lv_iinc (k := 0) (v := 0) hx hb d_TX_put_69 hl rfl (by decide) (by decide) rfl (fun ls hl => ?_)
  have hl : lv_has ls 5 [(4, .int 0), (0, .ref h0), (1, .long x), (3, .int 4)] := hl
  refine lv_goto (tgt := 38) hx hb d_TX_put_72 (by decide) ?_
  refine lv_iload hx hb d_TX_put_38 (lv_at hl 0 rfl) ?_
  refine lv_if_lt (tgt := 75) hx hb d_TX_put_40 (by decide) (fun h9 => absurd h9 (by decide)) (fun _ => ?_)
  refine lv_aload_n hx hb d_TX_put_43 rfl (lv_at hl 1 rfl) ?_
  refine va_get (D := (dC, dI)) (ci := 1) (v := .ref t0) (C := R_TX) (T := T_TX) (N := 2) hx hb hts in_TX hown hK hP 0 rfl rfl 0 (by decide) (hts _ k_36) (fun _ h9 => h9) rfl d_TX_put_44 ?_
  refine lv_aload_n hx hb d_TX_put_47 rfl (lv_at hl 1 rfl) ?_
  refine va_get (D := (dC, dI)) (ci := 1) (v := .int 3) (C := R_TX) (T := T_TX) (N := 2) hx hb hts in_TX hown hK hP 0 rfl rfl 1 (by decide) (hts _ k_37) (fun _ h9 => h9) rfl d_TX_put_48 ?_
  refine lv_lload_n hx hb d_TX_put_51 rfl (lv_at hl 2 rfl) ?_
  refine lv_iload hx hb d_TX_put_52 (lv_at hl 0 rfl) ?_
  refine va_calli (va_runS (As := [.long x, .int 0]) (rest := [.int 3, .ref t0]) ⟨hx, hb, hml, hown, hts⟩ (c_TX_byteOf l dC dI (x) (0)) (wd_S 2 hts k_351 k_2 k_349 k_350 rfl rfl (by decide +kernel) ⟨Nat.le_of_ble_eq_true rfl, Nat.le_of_ble_eq_true rfl⟩) ⟨fun a U g mk q => by obtain ⟨q0, qP, qK, qN⟩ := q; exact ⟨q0, qP, va_K.moved (u := U) (U := U.calling g mk a) (Vm.Alike.refl U.vm) qK, nw_ok.same (s := U) (U := U.calling g mk a) rfl qN⟩, fun U hU hW => ⟨rfl, by rw [hU]; exact hP.sub (ws' := []) [] rfl, va_K.moved hW.alike (hK.sub (tys' := []) [] rfl), nw_ok.warm hW hN⟩⟩ rfl rfl hl.1 rfl (lv_room (Nat.le_of_ble_eq_true rfl)) d_TX_put_54 ⟨Nat.le_of_ble_eq_true rfl, Nat.le_of_ble_eq_true rfl⟩) hS (fun q _ h => h.elim) (fun q h => h.elim) (fun r5 u t H11 locs ht hvm hr5 hB hz1 hk1 hS => ?_)
  try dsimp only at hr5
  subst hr5
  have hP : va_P (dC, dI) cls [(h0, .inr (1, [.ref t0, .int 3])), (t0, .inl (cT, 300, .inl (upd (upd (upd (fun _ => (0 : Int32)) (0 : Int32).toNatClampNeg (vp_nar .byte (bc x 3).toInt8.toInt32)) (1 : Int32).toNatClampNeg (vp_nar .byte (bc x 2).toInt8.toInt32)) (2 : Int32).toNatClampNeg (vp_nar .byte (bc x 1).toInt8.toInt32))))] H11 := hP.kept (fun k q hq => hk1 q.1 (hP k q hq).lt id)
  have hP : va_P (dC, dI) cls [(h0, .inr (1, [.ref t0, .int 3])), (t0, .inl (cT, 300, .inl (upd (upd (upd (fun _ => (0 : Int32)) (0 : Int32).toNatClampNeg (vp_nar .byte (bc x 3).toInt8.toInt32)) (1 : Int32).toNatClampNeg (vp_nar .byte (bc x 2).toInt8.toInt32)) (2 : Int32).toNatClampNeg (vp_nar .byte (bc x 1).toInt8.toInt32))))] H11 := hP
  have hD : va_D A [(h0, .inr (1, [.ref t0, .int 3])), (t0, .inl (cT, 300, .inl (upd (upd (upd (fun _ => (0 : Int32)) (0 : Int32).toNatClampNeg (vp_nar .byte (bc x 3).toInt8.toInt32)) (1 : Int32).toNatClampNeg (vp_nar .byte (bc x 2).toInt8.toInt32)) (2 : Int32).toNatClampNeg (vp_nar .byte (bc x 1).toInt8.toInt32))))] := hD
  refine lv_i2b (v := (bc x 0).toInt8.toInt32) hx hb d_TX_put_57 rfl ?_
  refine va_bast hx hb hK hP hD hS 1 0 rfl rfl (show ¬ ((3 : Int32) < 0 ∨ 300 ≤ (3 : Int32).toNatClampNeg) from by decide) d_TX_put_58 (fun H12 locs hP hD hS => ?_)
  have hP : va_P (dC, dI) cls [(h0, .inr (1, [.ref t0, .int 3])), (t0, .inl (cT, 300, .inl (upd (upd (upd (upd (fun _ => (0 : Int32)) (0 : Int32).toNatClampNeg (vp_nar .byte (bc x 3).toInt8.toInt32)) (1 : Int32).toNatClampNeg (vp_nar .byte (bc x 2).toInt8.toInt32)) (2 : Int32).toNatClampNeg (vp_nar .byte (bc x 1).toInt8.toInt32)) (3 : Int32).toNatClampNeg (vp_nar .byte (bc x 0).toInt8.toInt32))))] H12 := hP
  have hD : va_D A [(h0, .inr (1, [.ref t0, .int 3])), (t0, .inl (cT, 300, .inl (upd (upd (upd (upd (fun _ => (0 : Int32)) (0 : Int32).toNatClampNeg (vp_nar .byte (bc x 3).toInt8.toInt32)) (1 : Int32).toNatClampNeg (vp_nar .byte (bc x 2).toInt8.toInt32)) (2 : Int32).toNatClampNeg (vp_nar .byte (bc x 1).toInt8.toInt32)) (3 : Int32).toNatClampNeg (vp_nar .byte (bc x 0).toInt8.toInt32))))] := hD
  refine lv_aload_n hx hb d_TX_put_59 rfl (lv_at hl 1 rfl) ?_
  refine lv_dup hx hb d_TX_put_60 rfl ?_
  refine va_get (D := (dC, dI)) (ci := 1) (v := .int 3) (C := R_TX) (T := T_TX) (N := 2) hx hb hts in_TX hown hK hP 0 rfl rfl 1 (by decide) (hts _ k_37) (fun _ h9 => h9) rfl d_TX_put_61 ?_
  refine lv_iconst (v := 1) hx hb d_TX_put_64 (by decide) ?_
  refine lv_iadd hx hb d_TX_put_65 ?_
  refine W.eq (g2 := F0 m 66 ls [.int 4, .ref h0]) rfl ?_
  refine va_put (D := (dC, dI)) (ci := 1) (v := .int 4) (ty := .int) (C := R_TX) (T := T_TX) (N := 2) hx hb hts in_TX t_TX t_TX_ok n_TX hown hK hP hD hS 0 rfl rfl 1 (by decide) (hts _ k_37) (fun _ h9 => h9) rfl (by decide +kernel) rfl rfl (Nat.le_of_ble_eq_true rfl) d_TX_put_66 (fun H13 locs hP hD hS => ?_)
  have hP : va_P (dC, dI) cls [(h0, .inr (1, [.ref t0, .int 4])), (t0, .inl (cT, 300, .inl (upd (upd (upd (upd (fun _ => (0 : Int32)) (0 : Int32).toNatClampNeg (vp_nar .byte (bc x 3).toInt8.toInt32)) (1 : Int32).toNatClampNeg (vp_nar .byte (bc x 2).toInt8.toInt32)) (2 : Int32).toNatClampNeg (vp_nar .byte (bc x 1).toInt8.toInt32)) (3 : Int32).toNatClampNeg (vp_nar .byte (bc x 0).toInt8.toInt32))))] H13 := hP
  have hD : va_D A [(h0, .inr (1, [.ref t0, .int 4])), (t0, .inl (cT, 300, .inl (upd (upd (upd (upd (fun _ => (0 : Int32)) (0 : Int32).toNatClampNeg (vp_nar .byte (bc x 3).toInt8.toInt32)) (1 : Int32).toNatClampNeg (vp_nar .byte (bc x 2).toInt8.toInt32)) (2 : Int32).toNatClampNeg (vp_nar .byte (bc x 1).toInt8.toInt32)) (3 : Int32).toNatClampNeg (vp_nar .byte (bc x 0).toInt8.toInt32))))] := hD
  refine lv_iinc (k := 0) (v := (-1)) hx hb d_TX_put_69 hl rfl (by decide) (by decide) rfl (fun ls hl => ?_)
  have hl : lv_has ls 5 [(4, .int (-1)), (0, .ref h0), (1, .long x), (3, .int 4)] := hl
  refine lv_goto (tgt := 38) hx hb d_TX_put_72 (by decide) ?_
  refine lv_iload hx hb d_TX_put_38 (lv_at hl 0 rfl) ?_
  refine lv_if_lt (tgt := 75) hx hb d_TX_put_40 (by decide) (fun _ => ?_) (fun h9 => absurd (by decide) h9)
  refine lv_iconst (v := 1) hx hb d_TX_put_75 (by decide) ?_
  have hP9 := hP.sub (ws' := [(h0, .inr (1, [.ref t0, .int 4]))]) [0] rfl
  have hD9 := hD.sub (ws' := [(h0, .inr (1, [.ref t0, .int 4]))]) [0] (by decide) rfl
  have hK9 := hK.sub (tys' := [(cT, .byte)]) [0] rfl
  exact W.zret (v := 1) (ty := .boolean) hx hb hr (by decide +kernel) (fun t ht hW => ⟨⟨1, (), rfl, rfl, by rw [ht]; exact hP9, va_K.moved hW.alike hK9, hD9⟩, hS.F ht⟩) hS.2.2 d_TX_put_76

set_option maxHeartbeats 4000000 in
set_option maxRecDepth 100000 in
theorem c_TX_put_5n (l : Launch) (dC : Nat → ClassId) (dI : Nat → Nat → Nat) (h0 : Nat) (t0 : Nat) (x : Int64) (g : ¬ (ok x 0 ∧ ok x 8 ∧ ok x 16 ∧ ok x 24 ∧ ok x 32)) : Met l y_TX_put (Cond.code y_TX_put b_TX_put 5 (Option.some Jvm.ClassFile.FieldType.boolean) :: wd) { frames := 2, cells := 0, slots := 0, locals := 46 } (va_Pc [.ref h0, .long x, .int 5] (fun U => va_P (dC, dI) cls [(h0, .inr (1, [.ref t0, .int 0]))] U.heap ∧ va_K (dC, dI) cls [] U ∧ nw_ok U)) (va_Qi (fun r (_ : Unit) => r = 0) (fun _ _ => True) (fun _ => False)) 0 0 (fun _ => False) := by
  refine Met.ofW (cc := b_TX_put) (maxL := 5) (ret := (Option.some Jvm.ClassFile.FieldType.boolean)) (by decide) rfl ?_
  intro p e s m args below meth c s₁ B hml hv
  obtain ⟨rfl, hP, hK, hN⟩ := hv
  have hx := B.exec
  have hb := B.bytes
  have hr := B.returns
  have hlocks := B.notSynchronized
  have hts : ∀ w ∈ wd, w.before ([.ref h0, .long x, .int 5] : List Value).toArray s = true := fun w hw => atoms_spec (ws := (Cond.code y_TX_put b_TX_put 5 (Option.some Jvm.ClassFile.FieldType.boolean) :: wd)) B.pre w (List.mem_cons_of_mem _ hw)
  have hown : s.vm.findClass "LeastSolutions$Text" = some m.cls := findClass_of_methodNamed B.named
  have hS : va_S (fun _ => False) s.heap s.heap [] := va_S.rf
  have hl := lv_entry ([.ref h0, .long x, .int 5]) (n := 5) (Nat.le_of_ble_eq_true rfl)
  rw [lg_entry_eq]
  generalize (lg_sl ([.ref h0, .long x, .int 5]) ++ List.replicate (5 - (lg_sl ([.ref h0, .long x, .int 5])).length) Slot.unset).toArray = ls at hl ⊢
  have hl : lv_has ls 5 [(0, .ref h0), (1, .long x), (3, .int 5)] := hl
  refine lv_iload_n hx hb d_TX_put_0 rfl (lv_at hl 2 rfl) ?_
  refine lv_iconst (v := 1) hx hb d_TX_put_1 (by decide) ?_
  refine lv_icmp_lt (tgt := 31) hx hb d_TX_put_2 (by decide) (fun h9 => absurd h9 (by decide)) (fun _ => ?_)
  refine lv_iload_n hx hb d_TX_put_5 rfl (lv_at hl 2 rfl) ?_
  refine lv_bipush (v := 8) hx hb d_TX_put_6 (by decide) ?_
  refine lv_icmp_gt (tgt := 31) hx hb d_TX_put_8 (by decide) (fun h9 => absurd h9 (by decide)) (fun _ => ?_)
  refine lv_aload_n hx hb d_TX_put_11 rfl (lv_at hl 0 rfl) ?_
  refine va_get (D := (dC, dI)) (ci := 1) (v := .int 0) (C := R_TX) (T := T_TX) (N := 2) hx hb hts in_TX hown hK hP 0 rfl rfl 1 (by decide) (hts _ k_37) (fun _ h9 => h9) rfl d_TX_put_12 ?_
  refine lv_iload_n hx hb d_TX_put_15 rfl (lv_at hl 2 rfl) ?_
  refine lv_iadd hx hb d_TX_put_16 ?_
  refine W.eq (g2 := F0 m 17 ls [.int 5]) rfl ?_
  refine lv_sipush (v := 300) hx hb d_TX_put_17 (by decide) ?_
  refine lv_icmp_gt (tgt := 31) hx hb d_TX_put_20 (by decide) (fun h9 => absurd h9 (by decide)) (fun _ => ?_)
  refine lv_lload_n hx hb d_TX_put_23 rfl (lv_at hl 1 rfl) ?_
  refine lv_iload_n hx hb d_TX_put_24 rfl (lv_at hl 2 rfl) ?_
  refine pu_calli (va_runS (As := [.long x, .int 5]) (rest := []) ⟨hx, hb, hml, hown, hts⟩ (c_TX_areTypable_5n l dC dI (x) (g)) (wd_S 2 hts k_348 k_2 k_346 k_347 rfl rfl (by decide +kernel) ⟨Nat.le_of_ble_eq_true rfl, Nat.le_of_ble_eq_true rfl⟩) ⟨fun a U g mk q => by obtain ⟨q0, qP, qK, qN⟩ := q; exact ⟨q0, qP, va_K.moved (u := U) (U := U.calling g mk a) (Vm.Alike.refl U.vm) qK, nw_ok.same (s := U) (U := U.calling g mk a) rfl qN⟩, fun U hU hW => ⟨rfl, by rw [hU]; exact hP.sub (ws' := []) [] rfl, va_K.moved hW.alike (hK.sub (tys' := []) [] rfl), nw_ok.warm hW hN⟩⟩ rfl rfl hl.1 rfl (lv_room (Nat.le_of_ble_eq_true rfl)) d_TX_put_25 ⟨Nat.le_of_ble_eq_true rfl, Nat.le_of_ble_eq_true rfl⟩) (fun r1 hr1 => ?_)
  try dsimp only at hr1
  subst hr1
  refine lv_if_ne (tgt := 33) hx hb d_TX_put_28 (by decide) (fun h9 => absurd (by decide) h9) (fun _ => ?_)
  refine lv_iconst (v := 0) hx hb d_TX_put_31 (by decide) ?_
  exact W.zret (v := 0) (ty := .boolean) hx hb hr (by decide +kernel) (fun t ht hW => ⟨⟨0, (), rfl, rfl, trivial⟩, hS.F ht⟩) hS.2.2 d_TX_put_32

set_option maxHeartbeats 4000000 in
set_option maxRecDepth 100000 in
theorem c_TX_put_5y (l : Launch) (dC : Nat → ClassId) (dI : Nat → Nat → Nat) (h0 : Nat) (t0 : Nat) (cT : ClassId) (x : Int64) (sz : Nat) (g : ok x 0 ∧ ok x 8 ∧ ok x 16 ∧ ok x 24 ∧ ok x 32) : Met l y_TX_put (Cond.code y_TX_put b_TX_put 5 (Option.some Jvm.ClassFile.FieldType.boolean) :: wd) { frames := 2, cells := 0, slots := 0, locals := 46 } (va_Pc [.ref h0, .long x, .int 5] (fun U => U.heap.size = sz ∧ va_P (dC, dI) cls [(h0, .inr (1, [.ref t0, .int 0])), (t0, .inl (cT, 300, .inl (fun _ => (0 : Int32))))] U.heap ∧ va_K (dC, dI) cls [(cT, .byte)] U ∧ va_D (fun _ => True) [(h0, .inr (1, [.ref t0, .int 0])), (t0, .inl (cT, 300, .inl (fun _ => (0 : Int32))))] ∧ nw_ok U)) (va_Qi (fun r (_ : Unit) => r = 1) (fun (_ : Unit) t => va_P (dC, dI) cls [(h0, .inr (1, [.ref t0, .int 5]))] t.heap ∧ va_K (dC, dI) cls [(cT, .byte)] t ∧ va_D (va_A [(h0, .inr (1, [.ref t0, .int 0])), (t0, .inl (cT, 300, .inl (fun _ => (0 : Int32))))] sz) [(h0, .inr (1, [.ref t0, .int 5]))]) (va_A [(h0, .inr (1, [.ref t0, .int 0])), (t0, .inl (cT, 300, .inl (fun _ => (0 : Int32))))] sz)) 0 0 (va_A [(h0, .inr (1, [.ref t0, .int 0])), (t0, .inl (cT, 300, .inl (fun _ => (0 : Int32))))] sz) := by
  refine Met.ofW (cc := b_TX_put) (maxL := 5) (ret := (Option.some Jvm.ClassFile.FieldType.boolean)) (by decide) rfl ?_
  intro p e s m args below meth c s₁ B hml hv
  obtain ⟨rfl, hsz, hP, hK, hD0, hN⟩ := hv
  have hx := B.exec
  have hb := B.bytes
  have hr := B.returns
  have hlocks := B.notSynchronized
  have hts : ∀ w ∈ wd, w.before ([.ref h0, .long x, .int 5] : List Value).toArray s = true := fun w hw => atoms_spec (ws := (Cond.code y_TX_put b_TX_put 5 (Option.some Jvm.ClassFile.FieldType.boolean) :: wd)) B.pre w (List.mem_cons_of_mem _ hw)
  have hown : s.vm.findClass "LeastSolutions$Text" = some m.cls := findClass_of_methodNamed B.named
  subst hsz
  have hD := hD0.self (sz := s.heap.size)
  generalize hAe : va_A [(h0, .inr (1, [.ref t0, .int 0])), (t0, .inl (cT, 300, .inl (fun _ => (0 : Int32))))] s.heap.size = A at hD ⊢
  have hA : ∀ q : Nat, s.heap.size ≤ q → A q := fun q h => by rw [← hAe]; exact Or.inr h
  have hS : va_S A s.heap s.heap [] := va_S.rf
  have hl := lv_entry ([.ref h0, .long x, .int 5]) (n := 5) (Nat.le_of_ble_eq_true rfl)
  rw [lg_entry_eq]
  generalize (lg_sl ([.ref h0, .long x, .int 5]) ++ List.replicate (5 - (lg_sl ([.ref h0, .long x, .int 5])).length) Slot.unset).toArray = ls at hl ⊢
  have hl : lv_has ls 5 [(0, .ref h0), (1, .long x), (3, .int 5)] := hl
  refine lv_iload_n hx hb d_TX_put_0 rfl (lv_at hl 2 rfl) ?_
  refine lv_iconst (v := 1) hx hb d_TX_put_1 (by decide) ?_
  refine lv_icmp_lt (tgt := 31) hx hb d_TX_put_2 (by decide) (fun h9 => absurd h9 (by decide)) (fun _ => ?_)
  refine lv_iload_n hx hb d_TX_put_5 rfl (lv_at hl 2 rfl) ?_
  refine lv_bipush (v := 8) hx hb d_TX_put_6 (by decide) ?_
  refine lv_icmp_gt (tgt := 31) hx hb d_TX_put_8 (by decide) (fun h9 => absurd h9 (by decide)) (fun _ => ?_)
  refine lv_aload_n hx hb d_TX_put_11 rfl (lv_at hl 0 rfl) ?_
  refine va_get (D := (dC, dI)) (ci := 1) (v := .int 0) (C := R_TX) (T := T_TX) (N := 2) hx hb hts in_TX hown hK hP 0 rfl rfl 1 (by decide) (hts _ k_37) (fun _ h9 => h9) rfl d_TX_put_12 ?_
  refine lv_iload_n hx hb d_TX_put_15 rfl (lv_at hl 2 rfl) ?_
  refine lv_iadd hx hb d_TX_put_16 ?_
  refine W.eq (g2 := F0 m 17 ls [.int 5]) rfl ?_
  refine lv_sipush (v := 300) hx hb d_TX_put_17 (by decide) ?_
  refine lv_icmp_gt (tgt := 31) hx hb d_TX_put_20 (by decide) (fun h9 => absurd h9 (by decide)) (fun _ => ?_)
  refine lv_lload_n hx hb d_TX_put_23 rfl (lv_at hl 1 rfl) ?_
  refine lv_iload_n hx hb d_TX_put_24 rfl (lv_at hl 2 rfl) ?_
  refine va_calli (va_runS (As := [.long x, .int 5]) (rest := []) ⟨hx, hb, hml, hown, hts⟩ (c_TX_areTypable_5y l dC dI (x) (g)) (wd_S 2 hts k_348 k_2 k_346 k_347 rfl rfl (by decide +kernel) ⟨Nat.le_of_ble_eq_true rfl, Nat.le_of_ble_eq_true rfl⟩) ⟨fun a U g mk q => by obtain ⟨q0, qP, qK, qN⟩ := q; exact ⟨q0, qP, va_K.moved (u := U) (U := U.calling g mk a) (Vm.Alike.refl U.vm) qK, nw_ok.same (s := U) (U := U.calling g mk a) rfl qN⟩, fun U hU hW => ⟨rfl, by rw [hU]; exact hP.sub (ws' := []) [] rfl, va_K.moved hW.alike (hK.sub (tys' := []) [] rfl), nw_ok.warm hW hN⟩⟩ rfl rfl hl.1 rfl (lv_room (Nat.le_of_ble_eq_true rfl)) d_TX_put_25 ⟨Nat.le_of_ble_eq_true rfl, Nat.le_of_ble_eq_true rfl⟩) hS (fun q _ h => h.elim) (fun q h => h.elim) (fun r1 u t H1 locs ht hvm hr1 hB hz1 hk1 hS => ?_)
  try dsimp only at hr1
  subst hr1
  have hP : va_P (dC, dI) cls [(h0, .inr (1, [.ref t0, .int 0])), (t0, .inl (cT, 300, .inl (fun _ => (0 : Int32))))] H1 := hP.kept (fun k q hq => hk1 q.1 (hP k q hq).lt id)
  have hP : va_P (dC, dI) cls [(h0, .inr (1, [.ref t0, .int 0])), (t0, .inl (cT, 300, .inl (fun _ => (0 : Int32))))] H1 := hP
  have hD : va_D A [(h0, .inr (1, [.ref t0, .int 0])), (t0, .inl (cT, 300, .inl (fun _ => (0 : Int32))))] := hD
  refine lv_if_ne (tgt := 33) hx hb d_TX_put_28 (by decide) (fun _ => ?_) (fun h9 => absurd h9 (by decide))
  refine lv_iload_n hx hb d_TX_put_33 rfl (lv_at hl 2 rfl) ?_
  refine lv_iconst (v := 1) hx hb d_TX_put_34 (by decide) ?_
  refine lv_isub hx hb d_TX_put_35 ?_
  refine W.eq (g2 := F0 m 36 ls [.int 4]) rfl ?_
  refine lv_istore hx hb d_TX_put_36 hl (by decide) rfl (fun ls hl => ?_)
  have hl : lv_has ls 5 [(4, .int 4), (0, .ref h0), (1, .long x), (3, .int 5)] := hl
  refine lv_iload hx hb d_TX_put_38 (lv_at hl 0 rfl) ?_
  refine lv_if_lt (tgt := 75) hx hb d_TX_put_40 (by decide) (fun h9 => absurd h9 (by decide)) (fun _ => ?_)
  refine lv_aload_n hx hb d_TX_put_43 rfl (lv_at hl 1 rfl) ?_
  refine va_get (D := (dC, dI)) (ci := 1) (v := .ref t0) (C := R_TX) (T := T_TX) (N := 2) hx hb hts in_TX hown hK hP 0 rfl rfl 0 (by decide) (hts _ k_36) (fun _ h9 => h9) rfl d_TX_put_44 ?_
  refine lv_aload_n hx hb d_TX_put_47 rfl (lv_at hl 1 rfl) ?_
  refine va_get (D := (dC, dI)) (ci := 1) (v := .int 0) (C := R_TX) (T := T_TX) (N := 2) hx hb hts in_TX hown hK hP 0 rfl rfl 1 (by decide) (hts _ k_37) (fun _ h9 => h9) rfl d_TX_put_48 ?_
  refine lv_lload_n hx hb d_TX_put_51 rfl (lv_at hl 2 rfl) ?_
  refine lv_iload hx hb d_TX_put_52 (lv_at hl 0 rfl) ?_
  refine va_calli (va_runS (As := [.long x, .int 4]) (rest := [.int 0, .ref t0]) ⟨hx, hb, hml, hown, hts⟩ (c_TX_byteOf l dC dI (x) (4)) (wd_S 2 hts k_351 k_2 k_349 k_350 rfl rfl (by decide +kernel) ⟨Nat.le_of_ble_eq_true rfl, Nat.le_of_ble_eq_true rfl⟩) ⟨fun a U g mk q => by obtain ⟨q0, qP, qK, qN⟩ := q; exact ⟨q0, qP, va_K.moved (u := U) (U := U.calling g mk a) (Vm.Alike.refl U.vm) qK, nw_ok.same (s := U) (U := U.calling g mk a) rfl qN⟩, fun U hU hW => ⟨rfl, by rw [hU]; exact hP.sub (ws' := []) [] rfl, va_K.moved hW.alike (hK.sub (tys' := []) [] rfl), nw_ok.warm hW hN⟩⟩ rfl rfl hl.1 rfl (lv_room (Nat.le_of_ble_eq_true rfl)) d_TX_put_54 ⟨Nat.le_of_ble_eq_true rfl, Nat.le_of_ble_eq_true rfl⟩) hS (fun q _ h => h.elim) (fun q h => h.elim) (fun r2 u t H2 locs ht hvm hr2 hB hz1 hk1 hS => ?_)
  try dsimp only at hr2
  subst hr2
  have hP : va_P (dC, dI) cls [(h0, .inr (1, [.ref t0, .int 0])), (t0, .inl (cT, 300, .inl (fun _ => (0 : Int32))))] H2 := hP.kept (fun k q hq => hk1 q.1 (hP k q hq).lt id)
  have hP : va_P (dC, dI) cls [(h0, .inr (1, [.ref t0, .int 0])), (t0, .inl (cT, 300, .inl (fun _ => (0 : Int32))))] H2 := hP
  have hD : va_D A [(h0, .inr (1, [.ref t0, .int 0])), (t0, .inl (cT, 300, .inl (fun _ => (0 : Int32))))] := hD
  refine lv_i2b (v := (bc x 4).toInt8.toInt32) hx hb d_TX_put_57 rfl ?_
  refine va_bast hx hb hK hP hD hS 1 0 rfl rfl (show ¬ ((0 : Int32) < 0 ∨ 300 ≤ (0 : Int32).toNatClampNeg) from by decide) d_TX_put_58 (fun H3 locs hP hD hS => ?_)
  have hP : va_P (dC, dI) cls [(h0, .inr (1, [.ref t0, .int 0])), (t0, .inl (cT, 300, .inl (upd (fun _ => (0 : Int32)) (0 : Int32).toNatClampNeg (vp_nar .byte (bc x 4).toInt8.toInt32))))] H3 := hP
  have hD : va_D A [(h0, .inr (1, [.ref t0, .int 0])), (t0, .inl (cT, 300, .inl (upd (fun _ => (0 : Int32)) (0 : Int32).toNatClampNeg (vp_nar .byte (bc x 4).toInt8.toInt32))))] := hD
  refine lv_aload_n hx hb d_TX_put_59 rfl (lv_at hl 1 rfl) ?_
  refine lv_dup hx hb d_TX_put_60 rfl ?_
  refine va_get (D := (dC, dI)) (ci := 1) (v := .int 0) (C := R_TX) (T := T_TX) (N := 2) hx hb hts in_TX hown hK hP 0 rfl rfl 1 (by decide) (hts _ k_37) (fun _ h9 => h9) rfl d_TX_put_61 ?_
  refine lv_iconst (v := 1) hx hb d_TX_put_64 (by decide) ?_
  refine lv_iadd hx hb d_TX_put_65 ?_
  refine W.eq (g2 := F0 m 66 ls [.int 1, .ref h0]) rfl ?_
  refine va_put (D := (dC, dI)) (ci := 1) (v := .int 1) (ty := .int) (C := R_TX) (T := T_TX) (N := 2) hx hb hts in_TX t_TX t_TX_ok n_TX hown hK hP hD hS 0 rfl rfl 1 (by decide) (hts _ k_37) (fun _ h9 => h9) rfl (by decide +kernel) rfl rfl (Nat.le_of_ble_eq_true rfl) d_TX_put_66 (fun H4 locs hP hD hS => ?_)
  have hP : va_P (dC, dI) cls [(h0, .inr (1, [.ref t0, .int 1])), (t0, .inl (cT, 300, .inl (upd (fun _ => (0 : Int32)) (0 : Int32).toNatClampNeg (vp_nar .byte (bc x 4).toInt8.toInt32))))] H4 := hP
  have hD : va_D A [(h0, .inr (1, [.ref t0, .int 1])), (t0, .inl (cT, 300, .inl (upd (fun _ => (0 : Int32)) (0 : Int32).toNatClampNeg (vp_nar .byte (bc x 4).toInt8.toInt32))))] := hD
  refine lv_iinc (k := 0) (v := 3) hx hb d_TX_put_69 hl rfl (by decide) (by decide) rfl (fun ls hl => ?_)
  have hl : lv_has ls 5 [(4, .int 3), (0, .ref h0), (1, .long x), (3, .int 5)] := hl
  refine lv_goto (tgt := 38) hx hb d_TX_put_72 (by decide) ?_
  refine lv_iload hx hb d_TX_put_38 (lv_at hl 0 rfl) ?_
  refine lv_if_lt (tgt := 75) hx hb d_TX_put_40 (by decide) (fun h9 => absurd h9 (by decide)) (fun _ => ?_)
  refine lv_aload_n hx hb d_TX_put_43 rfl (lv_at hl 1 rfl) ?_
  refine va_get (D := (dC, dI)) (ci := 1) (v := .ref t0) (C := R_TX) (T := T_TX) (N := 2) hx hb hts in_TX hown hK hP 0 rfl rfl 0 (by decide) (hts _ k_36) (fun _ h9 => h9) rfl d_TX_put_44 ?_
  refine lv_aload_n hx hb d_TX_put_47 rfl (lv_at hl 1 rfl) ?_
  refine va_get (D := (dC, dI)) (ci := 1) (v := .int 1) (C := R_TX) (T := T_TX) (N := 2) hx hb hts in_TX hown hK hP 0 rfl rfl 1 (by decide) (hts _ k_37) (fun _ h9 => h9) rfl d_TX_put_48 ?_
  refine lv_lload_n hx hb d_TX_put_51 rfl (lv_at hl 2 rfl) ?_
  refine lv_iload hx hb d_TX_put_52 (lv_at hl 0 rfl) ?_
  refine va_calli (va_runS (As := [.long x, .int 3]) (rest := [.int 1, .ref t0]) ⟨hx, hb, hml, hown, hts⟩ (c_TX_byteOf l dC dI (x) (3)) (wd_S 2 hts k_351 k_2 k_349 k_350 rfl rfl (by decide +kernel) ⟨Nat.le_of_ble_eq_true rfl, Nat.le_of_ble_eq_true rfl⟩) ⟨fun a U g mk q => by obtain ⟨q0, qP, qK, qN⟩ := q; exact ⟨q0, qP, va_K.moved (u := U) (U := U.calling g mk a) (Vm.Alike.refl U.vm) qK, nw_ok.same (s := U) (U := U.calling g mk a) rfl qN⟩, fun U hU hW => ⟨rfl, by rw [hU]; exact hP.sub (ws' := []) [] rfl, va_K.moved hW.alike (hK.sub (tys' := []) [] rfl), nw_ok.warm hW hN⟩⟩ rfl rfl hl.1 rfl (lv_room (Nat.le_of_ble_eq_true rfl)) d_TX_put_54 ⟨Nat.le_of_ble_eq_true rfl, Nat.le_of_ble_eq_true rfl⟩) hS (fun q _ h => h.elim) (fun q h => h.elim) (fun r3 u t H5 locs ht hvm hr3 hB hz1 hk1 hS => ?_)
  try dsimp only at hr3
  subst hr3
  have hP : va_P (dC, dI) cls [(h0, .inr (1, [.ref t0, .int 1])), (t0, .inl (cT, 300, .inl (upd (fun _ => (0 : Int32)) (0 : Int32).toNatClampNeg (vp_nar .byte (bc x 4).toInt8.toInt32))))] H5 := hP.kept (fun k q hq => hk1 q.1 (hP k q hq).lt id)
  have hP : va_P (dC, dI) cls [(h0, .inr (1, [.ref t0, .int 1])), (t0, .inl (cT, 300, .inl (upd (fun _ => (0 : Int32)) (0 : Int32).toNatClampNeg (vp_nar .byte (bc x 4).toInt8.toInt32))))] H5 := hP
  have hD : va_D A [(h0, .inr (1, [.ref t0, .int 1])), (t0, .inl (cT, 300, .inl (upd (fun _ => (0 : Int32)) (0 : Int32).toNatClampNeg (vp_nar .byte (bc x 4).toInt8.toInt32))))] := hD
  refine lv_i2b (v := (bc x 3).toInt8.toInt32) hx hb d_TX_put_57 rfl ?_
  refine va_bast hx hb hK hP hD hS 1 0 rfl rfl (show ¬ ((1 : Int32) < 0 ∨ 300 ≤ (1 : Int32).toNatClampNeg) from by decide) d_TX_put_58 (fun H6 locs hP hD hS => ?_)
  have hP : va_P (dC, dI) cls [(h0, .inr (1, [.ref t0, .int 1])), (t0, .inl (cT, 300, .inl (upd (upd (fun _ => (0 : Int32)) (0 : Int32).toNatClampNeg (vp_nar .byte (bc x 4).toInt8.toInt32)) (1 : Int32).toNatClampNeg (vp_nar .byte (bc x 3).toInt8.toInt32))))] H6 := hP
  have hD : va_D A [(h0, .inr (1, [.ref t0, .int 1])), (t0, .inl (cT, 300, .inl (upd (upd (fun _ => (0 : Int32)) (0 : Int32).toNatClampNeg (vp_nar .byte (bc x 4).toInt8.toInt32)) (1 : Int32).toNatClampNeg (vp_nar .byte (bc x 3).toInt8.toInt32))))] := hD
  refine lv_aload_n hx hb d_TX_put_59 rfl (lv_at hl 1 rfl) ?_
  refine lv_dup hx hb d_TX_put_60 rfl ?_
  refine va_get (D := (dC, dI)) (ci := 1) (v := .int 1) (C := R_TX) (T := T_TX) (N := 2) hx hb hts in_TX hown hK hP 0 rfl rfl 1 (by decide) (hts _ k_37) (fun _ h9 => h9) rfl d_TX_put_61 ?_
  refine lv_iconst (v := 1) hx hb d_TX_put_64 (by decide) ?_
  refine lv_iadd hx hb d_TX_put_65 ?_
  refine W.eq (g2 := F0 m 66 ls [.int 2, .ref h0]) rfl ?_
  refine va_put (D := (dC, dI)) (ci := 1) (v := .int 2) (ty := .int) (C := R_TX) (T := T_TX) (N := 2) hx hb hts in_TX t_TX t_TX_ok n_TX hown hK hP hD hS 0 rfl rfl 1 (by decide) (hts _ k_37) (fun _ h9 => h9) rfl (by decide +kernel) rfl rfl (Nat.le_of_ble_eq_true rfl) d_TX_put_66 (fun H7 locs hP hD hS => ?_)
  have hP : va_P (dC, dI) cls [(h0, .inr (1, [.ref t0, .int 2])), (t0, .inl (cT, 300, .inl (upd (upd (fun _ => (0 : Int32)) (0 : Int32).toNatClampNeg (vp_nar .byte (bc x 4).toInt8.toInt32)) (1 : Int32).toNatClampNeg (vp_nar .byte (bc x 3).toInt8.toInt32))))] H7 := hP
  have hD : va_D A [(h0, .inr (1, [.ref t0, .int 2])), (t0, .inl (cT, 300, .inl (upd (upd (fun _ => (0 : Int32)) (0 : Int32).toNatClampNeg (vp_nar .byte (bc x 4).toInt8.toInt32)) (1 : Int32).toNatClampNeg (vp_nar .byte (bc x 3).toInt8.toInt32))))] := hD
  refine lv_iinc (k := 0) (v := 2) hx hb d_TX_put_69 hl rfl (by decide) (by decide) rfl (fun ls hl => ?_)
  have hl : lv_has ls 5 [(4, .int 2), (0, .ref h0), (1, .long x), (3, .int 5)] := hl
  refine lv_goto (tgt := 38) hx hb d_TX_put_72 (by decide) ?_
  refine lv_iload hx hb d_TX_put_38 (lv_at hl 0 rfl) ?_
  refine lv_if_lt (tgt := 75) hx hb d_TX_put_40 (by decide) (fun h9 => absurd h9 (by decide)) (fun _ => ?_)
  refine lv_aload_n hx hb d_TX_put_43 rfl (lv_at hl 1 rfl) ?_
  refine va_get (D := (dC, dI)) (ci := 1) (v := .ref t0) (C := R_TX) (T := T_TX) (N := 2) hx hb hts in_TX hown hK hP 0 rfl rfl 0 (by decide) (hts _ k_36) (fun _ h9 => h9) rfl d_TX_put_44 ?_
  refine lv_aload_n hx hb d_TX_put_47 rfl (lv_at hl 1 rfl) ?_
  refine va_get (D := (dC, dI)) (ci := 1) (v := .int 2) (C := R_TX) (T := T_TX) (N := 2) hx hb hts in_TX hown hK hP 0 rfl rfl 1 (by decide) (hts _ k_37) (fun _ h9 => h9) rfl d_TX_put_48 ?_
  refine lv_lload_n hx hb d_TX_put_51 rfl (lv_at hl 2 rfl) ?_
  refine lv_iload hx hb d_TX_put_52 (lv_at hl 0 rfl) ?_
  refine va_calli (va_runS (As := [.long x, .int 2]) (rest := [.int 2, .ref t0]) ⟨hx, hb, hml, hown, hts⟩ (c_TX_byteOf l dC dI (x) (2)) (wd_S 2 hts k_351 k_2 k_349 k_350 rfl rfl (by decide +kernel) ⟨Nat.le_of_ble_eq_true rfl, Nat.le_of_ble_eq_true rfl⟩) ⟨fun a U g mk q => by obtain ⟨q0, qP, qK, qN⟩ := q; exact ⟨q0, qP, va_K.moved (u := U) (U := U.calling g mk a) (Vm.Alike.refl U.vm) qK, nw_ok.same (s := U) (U := U.calling g mk a) rfl qN⟩, fun U hU hW => ⟨rfl, by rw [hU]; exact hP.sub (ws' := []) [] rfl, va_K.moved hW.alike (hK.sub (tys' := []) [] rfl), nw_ok.warm hW hN⟩⟩ rfl rfl hl.1 rfl (lv_room (Nat.le_of_ble_eq_true rfl)) d_TX_put_54 ⟨Nat.le_of_ble_eq_true rfl, Nat.le_of_ble_eq_true rfl⟩) hS (fun q _ h => h.elim) (fun q h => h.elim) (fun r4 u t H8 locs ht hvm hr4 hB hz1 hk1 hS => ?_)
  try dsimp only at hr4
  subst hr4
  have hP : va_P (dC, dI) cls [(h0, .inr (1, [.ref t0, .int 2])), (t0, .inl (cT, 300, .inl (upd (upd (fun _ => (0 : Int32)) (0 : Int32).toNatClampNeg (vp_nar .byte (bc x 4).toInt8.toInt32)) (1 : Int32).toNatClampNeg (vp_nar .byte (bc x 3).toInt8.toInt32))))] H8 := hP.kept (fun k q hq => hk1 q.1 (hP k q hq).lt id)
  have hP : va_P (dC, dI) cls [(h0, .inr (1, [.ref t0, .int 2])), (t0, .inl (cT, 300, .inl (upd (upd (fun _ => (0 : Int32)) (0 : Int32).toNatClampNeg (vp_nar .byte (bc x 4).toInt8.toInt32)) (1 : Int32).toNatClampNeg (vp_nar .byte (bc x 3).toInt8.toInt32))))] H8 := hP
  have hD : va_D A [(h0, .inr (1, [.ref t0, .int 2])), (t0, .inl (cT, 300, .inl (upd (upd (fun _ => (0 : Int32)) (0 : Int32).toNatClampNeg (vp_nar .byte (bc x 4).toInt8.toInt32)) (1 : Int32).toNatClampNeg (vp_nar .byte (bc x 3).toInt8.toInt32))))] := hD
  refine lv_i2b (v := (bc x 2).toInt8.toInt32) hx hb d_TX_put_57 rfl ?_
  refine va_bast hx hb hK hP hD hS 1 0 rfl rfl (show ¬ ((2 : Int32) < 0 ∨ 300 ≤ (2 : Int32).toNatClampNeg) from by decide) d_TX_put_58 (fun H9 locs hP hD hS => ?_)
  have hP : va_P (dC, dI) cls [(h0, .inr (1, [.ref t0, .int 2])), (t0, .inl (cT, 300, .inl (upd (upd (upd (fun _ => (0 : Int32)) (0 : Int32).toNatClampNeg (vp_nar .byte (bc x 4).toInt8.toInt32)) (1 : Int32).toNatClampNeg (vp_nar .byte (bc x 3).toInt8.toInt32)) (2 : Int32).toNatClampNeg (vp_nar .byte (bc x 2).toInt8.toInt32))))] H9 := hP
  have hD : va_D A [(h0, .inr (1, [.ref t0, .int 2])), (t0, .inl (cT, 300, .inl (upd (upd (upd (fun _ => (0 : Int32)) (0 : Int32).toNatClampNeg (vp_nar .byte (bc x 4).toInt8.toInt32)) (1 : Int32).toNatClampNeg (vp_nar .byte (bc x 3).toInt8.toInt32)) (2 : Int32).toNatClampNeg (vp_nar .byte (bc x 2).toInt8.toInt32))))] := hD
  refine lv_aload_n hx hb d_TX_put_59 rfl (lv_at hl 1 rfl) ?_
  refine lv_dup hx hb d_TX_put_60 rfl ?_
  refine va_get (D := (dC, dI)) (ci := 1) (v := .int 2) (C := R_TX) (T := T_TX) (N := 2) hx hb hts in_TX hown hK hP 0 rfl rfl 1 (by decide) (hts _ k_37) (fun _ h9 => h9) rfl d_TX_put_61 ?_
  refine lv_iconst (v := 1) hx hb d_TX_put_64 (by decide) ?_
  refine lv_iadd hx hb d_TX_put_65 ?_
  refine W.eq (g2 := F0 m 66 ls [.int 3, .ref h0]) rfl ?_
  refine va_put (D := (dC, dI)) (ci := 1) (v := .int 3) (ty := .int) (C := R_TX) (T := T_TX) (N := 2) hx hb hts in_TX t_TX t_TX_ok n_TX hown hK hP hD hS 0 rfl rfl 1 (by decide) (hts _ k_37) (fun _ h9 => h9) rfl (by decide +kernel) rfl rfl (Nat.le_of_ble_eq_true rfl) d_TX_put_66 (fun H10 locs hP hD hS => ?_)
  have hP : va_P (dC, dI) cls [(h0, .inr (1, [.ref t0, .int 3])), (t0, .inl (cT, 300, .inl (upd (upd (upd (fun _ => (0 : Int32)) (0 : Int32).toNatClampNeg (vp_nar .byte (bc x 4).toInt8.toInt32)) (1 : Int32).toNatClampNeg (vp_nar .byte (bc x 3).toInt8.toInt32)) (2 : Int32).toNatClampNeg (vp_nar .byte (bc x 2).toInt8.toInt32))))] H10 := hP
  have hD : va_D A [(h0, .inr (1, [.ref t0, .int 3])), (t0, .inl (cT, 300, .inl (upd (upd (upd (fun _ => (0 : Int32)) (0 : Int32).toNatClampNeg (vp_nar .byte (bc x 4).toInt8.toInt32)) (1 : Int32).toNatClampNeg (vp_nar .byte (bc x 3).toInt8.toInt32)) (2 : Int32).toNatClampNeg (vp_nar .byte (bc x 2).toInt8.toInt32))))] := hD
  refine lv_iinc (k := 0) (v := 1) hx hb d_TX_put_69 hl rfl (by decide) (by decide) rfl (fun ls hl => ?_)
  have hl : lv_has ls 5 [(4, .int 1), (0, .ref h0), (1, .long x), (3, .int 5)] := hl
  refine lv_goto (tgt := 38) hx hb d_TX_put_72 (by decide) ?_
  refine lv_iload hx hb d_TX_put_38 (lv_at hl 0 rfl) ?_
  refine lv_if_lt (tgt := 75) hx hb d_TX_put_40 (by decide) (fun h9 => absurd h9 (by decide)) (fun _ => ?_)
  refine lv_aload_n hx hb d_TX_put_43 rfl (lv_at hl 1 rfl) ?_
  refine va_get (D := (dC, dI)) (ci := 1) (v := .ref t0) (C := R_TX) (T := T_TX) (N := 2) hx hb hts in_TX hown hK hP 0 rfl rfl 0 (by decide) (hts _ k_36) (fun _ h9 => h9) rfl d_TX_put_44 ?_
  refine lv_aload_n hx hb d_TX_put_47 rfl (lv_at hl 1 rfl) ?_
  refine va_get (D := (dC, dI)) (ci := 1) (v := .int 3) (C := R_TX) (T := T_TX) (N := 2) hx hb hts in_TX hown hK hP 0 rfl rfl 1 (by decide) (hts _ k_37) (fun _ h9 => h9) rfl d_TX_put_48 ?_
  refine lv_lload_n hx hb d_TX_put_51 rfl (lv_at hl 2 rfl) ?_
  refine lv_iload hx hb d_TX_put_52 (lv_at hl 0 rfl) ?_
  refine va_calli (va_runS (As := [.long x, .int 1]) (rest := [.int 3, .ref t0]) ⟨hx, hb, hml, hown, hts⟩ (c_TX_byteOf l dC dI (x) (1)) (wd_S 2 hts k_351 k_2 k_349 k_350 rfl rfl (by decide +kernel) ⟨Nat.le_of_ble_eq_true rfl, Nat.le_of_ble_eq_true rfl⟩) ⟨fun a U g mk q => by obtain ⟨q0, qP, qK, qN⟩ := q; exact ⟨q0, qP, va_K.moved (u := U) (U := U.calling g mk a) (Vm.Alike.refl U.vm) qK, nw_ok.same (s := U) (U := U.calling g mk a) rfl qN⟩, fun U hU hW => ⟨rfl, by rw [hU]; exact hP.sub (ws' := []) [] rfl, va_K.moved hW.alike (hK.sub (tys' := []) [] rfl), nw_ok.warm hW hN⟩⟩ rfl rfl hl.1 rfl (lv_room (Nat.le_of_ble_eq_true rfl)) d_TX_put_54 ⟨Nat.le_of_ble_eq_true rfl, Nat.le_of_ble_eq_true rfl⟩) hS (fun q _ h => h.elim) (fun q h => h.elim) (fun r5 u t H11 locs ht hvm hr5 hB hz1 hk1 hS => ?_)
  try dsimp only at hr5
  subst hr5
  have hP : va_P (dC, dI) cls [(h0, .inr (1, [.ref t0, .int 3])), (t0, .inl (cT, 300, .inl (upd (upd (upd (fun _ => (0 : Int32)) (0 : Int32).toNatClampNeg (vp_nar .byte (bc x 4).toInt8.toInt32)) (1 : Int32).toNatClampNeg (vp_nar .byte (bc x 3).toInt8.toInt32)) (2 : Int32).toNatClampNeg (vp_nar .byte (bc x 2).toInt8.toInt32))))] H11 := hP.kept (fun k q hq => hk1 q.1 (hP k q hq).lt id)
  have hP : va_P (dC, dI) cls [(h0, .inr (1, [.ref t0, .int 3])), (t0, .inl (cT, 300, .inl (upd (upd (upd (fun _ => (0 : Int32)) (0 : Int32).toNatClampNeg (vp_nar .byte (bc x 4).toInt8.toInt32)) (1 : Int32).toNatClampNeg (vp_nar .byte (bc x 3).toInt8.toInt32)) (2 : Int32).toNatClampNeg (vp_nar .byte (bc x 2).toInt8.toInt32))))] H11 := hP
  have hD : va_D A [(h0, .inr (1, [.ref t0, .int 3])), (t0, .inl (cT, 300, .inl (upd (upd (upd (fun _ => (0 : Int32)) (0 : Int32).toNatClampNeg (vp_nar .byte (bc x 4).toInt8.toInt32)) (1 : Int32).toNatClampNeg (vp_nar .byte (bc x 3).toInt8.toInt32)) (2 : Int32).toNatClampNeg (vp_nar .byte (bc x 2).toInt8.toInt32))))] := hD
  refine lv_i2b (v := (bc x 1).toInt8.toInt32) hx hb d_TX_put_57 rfl ?_
  refine va_bast hx hb hK hP hD hS 1 0 rfl rfl (show ¬ ((3 : Int32) < 0 ∨ 300 ≤ (3 : Int32).toNatClampNeg) from by decide) d_TX_put_58 (fun H12 locs hP hD hS => ?_)
  have hP : va_P (dC, dI) cls [(h0, .inr (1, [.ref t0, .int 3])), (t0, .inl (cT, 300, .inl (upd (upd (upd (upd (fun _ => (0 : Int32)) (0 : Int32).toNatClampNeg (vp_nar .byte (bc x 4).toInt8.toInt32)) (1 : Int32).toNatClampNeg (vp_nar .byte (bc x 3).toInt8.toInt32)) (2 : Int32).toNatClampNeg (vp_nar .byte (bc x 2).toInt8.toInt32)) (3 : Int32).toNatClampNeg (vp_nar .byte (bc x 1).toInt8.toInt32))))] H12 := hP
  have hD : va_D A [(h0, .inr (1, [.ref t0, .int 3])), (t0, .inl (cT, 300, .inl (upd (upd (upd (upd (fun _ => (0 : Int32)) (0 : Int32).toNatClampNeg (vp_nar .byte (bc x 4).toInt8.toInt32)) (1 : Int32).toNatClampNeg (vp_nar .byte (bc x 3).toInt8.toInt32)) (2 : Int32).toNatClampNeg (vp_nar .byte (bc x 2).toInt8.toInt32)) (3 : Int32).toNatClampNeg (vp_nar .byte (bc x 1).toInt8.toInt32))))] := hD
  refine lv_aload_n hx hb d_TX_put_59 rfl (lv_at hl 1 rfl) ?_
  refine lv_dup hx hb d_TX_put_60 rfl ?_
  refine va_get (D := (dC, dI)) (ci := 1) (v := .int 3) (C := R_TX) (T := T_TX) (N := 2) hx hb hts in_TX hown hK hP 0 rfl rfl 1 (by decide) (hts _ k_37) (fun _ h9 => h9) rfl d_TX_put_61 ?_
  refine lv_iconst (v := 1) hx hb d_TX_put_64 (by decide) ?_
  refine lv_iadd hx hb d_TX_put_65 ?_
  refine W.eq (g2 := F0 m 66 ls [.int 4, .ref h0]) rfl ?_
  refine va_put (D := (dC, dI)) (ci := 1) (v := .int 4) (ty := .int) (C := R_TX) (T := T_TX) (N := 2) hx hb hts in_TX t_TX t_TX_ok n_TX hown hK hP hD hS 0 rfl rfl 1 (by decide) (hts _ k_37) (fun _ h9 => h9) rfl (by decide +kernel) rfl rfl (Nat.le_of_ble_eq_true rfl) d_TX_put_66 (fun H13 locs hP hD hS => ?_)
  have hP : va_P (dC, dI) cls [(h0, .inr (1, [.ref t0, .int 4])), (t0, .inl (cT, 300, .inl (upd (upd (upd (upd (fun _ => (0 : Int32)) (0 : Int32).toNatClampNeg (vp_nar .byte (bc x 4).toInt8.toInt32)) (1 : Int32).toNatClampNeg (vp_nar .byte (bc x 3).toInt8.toInt32)) (2 : Int32).toNatClampNeg (vp_nar .byte (bc x 2).toInt8.toInt32)) (3 : Int32).toNatClampNeg (vp_nar .byte (bc x 1).toInt8.toInt32))))] H13 := hP
  have hD : va_D A [(h0, .inr (1, [.ref t0, .int 4])), (t0, .inl (cT, 300, .inl (upd (upd (upd (upd (fun _ => (0 : Int32)) (0 : Int32).toNatClampNeg (vp_nar .byte (bc x 4).toInt8.toInt32)) (1 : Int32).toNatClampNeg (vp_nar .byte (bc x 3).toInt8.toInt32)) (2 : Int32).toNatClampNeg (vp_nar .byte (bc x 2).toInt8.toInt32)) (3 : Int32).toNatClampNeg (vp_nar .byte (bc x 1).toInt8.toInt32))))] := hD
  refine lv_iinc (k := 0) (v := 0) hx hb d_TX_put_69 hl rfl (by decide) (by decide) rfl (fun ls hl => ?_)
  have hl : lv_has ls 5 [(4, .int 0), (0, .ref h0), (1, .long x), (3, .int 5)] := hl
  refine lv_goto (tgt := 38) hx hb d_TX_put_72 (by decide) ?_
  refine lv_iload hx hb d_TX_put_38 (lv_at hl 0 rfl) ?_
  refine lv_if_lt (tgt := 75) hx hb d_TX_put_40 (by decide) (fun h9 => absurd h9 (by decide)) (fun _ => ?_)
  refine lv_aload_n hx hb d_TX_put_43 rfl (lv_at hl 1 rfl) ?_
  refine va_get (D := (dC, dI)) (ci := 1) (v := .ref t0) (C := R_TX) (T := T_TX) (N := 2) hx hb hts in_TX hown hK hP 0 rfl rfl 0 (by decide) (hts _ k_36) (fun _ h9 => h9) rfl d_TX_put_44 ?_
  refine lv_aload_n hx hb d_TX_put_47 rfl (lv_at hl 1 rfl) ?_
  refine va_get (D := (dC, dI)) (ci := 1) (v := .int 4) (C := R_TX) (T := T_TX) (N := 2) hx hb hts in_TX hown hK hP 0 rfl rfl 1 (by decide) (hts _ k_37) (fun _ h9 => h9) rfl d_TX_put_48 ?_
  refine lv_lload_n hx hb d_TX_put_51 rfl (lv_at hl 2 rfl) ?_
  refine lv_iload hx hb d_TX_put_52 (lv_at hl 0 rfl) ?_
  refine va_calli (va_runS (As := [.long x, .int 0]) (rest := [.int 4, .ref t0]) ⟨hx, hb, hml, hown, hts⟩ (c_TX_byteOf l dC dI (x) (0)) (wd_S 2 hts k_351 k_2 k_349 k_350 rfl rfl (by decide +kernel) ⟨Nat.le_of_ble_eq_true rfl, Nat.le_of_ble_eq_true rfl⟩) ⟨fun a U g mk q => by obtain ⟨q0, qP, qK, qN⟩ := q; exact ⟨q0, qP, va_K.moved (u := U) (U := U.calling g mk a) (Vm.Alike.refl U.vm) qK, nw_ok.same (s := U) (U := U.calling g mk a) rfl qN⟩, fun U hU hW => ⟨rfl, by rw [hU]; exact hP.sub (ws' := []) [] rfl, va_K.moved hW.alike (hK.sub (tys' := []) [] rfl), nw_ok.warm hW hN⟩⟩ rfl rfl hl.1 rfl (lv_room (Nat.le_of_ble_eq_true rfl)) d_TX_put_54 ⟨Nat.le_of_ble_eq_true rfl, Nat.le_of_ble_eq_true rfl⟩) hS (fun q _ h => h.elim) (fun q h => h.elim) (fun r6 u t H14 locs ht hvm hr6 hB hz1 hk1 hS => ?_)
  try dsimp only at hr6
  subst hr6
  have hP : va_P (dC, dI) cls [(h0, .inr (1, [.ref t0, .int 4])), (t0, .inl (cT, 300, .inl (upd (upd (upd (upd (fun _ => (0 : Int32)) (0 : Int32).toNatClampNeg (vp_nar .byte (bc x 4).toInt8.toInt32)) (1 : Int32).toNatClampNeg (vp_nar .byte (bc x 3).toInt8.toInt32)) (2 : Int32).toNatClampNeg (vp_nar .byte (bc x 2).toInt8.toInt32)) (3 : Int32).toNatClampNeg (vp_nar .byte (bc x 1).toInt8.toInt32))))] H14 := hP.kept (fun k q hq => hk1 q.1 (hP k q hq).lt id)
  have hP : va_P (dC, dI) cls [(h0, .inr (1, [.ref t0, .int 4])), (t0, .inl (cT, 300, .inl (upd (upd (upd (upd (fun _ => (0 : Int32)) (0 : Int32).toNatClampNeg (vp_nar .byte (bc x 4).toInt8.toInt32)) (1 : Int32).toNatClampNeg (vp_nar .byte (bc x 3).toInt8.toInt32)) (2 : Int32).toNatClampNeg (vp_nar .byte (bc x 2).toInt8.toInt32)) (3 : Int32).toNatClampNeg (vp_nar .byte (bc x 1).toInt8.toInt32))))] H14 := hP
  have hD : va_D A [(h0, .inr (1, [.ref t0, .int 4])), (t0, .inl (cT, 300, .inl (upd (upd (upd (upd (fun _ => (0 : Int32)) (0 : Int32).toNatClampNeg (vp_nar .byte (bc x 4).toInt8.toInt32)) (1 : Int32).toNatClampNeg (vp_nar .byte (bc x 3).toInt8.toInt32)) (2 : Int32).toNatClampNeg (vp_nar .byte (bc x 2).toInt8.toInt32)) (3 : Int32).toNatClampNeg (vp_nar .byte (bc x 1).toInt8.toInt32))))] := hD
  refine lv_i2b (v := (bc x 0).toInt8.toInt32) hx hb d_TX_put_57 rfl ?_
  refine va_bast hx hb hK hP hD hS 1 0 rfl rfl (show ¬ ((4 : Int32) < 0 ∨ 300 ≤ (4 : Int32).toNatClampNeg) from by decide) d_TX_put_58 (fun H15 locs hP hD hS => ?_)
  have hP : va_P (dC, dI) cls [(h0, .inr (1, [.ref t0, .int 4])), (t0, .inl (cT, 300, .inl (upd (upd (upd (upd (upd (fun _ => (0 : Int32)) (0 : Int32).toNatClampNeg (vp_nar .byte (bc x 4).toInt8.toInt32)) (1 : Int32).toNatClampNeg (vp_nar .byte (bc x 3).toInt8.toInt32)) (2 : Int32).toNatClampNeg (vp_nar .byte (bc x 2).toInt8.toInt32)) (3 : Int32).toNatClampNeg (vp_nar .byte (bc x 1).toInt8.toInt32)) (4 : Int32).toNatClampNeg (vp_nar .byte (bc x 0).toInt8.toInt32))))] H15 := hP
  have hD : va_D A [(h0, .inr (1, [.ref t0, .int 4])), (t0, .inl (cT, 300, .inl (upd (upd (upd (upd (upd (fun _ => (0 : Int32)) (0 : Int32).toNatClampNeg (vp_nar .byte (bc x 4).toInt8.toInt32)) (1 : Int32).toNatClampNeg (vp_nar .byte (bc x 3).toInt8.toInt32)) (2 : Int32).toNatClampNeg (vp_nar .byte (bc x 2).toInt8.toInt32)) (3 : Int32).toNatClampNeg (vp_nar .byte (bc x 1).toInt8.toInt32)) (4 : Int32).toNatClampNeg (vp_nar .byte (bc x 0).toInt8.toInt32))))] := hD
  refine lv_aload_n hx hb d_TX_put_59 rfl (lv_at hl 1 rfl) ?_
  refine lv_dup hx hb d_TX_put_60 rfl ?_
  refine va_get (D := (dC, dI)) (ci := 1) (v := .int 4) (C := R_TX) (T := T_TX) (N := 2) hx hb hts in_TX hown hK hP 0 rfl rfl 1 (by decide) (hts _ k_37) (fun _ h9 => h9) rfl d_TX_put_61 ?_
  refine lv_iconst (v := 1) hx hb d_TX_put_64 (by decide) ?_
  refine lv_iadd hx hb d_TX_put_65 ?_
  refine W.eq (g2 := F0 m 66 ls [.int 5, .ref h0]) rfl ?_
  refine va_put (D := (dC, dI)) (ci := 1) (v := .int 5) (ty := .int) (C := R_TX) (T := T_TX) (N := 2) hx hb hts in_TX t_TX t_TX_ok n_TX hown hK hP hD hS 0 rfl rfl 1 (by decide) (hts _ k_37) (fun _ h9 => h9) rfl (by decide +kernel) rfl rfl (Nat.le_of_ble_eq_true rfl) d_TX_put_66 (fun H16 locs hP hD hS => ?_)
  have hP : va_P (dC, dI) cls [(h0, .inr (1, [.ref t0, .int 5])), (t0, .inl (cT, 300, .inl (upd (upd (upd (upd (upd (fun _ => (0 : Int32)) (0 : Int32).toNatClampNeg (vp_nar .byte (bc x 4).toInt8.toInt32)) (1 : Int32).toNatClampNeg (vp_nar .byte (bc x 3).toInt8.toInt32)) (2 : Int32).toNatClampNeg (vp_nar .byte (bc x 2).toInt8.toInt32)) (3 : Int32).toNatClampNeg (vp_nar .byte (bc x 1).toInt8.toInt32)) (4 : Int32).toNatClampNeg (vp_nar .byte (bc x 0).toInt8.toInt32))))] H16 := hP
  have hD : va_D A [(h0, .inr (1, [.ref t0, .int 5])), (t0, .inl (cT, 300, .inl (upd (upd (upd (upd (upd (fun _ => (0 : Int32)) (0 : Int32).toNatClampNeg (vp_nar .byte (bc x 4).toInt8.toInt32)) (1 : Int32).toNatClampNeg (vp_nar .byte (bc x 3).toInt8.toInt32)) (2 : Int32).toNatClampNeg (vp_nar .byte (bc x 2).toInt8.toInt32)) (3 : Int32).toNatClampNeg (vp_nar .byte (bc x 1).toInt8.toInt32)) (4 : Int32).toNatClampNeg (vp_nar .byte (bc x 0).toInt8.toInt32))))] := hD
  refine lv_iinc (k := 0) (v := (-1)) hx hb d_TX_put_69 hl rfl (by decide) (by decide) rfl (fun ls hl => ?_)
  have hl : lv_has ls 5 [(4, .int (-1)), (0, .ref h0), (1, .long x), (3, .int 5)] := hl
  refine lv_goto (tgt := 38) hx hb d_TX_put_72 (by decide) ?_
  refine lv_iload hx hb d_TX_put_38 (lv_at hl 0 rfl) ?_
  refine lv_if_lt (tgt := 75) hx hb d_TX_put_40 (by decide) (fun _ => ?_) (fun h9 => absurd (by decide) h9)
  refine lv_iconst (v := 1) hx hb d_TX_put_75 (by decide) ?_
  have hP9 := hP.sub (ws' := [(h0, .inr (1, [.ref t0, .int 5]))]) [0] rfl
  have hD9 := hD.sub (ws' := [(h0, .inr (1, [.ref t0, .int 5]))]) [0] (by decide) rfl
  have hK9 := hK.sub (tys' := [(cT, .byte)]) [0] rfl
  exact W.zret (v := 1) (ty := .boolean) hx hb hr (by decide +kernel) (fun t ht hW => ⟨⟨1, (), rfl, rfl, by rw [ht]; exact hP9, va_K.moved hW.alike hK9, hD9⟩, hS.F ht⟩) hS.2.2 d_TX_put_76

set_option maxHeartbeats 4000000 in
set_option maxRecDepth 100000 in
theorem c_TX_put_6n (l : Launch) (dC : Nat → ClassId) (dI : Nat → Nat → Nat) (h0 : Nat) (t0 : Nat) (x : Int64) (g : ¬ (ok x 0 ∧ ok x 8 ∧ ok x 16 ∧ ok x 24 ∧ ok x 32 ∧ ok x 40)) : Met l y_TX_put (Cond.code y_TX_put b_TX_put 5 (Option.some Jvm.ClassFile.FieldType.boolean) :: wd) { frames := 2, cells := 0, slots := 0, locals := 46 } (va_Pc [.ref h0, .long x, .int 6] (fun U => va_P (dC, dI) cls [(h0, .inr (1, [.ref t0, .int 0]))] U.heap ∧ va_K (dC, dI) cls [] U ∧ nw_ok U)) (va_Qi (fun r (_ : Unit) => r = 0) (fun _ _ => True) (fun _ => False)) 0 0 (fun _ => False) := by
  refine Met.ofW (cc := b_TX_put) (maxL := 5) (ret := (Option.some Jvm.ClassFile.FieldType.boolean)) (by decide) rfl ?_
  intro p e s m args below meth c s₁ B hml hv
  obtain ⟨rfl, hP, hK, hN⟩ := hv
  have hx := B.exec
  have hb := B.bytes
  have hr := B.returns
  have hlocks := B.notSynchronized
  have hts : ∀ w ∈ wd, w.before ([.ref h0, .long x, .int 6] : List Value).toArray s = true := fun w hw => atoms_spec (ws := (Cond.code y_TX_put b_TX_put 5 (Option.some Jvm.ClassFile.FieldType.boolean) :: wd)) B.pre w (List.mem_cons_of_mem _ hw)
  have hown : s.vm.findClass "LeastSolutions$Text" = some m.cls := findClass_of_methodNamed B.named
  have hS : va_S (fun _ => False) s.heap s.heap [] := va_S.rf
  have hl := lv_entry ([.ref h0, .long x, .int 6]) (n := 5) (Nat.le_of_ble_eq_true rfl)
  rw [lg_entry_eq]
  generalize (lg_sl ([.ref h0, .long x, .int 6]) ++ List.replicate (5 - (lg_sl ([.ref h0, .long x, .int 6])).length) Slot.unset).toArray = ls at hl ⊢
  have hl : lv_has ls 5 [(0, .ref h0), (1, .long x), (3, .int 6)] := hl
  refine lv_iload_n hx hb d_TX_put_0 rfl (lv_at hl 2 rfl) ?_
  refine lv_iconst (v := 1) hx hb d_TX_put_1 (by decide) ?_
  refine lv_icmp_lt (tgt := 31) hx hb d_TX_put_2 (by decide) (fun h9 => absurd h9 (by decide)) (fun _ => ?_)
  refine lv_iload_n hx hb d_TX_put_5 rfl (lv_at hl 2 rfl) ?_
  refine lv_bipush (v := 8) hx hb d_TX_put_6 (by decide) ?_
  refine lv_icmp_gt (tgt := 31) hx hb d_TX_put_8 (by decide) (fun h9 => absurd h9 (by decide)) (fun _ => ?_)
  refine lv_aload_n hx hb d_TX_put_11 rfl (lv_at hl 0 rfl) ?_
  refine va_get (D := (dC, dI)) (ci := 1) (v := .int 0) (C := R_TX) (T := T_TX) (N := 2) hx hb hts in_TX hown hK hP 0 rfl rfl 1 (by decide) (hts _ k_37) (fun _ h9 => h9) rfl d_TX_put_12 ?_
  refine lv_iload_n hx hb d_TX_put_15 rfl (lv_at hl 2 rfl) ?_
  refine lv_iadd hx hb d_TX_put_16 ?_
  refine W.eq (g2 := F0 m 17 ls [.int 6]) rfl ?_
  refine lv_sipush (v := 300) hx hb d_TX_put_17 (by decide) ?_
  refine lv_icmp_gt (tgt := 31) hx hb d_TX_put_20 (by decide) (fun h9 => absurd h9 (by decide)) (fun _ => ?_)
  refine lv_lload_n hx hb d_TX_put_23 rfl (lv_at hl 1 rfl) ?_
  refine lv_iload_n hx hb d_TX_put_24 rfl (lv_at hl 2 rfl) ?_
  refine pu_calli (va_runS (As := [.long x, .int 6]) (rest := []) ⟨hx, hb, hml, hown, hts⟩ (c_TX_areTypable_6n l dC dI (x) (g)) (wd_S 2 hts k_348 k_2 k_346 k_347 rfl rfl (by decide +kernel) ⟨Nat.le_of_ble_eq_true rfl, Nat.le_of_ble_eq_true rfl⟩) ⟨fun a U g mk q => by obtain ⟨q0, qP, qK, qN⟩ := q; exact ⟨q0, qP, va_K.moved (u := U) (U := U.calling g mk a) (Vm.Alike.refl U.vm) qK, nw_ok.same (s := U) (U := U.calling g mk a) rfl qN⟩, fun U hU hW => ⟨rfl, by rw [hU]; exact hP.sub (ws' := []) [] rfl, va_K.moved hW.alike (hK.sub (tys' := []) [] rfl), nw_ok.warm hW hN⟩⟩ rfl rfl hl.1 rfl (lv_room (Nat.le_of_ble_eq_true rfl)) d_TX_put_25 ⟨Nat.le_of_ble_eq_true rfl, Nat.le_of_ble_eq_true rfl⟩) (fun r1 hr1 => ?_)
  try dsimp only at hr1
  subst hr1
  refine lv_if_ne (tgt := 33) hx hb d_TX_put_28 (by decide) (fun h9 => absurd (by decide) h9) (fun _ => ?_)
  refine lv_iconst (v := 0) hx hb d_TX_put_31 (by decide) ?_
  exact W.zret (v := 0) (ty := .boolean) hx hb hr (by decide +kernel) (fun t ht hW => ⟨⟨0, (), rfl, rfl, trivial⟩, hS.F ht⟩) hS.2.2 d_TX_put_32

set_option maxHeartbeats 4000000 in
set_option maxRecDepth 100000 in
theorem c_TX_put_6y (l : Launch) (dC : Nat → ClassId) (dI : Nat → Nat → Nat) (h0 : Nat) (t0 : Nat) (cT : ClassId) (x : Int64) (sz : Nat) (g : ok x 0 ∧ ok x 8 ∧ ok x 16 ∧ ok x 24 ∧ ok x 32 ∧ ok x 40) : Met l y_TX_put (Cond.code y_TX_put b_TX_put 5 (Option.some Jvm.ClassFile.FieldType.boolean) :: wd) { frames := 2, cells := 0, slots := 0, locals := 46 } (va_Pc [.ref h0, .long x, .int 6] (fun U => U.heap.size = sz ∧ va_P (dC, dI) cls [(h0, .inr (1, [.ref t0, .int 0])), (t0, .inl (cT, 300, .inl (fun _ => (0 : Int32))))] U.heap ∧ va_K (dC, dI) cls [(cT, .byte)] U ∧ va_D (fun _ => True) [(h0, .inr (1, [.ref t0, .int 0])), (t0, .inl (cT, 300, .inl (fun _ => (0 : Int32))))] ∧ nw_ok U)) (va_Qi (fun r (_ : Unit) => r = 1) (fun (_ : Unit) t => va_P (dC, dI) cls [(h0, .inr (1, [.ref t0, .int 6]))] t.heap ∧ va_K (dC, dI) cls [(cT, .byte)] t ∧ va_D (va_A [(h0, .inr (1, [.ref t0, .int 0])), (t0, .inl (cT, 300, .inl (fun _ => (0 : Int32))))] sz) [(h0, .inr (1, [.ref t0, .int 6]))]) (va_A [(h0, .inr (1, [.ref t0, .int 0])), (t0, .inl (cT, 300, .inl (fun _ => (0 : Int32))))] sz)) 0 0 (va_A [(h0, .inr (1, [.ref t0, .int 0])), (t0, .inl (cT, 300, .inl (fun _ => (0 : Int32))))] sz) := by
  refine Met.ofW (cc := b_TX_put) (maxL := 5) (ret := (Option.some Jvm.ClassFile.FieldType.boolean)) (by decide) rfl ?_
  intro p e s m args below meth c s₁ B hml hv
  obtain ⟨rfl, hsz, hP, hK, hD0, hN⟩ := hv
  have hx := B.exec
  have hb := B.bytes
  have hr := B.returns
  have hlocks := B.notSynchronized
  have hts : ∀ w ∈ wd, w.before ([.ref h0, .long x, .int 6] : List Value).toArray s = true := fun w hw => atoms_spec (ws := (Cond.code y_TX_put b_TX_put 5 (Option.some Jvm.ClassFile.FieldType.boolean) :: wd)) B.pre w (List.mem_cons_of_mem _ hw)
  have hown : s.vm.findClass "LeastSolutions$Text" = some m.cls := findClass_of_methodNamed B.named
  subst hsz
  have hD := hD0.self (sz := s.heap.size)
  generalize hAe : va_A [(h0, .inr (1, [.ref t0, .int 0])), (t0, .inl (cT, 300, .inl (fun _ => (0 : Int32))))] s.heap.size = A at hD ⊢
  have hA : ∀ q : Nat, s.heap.size ≤ q → A q := fun q h => by rw [← hAe]; exact Or.inr h
  have hS : va_S A s.heap s.heap [] := va_S.rf
  have hl := lv_entry ([.ref h0, .long x, .int 6]) (n := 5) (Nat.le_of_ble_eq_true rfl)
  rw [lg_entry_eq]
  generalize (lg_sl ([.ref h0, .long x, .int 6]) ++ List.replicate (5 - (lg_sl ([.ref h0, .long x, .int 6])).length) Slot.unset).toArray = ls at hl ⊢
  have hl : lv_has ls 5 [(0, .ref h0), (1, .long x), (3, .int 6)] := hl
  refine lv_iload_n hx hb d_TX_put_0 rfl (lv_at hl 2 rfl) ?_
  refine lv_iconst (v := 1) hx hb d_TX_put_1 (by decide) ?_
  refine lv_icmp_lt (tgt := 31) hx hb d_TX_put_2 (by decide) (fun h9 => absurd h9 (by decide)) (fun _ => ?_)
  refine lv_iload_n hx hb d_TX_put_5 rfl (lv_at hl 2 rfl) ?_
  refine lv_bipush (v := 8) hx hb d_TX_put_6 (by decide) ?_
  refine lv_icmp_gt (tgt := 31) hx hb d_TX_put_8 (by decide) (fun h9 => absurd h9 (by decide)) (fun _ => ?_)
  refine lv_aload_n hx hb d_TX_put_11 rfl (lv_at hl 0 rfl) ?_
  refine va_get (D := (dC, dI)) (ci := 1) (v := .int 0) (C := R_TX) (T := T_TX) (N := 2) hx hb hts in_TX hown hK hP 0 rfl rfl 1 (by decide) (hts _ k_37) (fun _ h9 => h9) rfl d_TX_put_12 ?_
  refine lv_iload_n hx hb d_TX_put_15 rfl (lv_at hl 2 rfl) ?_
  refine lv_iadd hx hb d_TX_put_16 ?_
  refine W.eq (g2 := F0 m 17 ls [.int 6]) rfl ?_
  refine lv_sipush (v := 300) hx hb d_TX_put_17 (by decide) ?_
  refine lv_icmp_gt (tgt := 31) hx hb d_TX_put_20 (by decide) (fun h9 => absurd h9 (by decide)) (fun _ => ?_)
  refine lv_lload_n hx hb d_TX_put_23 rfl (lv_at hl 1 rfl) ?_
  refine lv_iload_n hx hb d_TX_put_24 rfl (lv_at hl 2 rfl) ?_
  refine va_calli (va_runS (As := [.long x, .int 6]) (rest := []) ⟨hx, hb, hml, hown, hts⟩ (c_TX_areTypable_6y l dC dI (x) (g)) (wd_S 2 hts k_348 k_2 k_346 k_347 rfl rfl (by decide +kernel) ⟨Nat.le_of_ble_eq_true rfl, Nat.le_of_ble_eq_true rfl⟩) ⟨fun a U g mk q => by obtain ⟨q0, qP, qK, qN⟩ := q; exact ⟨q0, qP, va_K.moved (u := U) (U := U.calling g mk a) (Vm.Alike.refl U.vm) qK, nw_ok.same (s := U) (U := U.calling g mk a) rfl qN⟩, fun U hU hW => ⟨rfl, by rw [hU]; exact hP.sub (ws' := []) [] rfl, va_K.moved hW.alike (hK.sub (tys' := []) [] rfl), nw_ok.warm hW hN⟩⟩ rfl rfl hl.1 rfl (lv_room (Nat.le_of_ble_eq_true rfl)) d_TX_put_25 ⟨Nat.le_of_ble_eq_true rfl, Nat.le_of_ble_eq_true rfl⟩) hS (fun q _ h => h.elim) (fun q h => h.elim) (fun r1 u t H1 locs ht hvm hr1 hB hz1 hk1 hS => ?_)
  try dsimp only at hr1
  subst hr1
  have hP : va_P (dC, dI) cls [(h0, .inr (1, [.ref t0, .int 0])), (t0, .inl (cT, 300, .inl (fun _ => (0 : Int32))))] H1 := hP.kept (fun k q hq => hk1 q.1 (hP k q hq).lt id)
  have hP : va_P (dC, dI) cls [(h0, .inr (1, [.ref t0, .int 0])), (t0, .inl (cT, 300, .inl (fun _ => (0 : Int32))))] H1 := hP
  have hD : va_D A [(h0, .inr (1, [.ref t0, .int 0])), (t0, .inl (cT, 300, .inl (fun _ => (0 : Int32))))] := hD
  refine lv_if_ne (tgt := 33) hx hb d_TX_put_28 (by decide) (fun _ => ?_) (fun h9 => absurd h9 (by decide))
  refine lv_iload_n hx hb d_TX_put_33 rfl (lv_at hl 2 rfl) ?_
  refine lv_iconst (v := 1) hx hb d_TX_put_34 (by decide) ?_
  refine lv_isub hx hb d_TX_put_35 ?_
  refine W.eq (g2 := F0 m 36 ls [.int 5]) rfl ?_
  refine lv_istore hx hb d_TX_put_36 hl (by decide) rfl (fun ls hl => ?_)
  have hl : lv_has ls 5 [(4, .int 5), (0, .ref h0), (1, .long x), (3, .int 6)] := hl
  refine lv_iload hx hb d_TX_put_38 (lv_at hl 0 rfl) ?_
  refine lv_if_lt (tgt := 75) hx hb d_TX_put_40 (by decide) (fun h9 => absurd h9 (by decide)) (fun _ => ?_)
  refine lv_aload_n hx hb d_TX_put_43 rfl (lv_at hl 1 rfl) ?_
  refine va_get (D := (dC, dI)) (ci := 1) (v := .ref t0) (C := R_TX) (T := T_TX) (N := 2) hx hb hts in_TX hown hK hP 0 rfl rfl 0 (by decide) (hts _ k_36) (fun _ h9 => h9) rfl d_TX_put_44 ?_
  refine lv_aload_n hx hb d_TX_put_47 rfl (lv_at hl 1 rfl) ?_
  refine va_get (D := (dC, dI)) (ci := 1) (v := .int 0) (C := R_TX) (T := T_TX) (N := 2) hx hb hts in_TX hown hK hP 0 rfl rfl 1 (by decide) (hts _ k_37) (fun _ h9 => h9) rfl d_TX_put_48 ?_
  refine lv_lload_n hx hb d_TX_put_51 rfl (lv_at hl 2 rfl) ?_
  refine lv_iload hx hb d_TX_put_52 (lv_at hl 0 rfl) ?_
  refine va_calli (va_runS (As := [.long x, .int 5]) (rest := [.int 0, .ref t0]) ⟨hx, hb, hml, hown, hts⟩ (c_TX_byteOf l dC dI (x) (5)) (wd_S 2 hts k_351 k_2 k_349 k_350 rfl rfl (by decide +kernel) ⟨Nat.le_of_ble_eq_true rfl, Nat.le_of_ble_eq_true rfl⟩) ⟨fun a U g mk q => by obtain ⟨q0, qP, qK, qN⟩ := q; exact ⟨q0, qP, va_K.moved (u := U) (U := U.calling g mk a) (Vm.Alike.refl U.vm) qK, nw_ok.same (s := U) (U := U.calling g mk a) rfl qN⟩, fun U hU hW => ⟨rfl, by rw [hU]; exact hP.sub (ws' := []) [] rfl, va_K.moved hW.alike (hK.sub (tys' := []) [] rfl), nw_ok.warm hW hN⟩⟩ rfl rfl hl.1 rfl (lv_room (Nat.le_of_ble_eq_true rfl)) d_TX_put_54 ⟨Nat.le_of_ble_eq_true rfl, Nat.le_of_ble_eq_true rfl⟩) hS (fun q _ h => h.elim) (fun q h => h.elim) (fun r2 u t H2 locs ht hvm hr2 hB hz1 hk1 hS => ?_)
  try dsimp only at hr2
  subst hr2
  have hP : va_P (dC, dI) cls [(h0, .inr (1, [.ref t0, .int 0])), (t0, .inl (cT, 300, .inl (fun _ => (0 : Int32))))] H2 := hP.kept (fun k q hq => hk1 q.1 (hP k q hq).lt id)
  have hP : va_P (dC, dI) cls [(h0, .inr (1, [.ref t0, .int 0])), (t0, .inl (cT, 300, .inl (fun _ => (0 : Int32))))] H2 := hP
  have hD : va_D A [(h0, .inr (1, [.ref t0, .int 0])), (t0, .inl (cT, 300, .inl (fun _ => (0 : Int32))))] := hD
  refine lv_i2b (v := (bc x 5).toInt8.toInt32) hx hb d_TX_put_57 rfl ?_
  refine va_bast hx hb hK hP hD hS 1 0 rfl rfl (show ¬ ((0 : Int32) < 0 ∨ 300 ≤ (0 : Int32).toNatClampNeg) from by decide) d_TX_put_58 (fun H3 locs hP hD hS => ?_)
  have hP : va_P (dC, dI) cls [(h0, .inr (1, [.ref t0, .int 0])), (t0, .inl (cT, 300, .inl (upd (fun _ => (0 : Int32)) (0 : Int32).toNatClampNeg (vp_nar .byte (bc x 5).toInt8.toInt32))))] H3 := hP
  have hD : va_D A [(h0, .inr (1, [.ref t0, .int 0])), (t0, .inl (cT, 300, .inl (upd (fun _ => (0 : Int32)) (0 : Int32).toNatClampNeg (vp_nar .byte (bc x 5).toInt8.toInt32))))] := hD
  refine lv_aload_n hx hb d_TX_put_59 rfl (lv_at hl 1 rfl) ?_
  refine lv_dup hx hb d_TX_put_60 rfl ?_
  refine va_get (D := (dC, dI)) (ci := 1) (v := .int 0) (C := R_TX) (T := T_TX) (N := 2) hx hb hts in_TX hown hK hP 0 rfl rfl 1 (by decide) (hts _ k_37) (fun _ h9 => h9) rfl d_TX_put_61 ?_
  refine lv_iconst (v := 1) hx hb d_TX_put_64 (by decide) ?_
  refine lv_iadd hx hb d_TX_put_65 ?_
  refine W.eq (g2 := F0 m 66 ls [.int 1, .ref h0]) rfl ?_
  refine va_put (D := (dC, dI)) (ci := 1) (v := .int 1) (ty := .int) (C := R_TX) (T := T_TX) (N := 2) hx hb hts in_TX t_TX t_TX_ok n_TX hown hK hP hD hS 0 rfl rfl 1 (by decide) (hts _ k_37) (fun _ h9 => h9) rfl (by decide +kernel) rfl rfl (Nat.le_of_ble_eq_true rfl) d_TX_put_66 (fun H4 locs hP hD hS => ?_)
  have hP : va_P (dC, dI) cls [(h0, .inr (1, [.ref t0, .int 1])), (t0, .inl (cT, 300, .inl (upd (fun _ => (0 : Int32)) (0 : Int32).toNatClampNeg (vp_nar .byte (bc x 5).toInt8.toInt32))))] H4 := hP
  have hD : va_D A [(h0, .inr (1, [.ref t0, .int 1])), (t0, .inl (cT, 300, .inl (upd (fun _ => (0 : Int32)) (0 : Int32).toNatClampNeg (vp_nar .byte (bc x 5).toInt8.toInt32))))] := hD
  refine lv_iinc (k := 0) (v := 4) hx hb d_TX_put_69 hl rfl (by decide) (by decide) rfl (fun ls hl => ?_)
  have hl : lv_has ls 5 [(4, .int 4), (0, .ref h0), (1, .long x), (3, .int 6)] := hl
  refine lv_goto (tgt := 38) hx hb d_TX_put_72 (by decide) ?_
  refine lv_iload hx hb d_TX_put_38 (lv_at hl 0 rfl) ?_
  refine lv_if_lt (tgt := 75) hx hb d_TX_put_40 (by decide) (fun h9 => absurd h9 (by decide)) (fun _ => ?_)
  refine lv_aload_n hx hb d_TX_put_43 rfl (lv_at hl 1 rfl) ?_
  refine va_get (D := (dC, dI)) (ci := 1) (v := .ref t0) (C := R_TX) (T := T_TX) (N := 2) hx hb hts in_TX hown hK hP 0 rfl rfl 0 (by decide) (hts _ k_36) (fun _ h9 => h9) rfl d_TX_put_44 ?_
  refine lv_aload_n hx hb d_TX_put_47 rfl (lv_at hl 1 rfl) ?_
  refine va_get (D := (dC, dI)) (ci := 1) (v := .int 1) (C := R_TX) (T := T_TX) (N := 2) hx hb hts in_TX hown hK hP 0 rfl rfl 1 (by decide) (hts _ k_37) (fun _ h9 => h9) rfl d_TX_put_48 ?_
  refine lv_lload_n hx hb d_TX_put_51 rfl (lv_at hl 2 rfl) ?_
  refine lv_iload hx hb d_TX_put_52 (lv_at hl 0 rfl) ?_
  refine va_calli (va_runS (As := [.long x, .int 4]) (rest := [.int 1, .ref t0]) ⟨hx, hb, hml, hown, hts⟩ (c_TX_byteOf l dC dI (x) (4)) (wd_S 2 hts k_351 k_2 k_349 k_350 rfl rfl (by decide +kernel) ⟨Nat.le_of_ble_eq_true rfl, Nat.le_of_ble_eq_true rfl⟩) ⟨fun a U g mk q => by obtain ⟨q0, qP, qK, qN⟩ := q; exact ⟨q0, qP, va_K.moved (u := U) (U := U.calling g mk a) (Vm.Alike.refl U.vm) qK, nw_ok.same (s := U) (U := U.calling g mk a) rfl qN⟩, fun U hU hW => ⟨rfl, by rw [hU]; exact hP.sub (ws' := []) [] rfl, va_K.moved hW.alike (hK.sub (tys' := []) [] rfl), nw_ok.warm hW hN⟩⟩ rfl rfl hl.1 rfl (lv_room (Nat.le_of_ble_eq_true rfl)) d_TX_put_54 ⟨Nat.le_of_ble_eq_true rfl, Nat.le_of_ble_eq_true rfl⟩) hS (fun q _ h => h.elim) (fun q h => h.elim) (fun r3 u t H5 locs ht hvm hr3 hB hz1 hk1 hS => ?_)
  try dsimp only at hr3
  subst hr3
  have hP : va_P (dC, dI) cls [(h0, .inr (1, [.ref t0, .int 1])), (t0, .inl (cT, 300, .inl (upd (fun _ => (0 : Int32)) (0 : Int32).toNatClampNeg (vp_nar .byte (bc x 5).toInt8.toInt32))))] H5 := hP.kept (fun k q hq => hk1 q.1 (hP k q hq).lt id)
  have hP : va_P (dC, dI) cls [(h0, .inr (1, [.ref t0, .int 1])), (t0, .inl (cT, 300, .inl (upd (fun _ => (0 : Int32)) (0 : Int32).toNatClampNeg (vp_nar .byte (bc x 5).toInt8.toInt32))))] H5 := hP
  have hD : va_D A [(h0, .inr (1, [.ref t0, .int 1])), (t0, .inl (cT, 300, .inl (upd (fun _ => (0 : Int32)) (0 : Int32).toNatClampNeg (vp_nar .byte (bc x 5).toInt8.toInt32))))] := hD
  refine lv_i2b (v := (bc x 4).toInt8.toInt32) hx hb d_TX_put_57 rfl ?_
  refine va_bast hx hb hK hP hD hS 1 0 rfl rfl (show ¬ ((1 : Int32) < 0 ∨ 300 ≤ (1 : Int32).toNatClampNeg) from by decide) d_TX_put_58 (fun H6 locs hP hD hS => ?_)
  have hP : va_P (dC, dI) cls [(h0, .inr (1, [.ref t0, .int 1])), (t0, .inl (cT, 300, .inl (upd (upd (fun _ => (0 : Int32)) (0 : Int32).toNatClampNeg (vp_nar .byte (bc x 5).toInt8.toInt32)) (1 : Int32).toNatClampNeg (vp_nar .byte (bc x 4).toInt8.toInt32))))] H6 := hP
  have hD : va_D A [(h0, .inr (1, [.ref t0, .int 1])), (t0, .inl (cT, 300, .inl (upd (upd (fun _ => (0 : Int32)) (0 : Int32).toNatClampNeg (vp_nar .byte (bc x 5).toInt8.toInt32)) (1 : Int32).toNatClampNeg (vp_nar .byte (bc x 4).toInt8.toInt32))))] := hD
  refine lv_aload_n hx hb d_TX_put_59 rfl (lv_at hl 1 rfl) ?_
  refine lv_dup hx hb d_TX_put_60 rfl ?_
  refine va_get (D := (dC, dI)) (ci := 1) (v := .int 1) (C := R_TX) (T := T_TX) (N := 2) hx hb hts in_TX hown hK hP 0 rfl rfl 1 (by decide) (hts _ k_37) (fun _ h9 => h9) rfl d_TX_put_61 ?_
  refine lv_iconst (v := 1) hx hb d_TX_put_64 (by decide) ?_
  refine lv_iadd hx hb d_TX_put_65 ?_
  refine W.eq (g2 := F0 m 66 ls [.int 2, .ref h0]) rfl ?_
  refine va_put (D := (dC, dI)) (ci := 1) (v := .int 2) (ty := .int) (C := R_TX) (T := T_TX) (N := 2) hx hb hts in_TX t_TX t_TX_ok n_TX hown hK hP hD hS 0 rfl rfl 1 (by decide) (hts _ k_37) (fun _ h9 => h9) rfl (by decide +kernel) rfl rfl (Nat.le_of_ble_eq_true rfl) d_TX_put_66 (fun H7 locs hP hD hS => ?_)
  have hP : va_P (dC, dI) cls [(h0, .inr (1, [.ref t0, .int 2])), (t0, .inl (cT, 300, .inl (upd (upd (fun _ => (0 : Int32)) (0 : Int32).toNatClampNeg (vp_nar .byte (bc x 5).toInt8.toInt32)) (1 : Int32).toNatClampNeg (vp_nar .byte (bc x 4).toInt8.toInt32))))] H7 := hP
  have hD : va_D A [(h0, .inr (1, [.ref t0, .int 2])), (t0, .inl (cT, 300, .inl (upd (upd (fun _ => (0 : Int32)) (0 : Int32).toNatClampNeg (vp_nar .byte (bc x 5).toInt8.toInt32)) (1 : Int32).toNatClampNeg (vp_nar .byte (bc x 4).toInt8.toInt32))))] := hD
  refine lv_iinc (k := 0) (v := 3) hx hb d_TX_put_69 hl rfl (by decide) (by decide) rfl (fun ls hl => ?_)
  have hl : lv_has ls 5 [(4, .int 3), (0, .ref h0), (1, .long x), (3, .int 6)] := hl
  refine lv_goto (tgt := 38) hx hb d_TX_put_72 (by decide) ?_
  refine lv_iload hx hb d_TX_put_38 (lv_at hl 0 rfl) ?_
  refine lv_if_lt (tgt := 75) hx hb d_TX_put_40 (by decide) (fun h9 => absurd h9 (by decide)) (fun _ => ?_)
  refine lv_aload_n hx hb d_TX_put_43 rfl (lv_at hl 1 rfl) ?_
  refine va_get (D := (dC, dI)) (ci := 1) (v := .ref t0) (C := R_TX) (T := T_TX) (N := 2) hx hb hts in_TX hown hK hP 0 rfl rfl 0 (by decide) (hts _ k_36) (fun _ h9 => h9) rfl d_TX_put_44 ?_
  refine lv_aload_n hx hb d_TX_put_47 rfl (lv_at hl 1 rfl) ?_
  refine va_get (D := (dC, dI)) (ci := 1) (v := .int 2) (C := R_TX) (T := T_TX) (N := 2) hx hb hts in_TX hown hK hP 0 rfl rfl 1 (by decide) (hts _ k_37) (fun _ h9 => h9) rfl d_TX_put_48 ?_
  refine lv_lload_n hx hb d_TX_put_51 rfl (lv_at hl 2 rfl) ?_
  refine lv_iload hx hb d_TX_put_52 (lv_at hl 0 rfl) ?_
  refine va_calli (va_runS (As := [.long x, .int 3]) (rest := [.int 2, .ref t0]) ⟨hx, hb, hml, hown, hts⟩ (c_TX_byteOf l dC dI (x) (3)) (wd_S 2 hts k_351 k_2 k_349 k_350 rfl rfl (by decide +kernel) ⟨Nat.le_of_ble_eq_true rfl, Nat.le_of_ble_eq_true rfl⟩) ⟨fun a U g mk q => by obtain ⟨q0, qP, qK, qN⟩ := q; exact ⟨q0, qP, va_K.moved (u := U) (U := U.calling g mk a) (Vm.Alike.refl U.vm) qK, nw_ok.same (s := U) (U := U.calling g mk a) rfl qN⟩, fun U hU hW => ⟨rfl, by rw [hU]; exact hP.sub (ws' := []) [] rfl, va_K.moved hW.alike (hK.sub (tys' := []) [] rfl), nw_ok.warm hW hN⟩⟩ rfl rfl hl.1 rfl (lv_room (Nat.le_of_ble_eq_true rfl)) d_TX_put_54 ⟨Nat.le_of_ble_eq_true rfl, Nat.le_of_ble_eq_true rfl⟩) hS (fun q _ h => h.elim) (fun q h => h.elim) (fun r4 u t H8 locs ht hvm hr4 hB hz1 hk1 hS => ?_)
  try dsimp only at hr4
  subst hr4
  have hP : va_P (dC, dI) cls [(h0, .inr (1, [.ref t0, .int 2])), (t0, .inl (cT, 300, .inl (upd (upd (fun _ => (0 : Int32)) (0 : Int32).toNatClampNeg (vp_nar .byte (bc x 5).toInt8.toInt32)) (1 : Int32).toNatClampNeg (vp_nar .byte (bc x 4).toInt8.toInt32))))] H8 := hP.kept (fun k q hq => hk1 q.1 (hP k q hq).lt id)
  have hP : va_P (dC, dI) cls [(h0, .inr (1, [.ref t0, .int 2])), (t0, .inl (cT, 300, .inl (upd (upd (fun _ => (0 : Int32)) (0 : Int32).toNatClampNeg (vp_nar .byte (bc x 5).toInt8.toInt32)) (1 : Int32).toNatClampNeg (vp_nar .byte (bc x 4).toInt8.toInt32))))] H8 := hP
  have hD : va_D A [(h0, .inr (1, [.ref t0, .int 2])), (t0, .inl (cT, 300, .inl (upd (upd (fun _ => (0 : Int32)) (0 : Int32).toNatClampNeg (vp_nar .byte (bc x 5).toInt8.toInt32)) (1 : Int32).toNatClampNeg (vp_nar .byte (bc x 4).toInt8.toInt32))))] := hD
  refine lv_i2b (v := (bc x 3).toInt8.toInt32) hx hb d_TX_put_57 rfl ?_
  refine va_bast hx hb hK hP hD hS 1 0 rfl rfl (show ¬ ((2 : Int32) < 0 ∨ 300 ≤ (2 : Int32).toNatClampNeg) from by decide) d_TX_put_58 (fun H9 locs hP hD hS => ?_)
  have hP : va_P (dC, dI) cls [(h0, .inr (1, [.ref t0, .int 2])), (t0, .inl (cT, 300, .inl (upd (upd (upd (fun _ => (0 : Int32)) (0 : Int32).toNatClampNeg (vp_nar .byte (bc x 5).toInt8.toInt32)) (1 : Int32).toNatClampNeg (vp_nar .byte (bc x 4).toInt8.toInt32)) (2 : Int32).toNatClampNeg (vp_nar .byte (bc x 3).toInt8.toInt32))))] H9 := hP
  have hD : va_D A [(h0, .inr (1, [.ref t0, .int 2])), (t0, .inl (cT, 300, .inl (upd (upd (upd (fun _ => (0 : Int32)) (0 : Int32).toNatClampNeg (vp_nar .byte (bc x 5).toInt8.toInt32)) (1 : Int32).toNatClampNeg (vp_nar .byte (bc x 4).toInt8.toInt32)) (2 : Int32).toNatClampNeg (vp_nar .byte (bc x 3).toInt8.toInt32))))] := hD
  refine lv_aload_n hx hb d_TX_put_59 rfl (lv_at hl 1 rfl) ?_
  refine lv_dup hx hb d_TX_put_60 rfl ?_
  refine va_get (D := (dC, dI)) (ci := 1) (v := .int 2) (C := R_TX) (T := T_TX) (N := 2) hx hb hts in_TX hown hK hP 0 rfl rfl 1 (by decide) (hts _ k_37) (fun _ h9 => h9) rfl d_TX_put_61 ?_
  refine lv_iconst (v := 1) hx hb d_TX_put_64 (by decide) ?_
  refine lv_iadd hx hb d_TX_put_65 ?_
  refine W.eq (g2 := F0 m 66 ls [.int 3, .ref h0]) rfl ?_
  refine va_put (D := (dC, dI)) (ci := 1) (v := .int 3) (ty := .int) (C := R_TX) (T := T_TX) (N := 2) hx hb hts in_TX t_TX t_TX_ok n_TX hown hK hP hD hS 0 rfl rfl 1 (by decide) (hts _ k_37) (fun _ h9 => h9) rfl (by decide +kernel) rfl rfl (Nat.le_of_ble_eq_true rfl) d_TX_put_66 (fun H10 locs hP hD hS => ?_)
  have hP : va_P (dC, dI) cls [(h0, .inr (1, [.ref t0, .int 3])), (t0, .inl (cT, 300, .inl (upd (upd (upd (fun _ => (0 : Int32)) (0 : Int32).toNatClampNeg (vp_nar .byte (bc x 5).toInt8.toInt32)) (1 : Int32).toNatClampNeg (vp_nar .byte (bc x 4).toInt8.toInt32)) (2 : Int32).toNatClampNeg (vp_nar .byte (bc x 3).toInt8.toInt32))))] H10 := hP
  have hD : va_D A [(h0, .inr (1, [.ref t0, .int 3])), (t0, .inl (cT, 300, .inl (upd (upd (upd (fun _ => (0 : Int32)) (0 : Int32).toNatClampNeg (vp_nar .byte (bc x 5).toInt8.toInt32)) (1 : Int32).toNatClampNeg (vp_nar .byte (bc x 4).toInt8.toInt32)) (2 : Int32).toNatClampNeg (vp_nar .byte (bc x 3).toInt8.toInt32))))] := hD
  refine lv_iinc (k := 0) (v := 2) hx hb d_TX_put_69 hl rfl (by decide) (by decide) rfl (fun ls hl => ?_)
  have hl : lv_has ls 5 [(4, .int 2), (0, .ref h0), (1, .long x), (3, .int 6)] := hl
  refine lv_goto (tgt := 38) hx hb d_TX_put_72 (by decide) ?_
  refine lv_iload hx hb d_TX_put_38 (lv_at hl 0 rfl) ?_
  refine lv_if_lt (tgt := 75) hx hb d_TX_put_40 (by decide) (fun h9 => absurd h9 (by decide)) (fun _ => ?_)
  refine lv_aload_n hx hb d_TX_put_43 rfl (lv_at hl 1 rfl) ?_
  refine va_get (D := (dC, dI)) (ci := 1) (v := .ref t0) (C := R_TX) (T := T_TX) (N := 2) hx hb hts in_TX hown hK hP 0 rfl rfl 0 (by decide) (hts _ k_36) (fun _ h9 => h9) rfl d_TX_put_44 ?_
  refine lv_aload_n hx hb d_TX_put_47 rfl (lv_at hl 1 rfl) ?_
  refine va_get (D := (dC, dI)) (ci := 1) (v := .int 3) (C := R_TX) (T := T_TX) (N := 2) hx hb hts in_TX hown hK hP 0 rfl rfl 1 (by decide) (hts _ k_37) (fun _ h9 => h9) rfl d_TX_put_48 ?_
  refine lv_lload_n hx hb d_TX_put_51 rfl (lv_at hl 2 rfl) ?_
  refine lv_iload hx hb d_TX_put_52 (lv_at hl 0 rfl) ?_
  refine va_calli (va_runS (As := [.long x, .int 2]) (rest := [.int 3, .ref t0]) ⟨hx, hb, hml, hown, hts⟩ (c_TX_byteOf l dC dI (x) (2)) (wd_S 2 hts k_351 k_2 k_349 k_350 rfl rfl (by decide +kernel) ⟨Nat.le_of_ble_eq_true rfl, Nat.le_of_ble_eq_true rfl⟩) ⟨fun a U g mk q => by obtain ⟨q0, qP, qK, qN⟩ := q; exact ⟨q0, qP, va_K.moved (u := U) (U := U.calling g mk a) (Vm.Alike.refl U.vm) qK, nw_ok.same (s := U) (U := U.calling g mk a) rfl qN⟩, fun U hU hW => ⟨rfl, by rw [hU]; exact hP.sub (ws' := []) [] rfl, va_K.moved hW.alike (hK.sub (tys' := []) [] rfl), nw_ok.warm hW hN⟩⟩ rfl rfl hl.1 rfl (lv_room (Nat.le_of_ble_eq_true rfl)) d_TX_put_54 ⟨Nat.le_of_ble_eq_true rfl, Nat.le_of_ble_eq_true rfl⟩) hS (fun q _ h => h.elim) (fun q h => h.elim) (fun r5 u t H11 locs ht hvm hr5 hB hz1 hk1 hS => ?_)
  try dsimp only at hr5
  subst hr5
  have hP : va_P (dC, dI) cls [(h0, .inr (1, [.ref t0, .int 3])), (t0, .inl (cT, 300, .inl (upd (upd (upd (fun _ => (0 : Int32)) (0 : Int32).toNatClampNeg (vp_nar .byte (bc x 5).toInt8.toInt32)) (1 : Int32).toNatClampNeg (vp_nar .byte (bc x 4).toInt8.toInt32)) (2 : Int32).toNatClampNeg (vp_nar .byte (bc x 3).toInt8.toInt32))))] H11 := hP.kept (fun k q hq => hk1 q.1 (hP k q hq).lt id)
  have hP : va_P (dC, dI) cls [(h0, .inr (1, [.ref t0, .int 3])), (t0, .inl (cT, 300, .inl (upd (upd (upd (fun _ => (0 : Int32)) (0 : Int32).toNatClampNeg (vp_nar .byte (bc x 5).toInt8.toInt32)) (1 : Int32).toNatClampNeg (vp_nar .byte (bc x 4).toInt8.toInt32)) (2 : Int32).toNatClampNeg (vp_nar .byte (bc x 3).toInt8.toInt32))))] H11 := hP
  have hD : va_D A [(h0, .inr (1, [.ref t0, .int 3])), (t0, .inl (cT, 300, .inl (upd (upd (upd (fun _ => (0 : Int32)) (0 : Int32).toNatClampNeg (vp_nar .byte (bc x 5).toInt8.toInt32)) (1 : Int32).toNatClampNeg (vp_nar .byte (bc x 4).toInt8.toInt32)) (2 : Int32).toNatClampNeg (vp_nar .byte (bc x 3).toInt8.toInt32))))] := hD
  refine lv_i2b (v := (bc x 2).toInt8.toInt32) hx hb d_TX_put_57 rfl ?_
  refine va_bast hx hb hK hP hD hS 1 0 rfl rfl (show ¬ ((3 : Int32) < 0 ∨ 300 ≤ (3 : Int32).toNatClampNeg) from by decide) d_TX_put_58 (fun H12 locs hP hD hS => ?_)
  have hP : va_P (dC, dI) cls [(h0, .inr (1, [.ref t0, .int 3])), (t0, .inl (cT, 300, .inl (upd (upd (upd (upd (fun _ => (0 : Int32)) (0 : Int32).toNatClampNeg (vp_nar .byte (bc x 5).toInt8.toInt32)) (1 : Int32).toNatClampNeg (vp_nar .byte (bc x 4).toInt8.toInt32)) (2 : Int32).toNatClampNeg (vp_nar .byte (bc x 3).toInt8.toInt32)) (3 : Int32).toNatClampNeg (vp_nar .byte (bc x 2).toInt8.toInt32))))] H12 := hP
  have hD : va_D A [(h0, .inr (1, [.ref t0, .int 3])), (t0, .inl (cT, 300, .inl (upd (upd (upd (upd (fun _ => (0 : Int32)) (0 : Int32).toNatClampNeg (vp_nar .byte (bc x 5).toInt8.toInt32)) (1 : Int32).toNatClampNeg (vp_nar .byte (bc x 4).toInt8.toInt32)) (2 : Int32).toNatClampNeg (vp_nar .byte (bc x 3).toInt8.toInt32)) (3 : Int32).toNatClampNeg (vp_nar .byte (bc x 2).toInt8.toInt32))))] := hD
  refine lv_aload_n hx hb d_TX_put_59 rfl (lv_at hl 1 rfl) ?_
  refine lv_dup hx hb d_TX_put_60 rfl ?_
  refine va_get (D := (dC, dI)) (ci := 1) (v := .int 3) (C := R_TX) (T := T_TX) (N := 2) hx hb hts in_TX hown hK hP 0 rfl rfl 1 (by decide) (hts _ k_37) (fun _ h9 => h9) rfl d_TX_put_61 ?_
  refine lv_iconst (v := 1) hx hb d_TX_put_64 (by decide) ?_
  refine lv_iadd hx hb d_TX_put_65 ?_
  refine W.eq (g2 := F0 m 66 ls [.int 4, .ref h0]) rfl ?_
  refine va_put (D := (dC, dI)) (ci := 1) (v := .int 4) (ty := .int) (C := R_TX) (T := T_TX) (N := 2) hx hb hts in_TX t_TX t_TX_ok n_TX hown hK hP hD hS 0 rfl rfl 1 (by decide) (hts _ k_37) (fun _ h9 => h9) rfl (by decide +kernel) rfl rfl (Nat.le_of_ble_eq_true rfl) d_TX_put_66 (fun H13 locs hP hD hS => ?_)
  have hP : va_P (dC, dI) cls [(h0, .inr (1, [.ref t0, .int 4])), (t0, .inl (cT, 300, .inl (upd (upd (upd (upd (fun _ => (0 : Int32)) (0 : Int32).toNatClampNeg (vp_nar .byte (bc x 5).toInt8.toInt32)) (1 : Int32).toNatClampNeg (vp_nar .byte (bc x 4).toInt8.toInt32)) (2 : Int32).toNatClampNeg (vp_nar .byte (bc x 3).toInt8.toInt32)) (3 : Int32).toNatClampNeg (vp_nar .byte (bc x 2).toInt8.toInt32))))] H13 := hP
  have hD : va_D A [(h0, .inr (1, [.ref t0, .int 4])), (t0, .inl (cT, 300, .inl (upd (upd (upd (upd (fun _ => (0 : Int32)) (0 : Int32).toNatClampNeg (vp_nar .byte (bc x 5).toInt8.toInt32)) (1 : Int32).toNatClampNeg (vp_nar .byte (bc x 4).toInt8.toInt32)) (2 : Int32).toNatClampNeg (vp_nar .byte (bc x 3).toInt8.toInt32)) (3 : Int32).toNatClampNeg (vp_nar .byte (bc x 2).toInt8.toInt32))))] := hD
  refine lv_iinc (k := 0) (v := 1) hx hb d_TX_put_69 hl rfl (by decide) (by decide) rfl (fun ls hl => ?_)
  have hl : lv_has ls 5 [(4, .int 1), (0, .ref h0), (1, .long x), (3, .int 6)] := hl
  refine lv_goto (tgt := 38) hx hb d_TX_put_72 (by decide) ?_
  refine lv_iload hx hb d_TX_put_38 (lv_at hl 0 rfl) ?_
  refine lv_if_lt (tgt := 75) hx hb d_TX_put_40 (by decide) (fun h9 => absurd h9 (by decide)) (fun _ => ?_)
  refine lv_aload_n hx hb d_TX_put_43 rfl (lv_at hl 1 rfl) ?_
  refine va_get (D := (dC, dI)) (ci := 1) (v := .ref t0) (C := R_TX) (T := T_TX) (N := 2) hx hb hts in_TX hown hK hP 0 rfl rfl 0 (by decide) (hts _ k_36) (fun _ h9 => h9) rfl d_TX_put_44 ?_
  refine lv_aload_n hx hb d_TX_put_47 rfl (lv_at hl 1 rfl) ?_
  refine va_get (D := (dC, dI)) (ci := 1) (v := .int 4) (C := R_TX) (T := T_TX) (N := 2) hx hb hts in_TX hown hK hP 0 rfl rfl 1 (by decide) (hts _ k_37) (fun _ h9 => h9) rfl d_TX_put_48 ?_
  refine lv_lload_n hx hb d_TX_put_51 rfl (lv_at hl 2 rfl) ?_
  refine lv_iload hx hb d_TX_put_52 (lv_at hl 0 rfl) ?_
  refine va_calli (va_runS (As := [.long x, .int 1]) (rest := [.int 4, .ref t0]) ⟨hx, hb, hml, hown, hts⟩ (c_TX_byteOf l dC dI (x) (1)) (wd_S 2 hts k_351 k_2 k_349 k_350 rfl rfl (by decide +kernel) ⟨Nat.le_of_ble_eq_true rfl, Nat.le_of_ble_eq_true rfl⟩) ⟨fun a U g mk q => by obtain ⟨q0, qP, qK, qN⟩ := q; exact ⟨q0, qP, va_K.moved (u := U) (U := U.calling g mk a) (Vm.Alike.refl U.vm) qK, nw_ok.same (s := U) (U := U.calling g mk a) rfl qN⟩, fun U hU hW => ⟨rfl, by rw [hU]; exact hP.sub (ws' := []) [] rfl, va_K.moved hW.alike (hK.sub (tys' := []) [] rfl), nw_ok.warm hW hN⟩⟩ rfl rfl hl.1 rfl (lv_room (Nat.le_of_ble_eq_true rfl)) d_TX_put_54 ⟨Nat.le_of_ble_eq_true rfl, Nat.le_of_ble_eq_true rfl⟩) hS (fun q _ h => h.elim) (fun q h => h.elim) (fun r6 u t H14 locs ht hvm hr6 hB hz1 hk1 hS => ?_)
  try dsimp only at hr6
  subst hr6
  have hP : va_P (dC, dI) cls [(h0, .inr (1, [.ref t0, .int 4])), (t0, .inl (cT, 300, .inl (upd (upd (upd (upd (fun _ => (0 : Int32)) (0 : Int32).toNatClampNeg (vp_nar .byte (bc x 5).toInt8.toInt32)) (1 : Int32).toNatClampNeg (vp_nar .byte (bc x 4).toInt8.toInt32)) (2 : Int32).toNatClampNeg (vp_nar .byte (bc x 3).toInt8.toInt32)) (3 : Int32).toNatClampNeg (vp_nar .byte (bc x 2).toInt8.toInt32))))] H14 := hP.kept (fun k q hq => hk1 q.1 (hP k q hq).lt id)
  have hP : va_P (dC, dI) cls [(h0, .inr (1, [.ref t0, .int 4])), (t0, .inl (cT, 300, .inl (upd (upd (upd (upd (fun _ => (0 : Int32)) (0 : Int32).toNatClampNeg (vp_nar .byte (bc x 5).toInt8.toInt32)) (1 : Int32).toNatClampNeg (vp_nar .byte (bc x 4).toInt8.toInt32)) (2 : Int32).toNatClampNeg (vp_nar .byte (bc x 3).toInt8.toInt32)) (3 : Int32).toNatClampNeg (vp_nar .byte (bc x 2).toInt8.toInt32))))] H14 := hP
  have hD : va_D A [(h0, .inr (1, [.ref t0, .int 4])), (t0, .inl (cT, 300, .inl (upd (upd (upd (upd (fun _ => (0 : Int32)) (0 : Int32).toNatClampNeg (vp_nar .byte (bc x 5).toInt8.toInt32)) (1 : Int32).toNatClampNeg (vp_nar .byte (bc x 4).toInt8.toInt32)) (2 : Int32).toNatClampNeg (vp_nar .byte (bc x 3).toInt8.toInt32)) (3 : Int32).toNatClampNeg (vp_nar .byte (bc x 2).toInt8.toInt32))))] := hD
  refine lv_i2b (v := (bc x 1).toInt8.toInt32) hx hb d_TX_put_57 rfl ?_
  refine va_bast hx hb hK hP hD hS 1 0 rfl rfl (show ¬ ((4 : Int32) < 0 ∨ 300 ≤ (4 : Int32).toNatClampNeg) from by decide) d_TX_put_58 (fun H15 locs hP hD hS => ?_)
  have hP : va_P (dC, dI) cls [(h0, .inr (1, [.ref t0, .int 4])), (t0, .inl (cT, 300, .inl (upd (upd (upd (upd (upd (fun _ => (0 : Int32)) (0 : Int32).toNatClampNeg (vp_nar .byte (bc x 5).toInt8.toInt32)) (1 : Int32).toNatClampNeg (vp_nar .byte (bc x 4).toInt8.toInt32)) (2 : Int32).toNatClampNeg (vp_nar .byte (bc x 3).toInt8.toInt32)) (3 : Int32).toNatClampNeg (vp_nar .byte (bc x 2).toInt8.toInt32)) (4 : Int32).toNatClampNeg (vp_nar .byte (bc x 1).toInt8.toInt32))))] H15 := hP
  have hD : va_D A [(h0, .inr (1, [.ref t0, .int 4])), (t0, .inl (cT, 300, .inl (upd (upd (upd (upd (upd (fun _ => (0 : Int32)) (0 : Int32).toNatClampNeg (vp_nar .byte (bc x 5).toInt8.toInt32)) (1 : Int32).toNatClampNeg (vp_nar .byte (bc x 4).toInt8.toInt32)) (2 : Int32).toNatClampNeg (vp_nar .byte (bc x 3).toInt8.toInt32)) (3 : Int32).toNatClampNeg (vp_nar .byte (bc x 2).toInt8.toInt32)) (4 : Int32).toNatClampNeg (vp_nar .byte (bc x 1).toInt8.toInt32))))] := hD
  refine lv_aload_n hx hb d_TX_put_59 rfl (lv_at hl 1 rfl) ?_
  refine lv_dup hx hb d_TX_put_60 rfl ?_
  refine va_get (D := (dC, dI)) (ci := 1) (v := .int 4) (C := R_TX) (T := T_TX) (N := 2) hx hb hts in_TX hown hK hP 0 rfl rfl 1 (by decide) (hts _ k_37) (fun _ h9 => h9) rfl d_TX_put_61 ?_
  refine lv_iconst (v := 1) hx hb d_TX_put_64 (by decide) ?_
  refine lv_iadd hx hb d_TX_put_65 ?_
  refine W.eq (g2 := F0 m 66 ls [.int 5, .ref h0]) rfl ?_
  refine va_put (D := (dC, dI)) (ci := 1) (v := .int 5) (ty := .int) (C := R_TX) (T := T_TX) (N := 2) hx hb hts in_TX t_TX t_TX_ok n_TX hown hK hP hD hS 0 rfl rfl 1 (by decide) (hts _ k_37) (fun _ h9 => h9) rfl (by decide +kernel) rfl rfl (Nat.le_of_ble_eq_true rfl) d_TX_put_66 (fun H16 locs hP hD hS => ?_)
  have hP : va_P (dC, dI) cls [(h0, .inr (1, [.ref t0, .int 5])), (t0, .inl (cT, 300, .inl (upd (upd (upd (upd (upd (fun _ => (0 : Int32)) (0 : Int32).toNatClampNeg (vp_nar .byte (bc x 5).toInt8.toInt32)) (1 : Int32).toNatClampNeg (vp_nar .byte (bc x 4).toInt8.toInt32)) (2 : Int32).toNatClampNeg (vp_nar .byte (bc x 3).toInt8.toInt32)) (3 : Int32).toNatClampNeg (vp_nar .byte (bc x 2).toInt8.toInt32)) (4 : Int32).toNatClampNeg (vp_nar .byte (bc x 1).toInt8.toInt32))))] H16 := hP
  have hD : va_D A [(h0, .inr (1, [.ref t0, .int 5])), (t0, .inl (cT, 300, .inl (upd (upd (upd (upd (upd (fun _ => (0 : Int32)) (0 : Int32).toNatClampNeg (vp_nar .byte (bc x 5).toInt8.toInt32)) (1 : Int32).toNatClampNeg (vp_nar .byte (bc x 4).toInt8.toInt32)) (2 : Int32).toNatClampNeg (vp_nar .byte (bc x 3).toInt8.toInt32)) (3 : Int32).toNatClampNeg (vp_nar .byte (bc x 2).toInt8.toInt32)) (4 : Int32).toNatClampNeg (vp_nar .byte (bc x 1).toInt8.toInt32))))] := hD
  refine lv_iinc (k := 0) (v := 0) hx hb d_TX_put_69 hl rfl (by decide) (by decide) rfl (fun ls hl => ?_)
  have hl : lv_has ls 5 [(4, .int 0), (0, .ref h0), (1, .long x), (3, .int 6)] := hl
  refine lv_goto (tgt := 38) hx hb d_TX_put_72 (by decide) ?_
  refine lv_iload hx hb d_TX_put_38 (lv_at hl 0 rfl) ?_
  refine lv_if_lt (tgt := 75) hx hb d_TX_put_40 (by decide) (fun h9 => absurd h9 (by decide)) (fun _ => ?_)
  refine lv_aload_n hx hb d_TX_put_43 rfl (lv_at hl 1 rfl) ?_
  refine va_get (D := (dC, dI)) (ci := 1) (v := .ref t0) (C := R_TX) (T := T_TX) (N := 2) hx hb hts in_TX hown hK hP 0 rfl rfl 0 (by decide) (hts _ k_36) (fun _ h9 => h9) rfl d_TX_put_44 ?_
  refine lv_aload_n hx hb d_TX_put_47 rfl (lv_at hl 1 rfl) ?_
  refine va_get (D := (dC, dI)) (ci := 1) (v := .int 5) (C := R_TX) (T := T_TX) (N := 2) hx hb hts in_TX hown hK hP 0 rfl rfl 1 (by decide) (hts _ k_37) (fun _ h9 => h9) rfl d_TX_put_48 ?_
  refine lv_lload_n hx hb d_TX_put_51 rfl (lv_at hl 2 rfl) ?_
  refine lv_iload hx hb d_TX_put_52 (lv_at hl 0 rfl) ?_
  refine va_calli (va_runS (As := [.long x, .int 0]) (rest := [.int 5, .ref t0]) ⟨hx, hb, hml, hown, hts⟩ (c_TX_byteOf l dC dI (x) (0)) (wd_S 2 hts k_351 k_2 k_349 k_350 rfl rfl (by decide +kernel) ⟨Nat.le_of_ble_eq_true rfl, Nat.le_of_ble_eq_true rfl⟩) ⟨fun a U g mk q => by obtain ⟨q0, qP, qK, qN⟩ := q; exact ⟨q0, qP, va_K.moved (u := U) (U := U.calling g mk a) (Vm.Alike.refl U.vm) qK, nw_ok.same (s := U) (U := U.calling g mk a) rfl qN⟩, fun U hU hW => ⟨rfl, by rw [hU]; exact hP.sub (ws' := []) [] rfl, va_K.moved hW.alike (hK.sub (tys' := []) [] rfl), nw_ok.warm hW hN⟩⟩ rfl rfl hl.1 rfl (lv_room (Nat.le_of_ble_eq_true rfl)) d_TX_put_54 ⟨Nat.le_of_ble_eq_true rfl, Nat.le_of_ble_eq_true rfl⟩) hS (fun q _ h => h.elim) (fun q h => h.elim) (fun r7 u t H17 locs ht hvm hr7 hB hz1 hk1 hS => ?_)
  try dsimp only at hr7
  subst hr7
  have hP : va_P (dC, dI) cls [(h0, .inr (1, [.ref t0, .int 5])), (t0, .inl (cT, 300, .inl (upd (upd (upd (upd (upd (fun _ => (0 : Int32)) (0 : Int32).toNatClampNeg (vp_nar .byte (bc x 5).toInt8.toInt32)) (1 : Int32).toNatClampNeg (vp_nar .byte (bc x 4).toInt8.toInt32)) (2 : Int32).toNatClampNeg (vp_nar .byte (bc x 3).toInt8.toInt32)) (3 : Int32).toNatClampNeg (vp_nar .byte (bc x 2).toInt8.toInt32)) (4 : Int32).toNatClampNeg (vp_nar .byte (bc x 1).toInt8.toInt32))))] H17 := hP.kept (fun k q hq => hk1 q.1 (hP k q hq).lt id)
  have hP : va_P (dC, dI) cls [(h0, .inr (1, [.ref t0, .int 5])), (t0, .inl (cT, 300, .inl (upd (upd (upd (upd (upd (fun _ => (0 : Int32)) (0 : Int32).toNatClampNeg (vp_nar .byte (bc x 5).toInt8.toInt32)) (1 : Int32).toNatClampNeg (vp_nar .byte (bc x 4).toInt8.toInt32)) (2 : Int32).toNatClampNeg (vp_nar .byte (bc x 3).toInt8.toInt32)) (3 : Int32).toNatClampNeg (vp_nar .byte (bc x 2).toInt8.toInt32)) (4 : Int32).toNatClampNeg (vp_nar .byte (bc x 1).toInt8.toInt32))))] H17 := hP
  have hD : va_D A [(h0, .inr (1, [.ref t0, .int 5])), (t0, .inl (cT, 300, .inl (upd (upd (upd (upd (upd (fun _ => (0 : Int32)) (0 : Int32).toNatClampNeg (vp_nar .byte (bc x 5).toInt8.toInt32)) (1 : Int32).toNatClampNeg (vp_nar .byte (bc x 4).toInt8.toInt32)) (2 : Int32).toNatClampNeg (vp_nar .byte (bc x 3).toInt8.toInt32)) (3 : Int32).toNatClampNeg (vp_nar .byte (bc x 2).toInt8.toInt32)) (4 : Int32).toNatClampNeg (vp_nar .byte (bc x 1).toInt8.toInt32))))] := hD
  refine lv_i2b (v := (bc x 0).toInt8.toInt32) hx hb d_TX_put_57 rfl ?_
  refine va_bast hx hb hK hP hD hS 1 0 rfl rfl (show ¬ ((5 : Int32) < 0 ∨ 300 ≤ (5 : Int32).toNatClampNeg) from by decide) d_TX_put_58 (fun H18 locs hP hD hS => ?_)
  have hP : va_P (dC, dI) cls [(h0, .inr (1, [.ref t0, .int 5])), (t0, .inl (cT, 300, .inl (upd (upd (upd (upd (upd (upd (fun _ => (0 : Int32)) (0 : Int32).toNatClampNeg (vp_nar .byte (bc x 5).toInt8.toInt32)) (1 : Int32).toNatClampNeg (vp_nar .byte (bc x 4).toInt8.toInt32)) (2 : Int32).toNatClampNeg (vp_nar .byte (bc x 3).toInt8.toInt32)) (3 : Int32).toNatClampNeg (vp_nar .byte (bc x 2).toInt8.toInt32)) (4 : Int32).toNatClampNeg (vp_nar .byte (bc x 1).toInt8.toInt32)) (5 : Int32).toNatClampNeg (vp_nar .byte (bc x 0).toInt8.toInt32))))] H18 := hP
  have hD : va_D A [(h0, .inr (1, [.ref t0, .int 5])), (t0, .inl (cT, 300, .inl (upd (upd (upd (upd (upd (upd (fun _ => (0 : Int32)) (0 : Int32).toNatClampNeg (vp_nar .byte (bc x 5).toInt8.toInt32)) (1 : Int32).toNatClampNeg (vp_nar .byte (bc x 4).toInt8.toInt32)) (2 : Int32).toNatClampNeg (vp_nar .byte (bc x 3).toInt8.toInt32)) (3 : Int32).toNatClampNeg (vp_nar .byte (bc x 2).toInt8.toInt32)) (4 : Int32).toNatClampNeg (vp_nar .byte (bc x 1).toInt8.toInt32)) (5 : Int32).toNatClampNeg (vp_nar .byte (bc x 0).toInt8.toInt32))))] := hD
  refine lv_aload_n hx hb d_TX_put_59 rfl (lv_at hl 1 rfl) ?_
  refine lv_dup hx hb d_TX_put_60 rfl ?_
  refine va_get (D := (dC, dI)) (ci := 1) (v := .int 5) (C := R_TX) (T := T_TX) (N := 2) hx hb hts in_TX hown hK hP 0 rfl rfl 1 (by decide) (hts _ k_37) (fun _ h9 => h9) rfl d_TX_put_61 ?_
  refine lv_iconst (v := 1) hx hb d_TX_put_64 (by decide) ?_
  refine lv_iadd hx hb d_TX_put_65 ?_
  refine W.eq (g2 := F0 m 66 ls [.int 6, .ref h0]) rfl ?_
  refine va_put (D := (dC, dI)) (ci := 1) (v := .int 6) (ty := .int) (C := R_TX) (T := T_TX) (N := 2) hx hb hts in_TX t_TX t_TX_ok n_TX hown hK hP hD hS 0 rfl rfl 1 (by decide) (hts _ k_37) (fun _ h9 => h9) rfl (by decide +kernel) rfl rfl (Nat.le_of_ble_eq_true rfl) d_TX_put_66 (fun H19 locs hP hD hS => ?_)
  have hP : va_P (dC, dI) cls [(h0, .inr (1, [.ref t0, .int 6])), (t0, .inl (cT, 300, .inl (upd (upd (upd (upd (upd (upd (fun _ => (0 : Int32)) (0 : Int32).toNatClampNeg (vp_nar .byte (bc x 5).toInt8.toInt32)) (1 : Int32).toNatClampNeg (vp_nar .byte (bc x 4).toInt8.toInt32)) (2 : Int32).toNatClampNeg (vp_nar .byte (bc x 3).toInt8.toInt32)) (3 : Int32).toNatClampNeg (vp_nar .byte (bc x 2).toInt8.toInt32)) (4 : Int32).toNatClampNeg (vp_nar .byte (bc x 1).toInt8.toInt32)) (5 : Int32).toNatClampNeg (vp_nar .byte (bc x 0).toInt8.toInt32))))] H19 := hP
  have hD : va_D A [(h0, .inr (1, [.ref t0, .int 6])), (t0, .inl (cT, 300, .inl (upd (upd (upd (upd (upd (upd (fun _ => (0 : Int32)) (0 : Int32).toNatClampNeg (vp_nar .byte (bc x 5).toInt8.toInt32)) (1 : Int32).toNatClampNeg (vp_nar .byte (bc x 4).toInt8.toInt32)) (2 : Int32).toNatClampNeg (vp_nar .byte (bc x 3).toInt8.toInt32)) (3 : Int32).toNatClampNeg (vp_nar .byte (bc x 2).toInt8.toInt32)) (4 : Int32).toNatClampNeg (vp_nar .byte (bc x 1).toInt8.toInt32)) (5 : Int32).toNatClampNeg (vp_nar .byte (bc x 0).toInt8.toInt32))))] := hD
  refine lv_iinc (k := 0) (v := (-1)) hx hb d_TX_put_69 hl rfl (by decide) (by decide) rfl (fun ls hl => ?_)
  have hl : lv_has ls 5 [(4, .int (-1)), (0, .ref h0), (1, .long x), (3, .int 6)] := hl
  refine lv_goto (tgt := 38) hx hb d_TX_put_72 (by decide) ?_
  refine lv_iload hx hb d_TX_put_38 (lv_at hl 0 rfl) ?_
  refine lv_if_lt (tgt := 75) hx hb d_TX_put_40 (by decide) (fun _ => ?_) (fun h9 => absurd (by decide) h9)
  refine lv_iconst (v := 1) hx hb d_TX_put_75 (by decide) ?_
  have hP9 := hP.sub (ws' := [(h0, .inr (1, [.ref t0, .int 6]))]) [0] rfl
  have hD9 := hD.sub (ws' := [(h0, .inr (1, [.ref t0, .int 6]))]) [0] (by decide) rfl
  have hK9 := hK.sub (tys' := [(cT, .byte)]) [0] rfl
  exact W.zret (v := 1) (ty := .boolean) hx hb hr (by decide +kernel) (fun t ht hW => ⟨⟨1, (), rfl, rfl, by rw [ht]; exact hP9, va_K.moved hW.alike hK9, hD9⟩, hS.F ht⟩) hS.2.2 d_TX_put_76

set_option maxHeartbeats 4000000 in
set_option maxRecDepth 100000 in
theorem c_TX_put_7n (l : Launch) (dC : Nat → ClassId) (dI : Nat → Nat → Nat) (h0 : Nat) (t0 : Nat) (x : Int64) (g : ¬ (ok x 0 ∧ ok x 8 ∧ ok x 16 ∧ ok x 24 ∧ ok x 32 ∧ ok x 40 ∧ ok x 48)) : Met l y_TX_put (Cond.code y_TX_put b_TX_put 5 (Option.some Jvm.ClassFile.FieldType.boolean) :: wd) { frames := 2, cells := 0, slots := 0, locals := 46 } (va_Pc [.ref h0, .long x, .int 7] (fun U => va_P (dC, dI) cls [(h0, .inr (1, [.ref t0, .int 0]))] U.heap ∧ va_K (dC, dI) cls [] U ∧ nw_ok U)) (va_Qi (fun r (_ : Unit) => r = 0) (fun _ _ => True) (fun _ => False)) 0 0 (fun _ => False) := by
  refine Met.ofW (cc := b_TX_put) (maxL := 5) (ret := (Option.some Jvm.ClassFile.FieldType.boolean)) (by decide) rfl ?_
  intro p e s m args below meth c s₁ B hml hv
  obtain ⟨rfl, hP, hK, hN⟩ := hv
  have hx := B.exec
  have hb := B.bytes
  have hr := B.returns
  have hlocks := B.notSynchronized
  have hts : ∀ w ∈ wd, w.before ([.ref h0, .long x, .int 7] : List Value).toArray s = true := fun w hw => atoms_spec (ws := (Cond.code y_TX_put b_TX_put 5 (Option.some Jvm.ClassFile.FieldType.boolean) :: wd)) B.pre w (List.mem_cons_of_mem _ hw)
  have hown : s.vm.findClass "LeastSolutions$Text" = some m.cls := findClass_of_methodNamed B.named
  have hS : va_S (fun _ => False) s.heap s.heap [] := va_S.rf
  have hl := lv_entry ([.ref h0, .long x, .int 7]) (n := 5) (Nat.le_of_ble_eq_true rfl)
  rw [lg_entry_eq]
  generalize (lg_sl ([.ref h0, .long x, .int 7]) ++ List.replicate (5 - (lg_sl ([.ref h0, .long x, .int 7])).length) Slot.unset).toArray = ls at hl ⊢
  have hl : lv_has ls 5 [(0, .ref h0), (1, .long x), (3, .int 7)] := hl
  refine lv_iload_n hx hb d_TX_put_0 rfl (lv_at hl 2 rfl) ?_
  refine lv_iconst (v := 1) hx hb d_TX_put_1 (by decide) ?_
  refine lv_icmp_lt (tgt := 31) hx hb d_TX_put_2 (by decide) (fun h9 => absurd h9 (by decide)) (fun _ => ?_)
  refine lv_iload_n hx hb d_TX_put_5 rfl (lv_at hl 2 rfl) ?_
  refine lv_bipush (v := 8) hx hb d_TX_put_6 (by decide) ?_
  refine lv_icmp_gt (tgt := 31) hx hb d_TX_put_8 (by decide) (fun h9 => absurd h9 (by decide)) (fun _ => ?_)
  refine lv_aload_n hx hb d_TX_put_11 rfl (lv_at hl 0 rfl) ?_
  refine va_get (D := (dC, dI)) (ci := 1) (v := .int 0) (C := R_TX) (T := T_TX) (N := 2) hx hb hts in_TX hown hK hP 0 rfl rfl 1 (by decide) (hts _ k_37) (fun _ h9 => h9) rfl d_TX_put_12 ?_
  refine lv_iload_n hx hb d_TX_put_15 rfl (lv_at hl 2 rfl) ?_
  refine lv_iadd hx hb d_TX_put_16 ?_
  refine W.eq (g2 := F0 m 17 ls [.int 7]) rfl ?_
  refine lv_sipush (v := 300) hx hb d_TX_put_17 (by decide) ?_
  refine lv_icmp_gt (tgt := 31) hx hb d_TX_put_20 (by decide) (fun h9 => absurd h9 (by decide)) (fun _ => ?_)
  refine lv_lload_n hx hb d_TX_put_23 rfl (lv_at hl 1 rfl) ?_
  refine lv_iload_n hx hb d_TX_put_24 rfl (lv_at hl 2 rfl) ?_
  refine pu_calli (va_runS (As := [.long x, .int 7]) (rest := []) ⟨hx, hb, hml, hown, hts⟩ (c_TX_areTypable_7n l dC dI (x) (g)) (wd_S 2 hts k_348 k_2 k_346 k_347 rfl rfl (by decide +kernel) ⟨Nat.le_of_ble_eq_true rfl, Nat.le_of_ble_eq_true rfl⟩) ⟨fun a U g mk q => by obtain ⟨q0, qP, qK, qN⟩ := q; exact ⟨q0, qP, va_K.moved (u := U) (U := U.calling g mk a) (Vm.Alike.refl U.vm) qK, nw_ok.same (s := U) (U := U.calling g mk a) rfl qN⟩, fun U hU hW => ⟨rfl, by rw [hU]; exact hP.sub (ws' := []) [] rfl, va_K.moved hW.alike (hK.sub (tys' := []) [] rfl), nw_ok.warm hW hN⟩⟩ rfl rfl hl.1 rfl (lv_room (Nat.le_of_ble_eq_true rfl)) d_TX_put_25 ⟨Nat.le_of_ble_eq_true rfl, Nat.le_of_ble_eq_true rfl⟩) (fun r1 hr1 => ?_)
  try dsimp only at hr1
  subst hr1
  refine lv_if_ne (tgt := 33) hx hb d_TX_put_28 (by decide) (fun h9 => absurd (by decide) h9) (fun _ => ?_)
  refine lv_iconst (v := 0) hx hb d_TX_put_31 (by decide) ?_
  exact W.zret (v := 0) (ty := .boolean) hx hb hr (by decide +kernel) (fun t ht hW => ⟨⟨0, (), rfl, rfl, trivial⟩, hS.F ht⟩) hS.2.2 d_TX_put_32

set_option maxHeartbeats 4000000 in
set_option maxRecDepth 100000 in
theorem c_TX_put_7y (l : Launch) (dC : Nat → ClassId) (dI : Nat → Nat → Nat) (h0 : Nat) (t0 : Nat) (cT : ClassId) (x : Int64) (sz : Nat) (g : ok x 0 ∧ ok x 8 ∧ ok x 16 ∧ ok x 24 ∧ ok x 32 ∧ ok x 40 ∧ ok x 48) : Met l y_TX_put (Cond.code y_TX_put b_TX_put 5 (Option.some Jvm.ClassFile.FieldType.boolean) :: wd) { frames := 2, cells := 0, slots := 0, locals := 46 } (va_Pc [.ref h0, .long x, .int 7] (fun U => U.heap.size = sz ∧ va_P (dC, dI) cls [(h0, .inr (1, [.ref t0, .int 0])), (t0, .inl (cT, 300, .inl (fun _ => (0 : Int32))))] U.heap ∧ va_K (dC, dI) cls [(cT, .byte)] U ∧ va_D (fun _ => True) [(h0, .inr (1, [.ref t0, .int 0])), (t0, .inl (cT, 300, .inl (fun _ => (0 : Int32))))] ∧ nw_ok U)) (va_Qi (fun r (_ : Unit) => r = 1) (fun (_ : Unit) t => va_P (dC, dI) cls [(h0, .inr (1, [.ref t0, .int 7]))] t.heap ∧ va_K (dC, dI) cls [(cT, .byte)] t ∧ va_D (va_A [(h0, .inr (1, [.ref t0, .int 0])), (t0, .inl (cT, 300, .inl (fun _ => (0 : Int32))))] sz) [(h0, .inr (1, [.ref t0, .int 7]))]) (va_A [(h0, .inr (1, [.ref t0, .int 0])), (t0, .inl (cT, 300, .inl (fun _ => (0 : Int32))))] sz)) 0 0 (va_A [(h0, .inr (1, [.ref t0, .int 0])), (t0, .inl (cT, 300, .inl (fun _ => (0 : Int32))))] sz) := by
  refine Met.ofW (cc := b_TX_put) (maxL := 5) (ret := (Option.some Jvm.ClassFile.FieldType.boolean)) (by decide) rfl ?_
  intro p e s m args below meth c s₁ B hml hv
  obtain ⟨rfl, hsz, hP, hK, hD0, hN⟩ := hv
  have hx := B.exec
  have hb := B.bytes
  have hr := B.returns
  have hlocks := B.notSynchronized
  have hts : ∀ w ∈ wd, w.before ([.ref h0, .long x, .int 7] : List Value).toArray s = true := fun w hw => atoms_spec (ws := (Cond.code y_TX_put b_TX_put 5 (Option.some Jvm.ClassFile.FieldType.boolean) :: wd)) B.pre w (List.mem_cons_of_mem _ hw)
  have hown : s.vm.findClass "LeastSolutions$Text" = some m.cls := findClass_of_methodNamed B.named
  subst hsz
  have hD := hD0.self (sz := s.heap.size)
  generalize hAe : va_A [(h0, .inr (1, [.ref t0, .int 0])), (t0, .inl (cT, 300, .inl (fun _ => (0 : Int32))))] s.heap.size = A at hD ⊢
  have hA : ∀ q : Nat, s.heap.size ≤ q → A q := fun q h => by rw [← hAe]; exact Or.inr h
  have hS : va_S A s.heap s.heap [] := va_S.rf
  have hl := lv_entry ([.ref h0, .long x, .int 7]) (n := 5) (Nat.le_of_ble_eq_true rfl)
  rw [lg_entry_eq]
  generalize (lg_sl ([.ref h0, .long x, .int 7]) ++ List.replicate (5 - (lg_sl ([.ref h0, .long x, .int 7])).length) Slot.unset).toArray = ls at hl ⊢
  have hl : lv_has ls 5 [(0, .ref h0), (1, .long x), (3, .int 7)] := hl
  refine lv_iload_n hx hb d_TX_put_0 rfl (lv_at hl 2 rfl) ?_
  refine lv_iconst (v := 1) hx hb d_TX_put_1 (by decide) ?_
  refine lv_icmp_lt (tgt := 31) hx hb d_TX_put_2 (by decide) (fun h9 => absurd h9 (by decide)) (fun _ => ?_)
  refine lv_iload_n hx hb d_TX_put_5 rfl (lv_at hl 2 rfl) ?_
  refine lv_bipush (v := 8) hx hb d_TX_put_6 (by decide) ?_
  refine lv_icmp_gt (tgt := 31) hx hb d_TX_put_8 (by decide) (fun h9 => absurd h9 (by decide)) (fun _ => ?_)
  refine lv_aload_n hx hb d_TX_put_11 rfl (lv_at hl 0 rfl) ?_
  refine va_get (D := (dC, dI)) (ci := 1) (v := .int 0) (C := R_TX) (T := T_TX) (N := 2) hx hb hts in_TX hown hK hP 0 rfl rfl 1 (by decide) (hts _ k_37) (fun _ h9 => h9) rfl d_TX_put_12 ?_
  refine lv_iload_n hx hb d_TX_put_15 rfl (lv_at hl 2 rfl) ?_
  refine lv_iadd hx hb d_TX_put_16 ?_
  refine W.eq (g2 := F0 m 17 ls [.int 7]) rfl ?_
  refine lv_sipush (v := 300) hx hb d_TX_put_17 (by decide) ?_
  refine lv_icmp_gt (tgt := 31) hx hb d_TX_put_20 (by decide) (fun h9 => absurd h9 (by decide)) (fun _ => ?_)
  refine lv_lload_n hx hb d_TX_put_23 rfl (lv_at hl 1 rfl) ?_
  refine lv_iload_n hx hb d_TX_put_24 rfl (lv_at hl 2 rfl) ?_
  refine va_calli (va_runS (As := [.long x, .int 7]) (rest := []) ⟨hx, hb, hml, hown, hts⟩ (c_TX_areTypable_7y l dC dI (x) (g)) (wd_S 2 hts k_348 k_2 k_346 k_347 rfl rfl (by decide +kernel) ⟨Nat.le_of_ble_eq_true rfl, Nat.le_of_ble_eq_true rfl⟩) ⟨fun a U g mk q => by obtain ⟨q0, qP, qK, qN⟩ := q; exact ⟨q0, qP, va_K.moved (u := U) (U := U.calling g mk a) (Vm.Alike.refl U.vm) qK, nw_ok.same (s := U) (U := U.calling g mk a) rfl qN⟩, fun U hU hW => ⟨rfl, by rw [hU]; exact hP.sub (ws' := []) [] rfl, va_K.moved hW.alike (hK.sub (tys' := []) [] rfl), nw_ok.warm hW hN⟩⟩ rfl rfl hl.1 rfl (lv_room (Nat.le_of_ble_eq_true rfl)) d_TX_put_25 ⟨Nat.le_of_ble_eq_true rfl, Nat.le_of_ble_eq_true rfl⟩) hS (fun q _ h => h.elim) (fun q h => h.elim) (fun r1 u t H1 locs ht hvm hr1 hB hz1 hk1 hS => ?_)
  try dsimp only at hr1
  subst hr1
  have hP : va_P (dC, dI) cls [(h0, .inr (1, [.ref t0, .int 0])), (t0, .inl (cT, 300, .inl (fun _ => (0 : Int32))))] H1 := hP.kept (fun k q hq => hk1 q.1 (hP k q hq).lt id)
  have hP : va_P (dC, dI) cls [(h0, .inr (1, [.ref t0, .int 0])), (t0, .inl (cT, 300, .inl (fun _ => (0 : Int32))))] H1 := hP
  have hD : va_D A [(h0, .inr (1, [.ref t0, .int 0])), (t0, .inl (cT, 300, .inl (fun _ => (0 : Int32))))] := hD
  refine lv_if_ne (tgt := 33) hx hb d_TX_put_28 (by decide) (fun _ => ?_) (fun h9 => absurd h9 (by decide))
  refine lv_iload_n hx hb d_TX_put_33 rfl (lv_at hl 2 rfl) ?_
  refine lv_iconst (v := 1) hx hb d_TX_put_34 (by decide) ?_
  refine lv_isub hx hb d_TX_put_35 ?_
  refine W.eq (g2 := F0 m 36 ls [.int 6]) rfl ?_
  refine lv_istore hx hb d_TX_put_36 hl (by decide) rfl (fun ls hl => ?_)
  have hl : lv_has ls 5 [(4, .int 6), (0, .ref h0), (1, .long x), (3, .int 7)] := hl
  refine lv_iload hx hb d_TX_put_38 (lv_at hl 0 rfl) ?_
  refine lv_if_lt (tgt := 75) hx hb d_TX_put_40 (by decide) (fun h9 => absurd h9 (by decide)) (fun _ => ?_)
  refine lv_aload_n hx hb d_TX_put_43 rfl (lv_at hl 1 rfl) ?_
  refine va_get (D := (dC, dI)) (ci := 1) (v := .ref t0) (C := R_TX) (T := T_TX) (N := 2) hx hb hts in_TX hown hK hP 0 rfl rfl 0 (by decide) (hts _ k_36) (fun _ h9 => h9) rfl d_TX_put_44 ?_
  refine lv_aload_n hx hb d_TX_put_47 rfl (lv_at hl 1 rfl) ?_
  refine va_get (D := (dC, dI)) (ci := 1) (v := .int 0) (C := R_TX) (T := T_TX) (N := 2) hx hb hts in_TX hown hK hP 0 rfl rfl 1 (by decide) (hts _ k_37) (fun _ h9 => h9) rfl d_TX_put_48 ?_
  refine lv_lload_n hx hb d_TX_put_51 rfl (lv_at hl 2 rfl) ?_
  refine lv_iload hx hb d_TX_put_52 (lv_at hl 0 rfl) ?_
  refine va_calli (va_runS (As := [.long x, .int 6]) (rest := [.int 0, .ref t0]) ⟨hx, hb, hml, hown, hts⟩ (c_TX_byteOf l dC dI (x) (6)) (wd_S 2 hts k_351 k_2 k_349 k_350 rfl rfl (by decide +kernel) ⟨Nat.le_of_ble_eq_true rfl, Nat.le_of_ble_eq_true rfl⟩) ⟨fun a U g mk q => by obtain ⟨q0, qP, qK, qN⟩ := q; exact ⟨q0, qP, va_K.moved (u := U) (U := U.calling g mk a) (Vm.Alike.refl U.vm) qK, nw_ok.same (s := U) (U := U.calling g mk a) rfl qN⟩, fun U hU hW => ⟨rfl, by rw [hU]; exact hP.sub (ws' := []) [] rfl, va_K.moved hW.alike (hK.sub (tys' := []) [] rfl), nw_ok.warm hW hN⟩⟩ rfl rfl hl.1 rfl (lv_room (Nat.le_of_ble_eq_true rfl)) d_TX_put_54 ⟨Nat.le_of_ble_eq_true rfl, Nat.le_of_ble_eq_true rfl⟩) hS (fun q _ h => h.elim) (fun q h => h.elim) (fun r2 u t H2 locs ht hvm hr2 hB hz1 hk1 hS => ?_)
  try dsimp only at hr2
  subst hr2
  have hP : va_P (dC, dI) cls [(h0, .inr (1, [.ref t0, .int 0])), (t0, .inl (cT, 300, .inl (fun _ => (0 : Int32))))] H2 := hP.kept (fun k q hq => hk1 q.1 (hP k q hq).lt id)
  have hP : va_P (dC, dI) cls [(h0, .inr (1, [.ref t0, .int 0])), (t0, .inl (cT, 300, .inl (fun _ => (0 : Int32))))] H2 := hP
  have hD : va_D A [(h0, .inr (1, [.ref t0, .int 0])), (t0, .inl (cT, 300, .inl (fun _ => (0 : Int32))))] := hD
  refine lv_i2b (v := (bc x 6).toInt8.toInt32) hx hb d_TX_put_57 rfl ?_
  refine va_bast hx hb hK hP hD hS 1 0 rfl rfl (show ¬ ((0 : Int32) < 0 ∨ 300 ≤ (0 : Int32).toNatClampNeg) from by decide) d_TX_put_58 (fun H3 locs hP hD hS => ?_)
  have hP : va_P (dC, dI) cls [(h0, .inr (1, [.ref t0, .int 0])), (t0, .inl (cT, 300, .inl (upd (fun _ => (0 : Int32)) (0 : Int32).toNatClampNeg (vp_nar .byte (bc x 6).toInt8.toInt32))))] H3 := hP
  have hD : va_D A [(h0, .inr (1, [.ref t0, .int 0])), (t0, .inl (cT, 300, .inl (upd (fun _ => (0 : Int32)) (0 : Int32).toNatClampNeg (vp_nar .byte (bc x 6).toInt8.toInt32))))] := hD
  refine lv_aload_n hx hb d_TX_put_59 rfl (lv_at hl 1 rfl) ?_
  refine lv_dup hx hb d_TX_put_60 rfl ?_
  refine va_get (D := (dC, dI)) (ci := 1) (v := .int 0) (C := R_TX) (T := T_TX) (N := 2) hx hb hts in_TX hown hK hP 0 rfl rfl 1 (by decide) (hts _ k_37) (fun _ h9 => h9) rfl d_TX_put_61 ?_
  refine lv_iconst (v := 1) hx hb d_TX_put_64 (by decide) ?_
  refine lv_iadd hx hb d_TX_put_65 ?_
  refine W.eq (g2 := F0 m 66 ls [.int 1, .ref h0]) rfl ?_
  refine va_put (D := (dC, dI)) (ci := 1) (v := .int 1) (ty := .int) (C := R_TX) (T := T_TX) (N := 2) hx hb hts in_TX t_TX t_TX_ok n_TX hown hK hP hD hS 0 rfl rfl 1 (by decide) (hts _ k_37) (fun _ h9 => h9) rfl (by decide +kernel) rfl rfl (Nat.le_of_ble_eq_true rfl) d_TX_put_66 (fun H4 locs hP hD hS => ?_)
  have hP : va_P (dC, dI) cls [(h0, .inr (1, [.ref t0, .int 1])), (t0, .inl (cT, 300, .inl (upd (fun _ => (0 : Int32)) (0 : Int32).toNatClampNeg (vp_nar .byte (bc x 6).toInt8.toInt32))))] H4 := hP
  have hD : va_D A [(h0, .inr (1, [.ref t0, .int 1])), (t0, .inl (cT, 300, .inl (upd (fun _ => (0 : Int32)) (0 : Int32).toNatClampNeg (vp_nar .byte (bc x 6).toInt8.toInt32))))] := hD
  refine lv_iinc (k := 0) (v := 5) hx hb d_TX_put_69 hl rfl (by decide) (by decide) rfl (fun ls hl => ?_)
  have hl : lv_has ls 5 [(4, .int 5), (0, .ref h0), (1, .long x), (3, .int 7)] := hl
  refine lv_goto (tgt := 38) hx hb d_TX_put_72 (by decide) ?_
  refine lv_iload hx hb d_TX_put_38 (lv_at hl 0 rfl) ?_
  refine lv_if_lt (tgt := 75) hx hb d_TX_put_40 (by decide) (fun h9 => absurd h9 (by decide)) (fun _ => ?_)
  refine lv_aload_n hx hb d_TX_put_43 rfl (lv_at hl 1 rfl) ?_
  refine va_get (D := (dC, dI)) (ci := 1) (v := .ref t0) (C := R_TX) (T := T_TX) (N := 2) hx hb hts in_TX hown hK hP 0 rfl rfl 0 (by decide) (hts _ k_36) (fun _ h9 => h9) rfl d_TX_put_44 ?_
  refine lv_aload_n hx hb d_TX_put_47 rfl (lv_at hl 1 rfl) ?_
  refine va_get (D := (dC, dI)) (ci := 1) (v := .int 1) (C := R_TX) (T := T_TX) (N := 2) hx hb hts in_TX hown hK hP 0 rfl rfl 1 (by decide) (hts _ k_37) (fun _ h9 => h9) rfl d_TX_put_48 ?_
  refine lv_lload_n hx hb d_TX_put_51 rfl (lv_at hl 2 rfl) ?_
  refine lv_iload hx hb d_TX_put_52 (lv_at hl 0 rfl) ?_
  refine va_calli (va_runS (As := [.long x, .int 5]) (rest := [.int 1, .ref t0]) ⟨hx, hb, hml, hown, hts⟩ (c_TX_byteOf l dC dI (x) (5)) (wd_S 2 hts k_351 k_2 k_349 k_350 rfl rfl (by decide +kernel) ⟨Nat.le_of_ble_eq_true rfl, Nat.le_of_ble_eq_true rfl⟩) ⟨fun a U g mk q => by obtain ⟨q0, qP, qK, qN⟩ := q; exact ⟨q0, qP, va_K.moved (u := U) (U := U.calling g mk a) (Vm.Alike.refl U.vm) qK, nw_ok.same (s := U) (U := U.calling g mk a) rfl qN⟩, fun U hU hW => ⟨rfl, by rw [hU]; exact hP.sub (ws' := []) [] rfl, va_K.moved hW.alike (hK.sub (tys' := []) [] rfl), nw_ok.warm hW hN⟩⟩ rfl rfl hl.1 rfl (lv_room (Nat.le_of_ble_eq_true rfl)) d_TX_put_54 ⟨Nat.le_of_ble_eq_true rfl, Nat.le_of_ble_eq_true rfl⟩) hS (fun q _ h => h.elim) (fun q h => h.elim) (fun r3 u t H5 locs ht hvm hr3 hB hz1 hk1 hS => ?_)
  try dsimp only at hr3
  subst hr3
  have hP : va_P (dC, dI) cls [(h0, .inr (1, [.ref t0, .int 1])), (t0, .inl (cT, 300, .inl (upd (fun _ => (0 : Int32)) (0 : Int32).toNatClampNeg (vp_nar .byte (bc x 6).toInt8.toInt32))))] H5 := hP.kept (fun k q hq => hk1 q.1 (hP k q hq).lt id)
  have hP : va_P (dC, dI) cls [(h0, .inr (1, [.ref t0, .int 1])), (t0, .inl (cT, 300, .inl (upd (fun _ => (0 : Int32)) (0 : Int32).toNatClampNeg (vp_nar .byte (bc x 6).toInt8.toInt32))))] H5 := hP
  have hD : va_D A [(h0, .inr (1, [.ref t0, .int 1])), (t0, .inl (cT, 300, .inl (upd (fun _ => (0 : Int32)) (0 : Int32).toNatClampNeg (vp_nar .byte (bc x 6).toInt8.toInt32))))] := hD
  refine lv_i2b (v := (bc x 5).toInt8.toInt32) hx hb d_TX_put_57 rfl ?_
  refine va_bast hx hb hK hP hD hS 1 0 rfl rfl (show ¬ ((1 : Int32) < 0 ∨ 300 ≤ (1 : Int32).toNatClampNeg) from by decide) d_TX_put_58 (fun H6 locs hP hD hS => ?_)
  have hP : va_P (dC, dI) cls [(h0, .inr (1, [.ref t0, .int 1])), (t0, .inl (cT, 300, .inl (upd (upd (fun _ => (0 : Int32)) (0 : Int32).toNatClampNeg (vp_nar .byte (bc x 6).toInt8.toInt32)) (1 : Int32).toNatClampNeg (vp_nar .byte (bc x 5).toInt8.toInt32))))] H6 := hP
  have hD : va_D A [(h0, .inr (1, [.ref t0, .int 1])), (t0, .inl (cT, 300, .inl (upd (upd (fun _ => (0 : Int32)) (0 : Int32).toNatClampNeg (vp_nar .byte (bc x 6).toInt8.toInt32)) (1 : Int32).toNatClampNeg (vp_nar .byte (bc x 5).toInt8.toInt32))))] := hD
  refine lv_aload_n hx hb d_TX_put_59 rfl (lv_at hl 1 rfl) ?_
  refine lv_dup hx hb d_TX_put_60 rfl ?_
  refine va_get (D := (dC, dI)) (ci := 1) (v := .int 1) (C := R_TX) (T := T_TX) (N := 2) hx hb hts in_TX hown hK hP 0 rfl rfl 1 (by decide) (hts _ k_37) (fun _ h9 => h9) rfl d_TX_put_61 ?_
  refine lv_iconst (v := 1) hx hb d_TX_put_64 (by decide) ?_
  refine lv_iadd hx hb d_TX_put_65 ?_
  refine W.eq (g2 := F0 m 66 ls [.int 2, .ref h0]) rfl ?_
  refine va_put (D := (dC, dI)) (ci := 1) (v := .int 2) (ty := .int) (C := R_TX) (T := T_TX) (N := 2) hx hb hts in_TX t_TX t_TX_ok n_TX hown hK hP hD hS 0 rfl rfl 1 (by decide) (hts _ k_37) (fun _ h9 => h9) rfl (by decide +kernel) rfl rfl (Nat.le_of_ble_eq_true rfl) d_TX_put_66 (fun H7 locs hP hD hS => ?_)
  have hP : va_P (dC, dI) cls [(h0, .inr (1, [.ref t0, .int 2])), (t0, .inl (cT, 300, .inl (upd (upd (fun _ => (0 : Int32)) (0 : Int32).toNatClampNeg (vp_nar .byte (bc x 6).toInt8.toInt32)) (1 : Int32).toNatClampNeg (vp_nar .byte (bc x 5).toInt8.toInt32))))] H7 := hP
  have hD : va_D A [(h0, .inr (1, [.ref t0, .int 2])), (t0, .inl (cT, 300, .inl (upd (upd (fun _ => (0 : Int32)) (0 : Int32).toNatClampNeg (vp_nar .byte (bc x 6).toInt8.toInt32)) (1 : Int32).toNatClampNeg (vp_nar .byte (bc x 5).toInt8.toInt32))))] := hD
  refine lv_iinc (k := 0) (v := 4) hx hb d_TX_put_69 hl rfl (by decide) (by decide) rfl (fun ls hl => ?_)
  have hl : lv_has ls 5 [(4, .int 4), (0, .ref h0), (1, .long x), (3, .int 7)] := hl
  refine lv_goto (tgt := 38) hx hb d_TX_put_72 (by decide) ?_
  refine lv_iload hx hb d_TX_put_38 (lv_at hl 0 rfl) ?_
  refine lv_if_lt (tgt := 75) hx hb d_TX_put_40 (by decide) (fun h9 => absurd h9 (by decide)) (fun _ => ?_)
  refine lv_aload_n hx hb d_TX_put_43 rfl (lv_at hl 1 rfl) ?_
  refine va_get (D := (dC, dI)) (ci := 1) (v := .ref t0) (C := R_TX) (T := T_TX) (N := 2) hx hb hts in_TX hown hK hP 0 rfl rfl 0 (by decide) (hts _ k_36) (fun _ h9 => h9) rfl d_TX_put_44 ?_
  refine lv_aload_n hx hb d_TX_put_47 rfl (lv_at hl 1 rfl) ?_
  refine va_get (D := (dC, dI)) (ci := 1) (v := .int 2) (C := R_TX) (T := T_TX) (N := 2) hx hb hts in_TX hown hK hP 0 rfl rfl 1 (by decide) (hts _ k_37) (fun _ h9 => h9) rfl d_TX_put_48 ?_
  refine lv_lload_n hx hb d_TX_put_51 rfl (lv_at hl 2 rfl) ?_
  refine lv_iload hx hb d_TX_put_52 (lv_at hl 0 rfl) ?_
  refine va_calli (va_runS (As := [.long x, .int 4]) (rest := [.int 2, .ref t0]) ⟨hx, hb, hml, hown, hts⟩ (c_TX_byteOf l dC dI (x) (4)) (wd_S 2 hts k_351 k_2 k_349 k_350 rfl rfl (by decide +kernel) ⟨Nat.le_of_ble_eq_true rfl, Nat.le_of_ble_eq_true rfl⟩) ⟨fun a U g mk q => by obtain ⟨q0, qP, qK, qN⟩ := q; exact ⟨q0, qP, va_K.moved (u := U) (U := U.calling g mk a) (Vm.Alike.refl U.vm) qK, nw_ok.same (s := U) (U := U.calling g mk a) rfl qN⟩, fun U hU hW => ⟨rfl, by rw [hU]; exact hP.sub (ws' := []) [] rfl, va_K.moved hW.alike (hK.sub (tys' := []) [] rfl), nw_ok.warm hW hN⟩⟩ rfl rfl hl.1 rfl (lv_room (Nat.le_of_ble_eq_true rfl)) d_TX_put_54 ⟨Nat.le_of_ble_eq_true rfl, Nat.le_of_ble_eq_true rfl⟩) hS (fun q _ h => h.elim) (fun q h => h.elim) (fun r4 u t H8 locs ht hvm hr4 hB hz1 hk1 hS => ?_)
  try dsimp only at hr4
  subst hr4
  have hP : va_P (dC, dI) cls [(h0, .inr (1, [.ref t0, .int 2])), (t0, .inl (cT, 300, .inl (upd (upd (fun _ => (0 : Int32)) (0 : Int32).toNatClampNeg (vp_nar .byte (bc x 6).toInt8.toInt32)) (1 : Int32).toNatClampNeg (vp_nar .byte (bc x 5).toInt8.toInt32))))] H8 := hP.kept (fun k q hq => hk1 q.1 (hP k q hq).lt id)
  have hP : va_P (dC, dI) cls [(h0, .inr (1, [.ref t0, .int 2])), (t0, .inl (cT, 300, .inl (upd (upd (fun _ => (0 : Int32)) (0 : Int32).toNatClampNeg (vp_nar .byte (bc x 6).toInt8.toInt32)) (1 : Int32).toNatClampNeg (vp_nar .byte (bc x 5).toInt8.toInt32))))] H8 := hP
  have hD : va_D A [(h0, .inr (1, [.ref t0, .int 2])), (t0, .inl (cT, 300, .inl (upd (upd (fun _ => (0 : Int32)) (0 : Int32).toNatClampNeg (vp_nar .byte (bc x 6).toInt8.toInt32)) (1 : Int32).toNatClampNeg (vp_nar .byte (bc x 5).toInt8.toInt32))))] := hD
  refine lv_i2b (v := (bc x 4).toInt8.toInt32) hx hb d_TX_put_57 rfl ?_
  refine va_bast hx hb hK hP hD hS 1 0 rfl rfl (show ¬ ((2 : Int32) < 0 ∨ 300 ≤ (2 : Int32).toNatClampNeg) from by decide) d_TX_put_58 (fun H9 locs hP hD hS => ?_)
  have hP : va_P (dC, dI) cls [(h0, .inr (1, [.ref t0, .int 2])), (t0, .inl (cT, 300, .inl (upd (upd (upd (fun _ => (0 : Int32)) (0 : Int32).toNatClampNeg (vp_nar .byte (bc x 6).toInt8.toInt32)) (1 : Int32).toNatClampNeg (vp_nar .byte (bc x 5).toInt8.toInt32)) (2 : Int32).toNatClampNeg (vp_nar .byte (bc x 4).toInt8.toInt32))))] H9 := hP
  have hD : va_D A [(h0, .inr (1, [.ref t0, .int 2])), (t0, .inl (cT, 300, .inl (upd (upd (upd (fun _ => (0 : Int32)) (0 : Int32).toNatClampNeg (vp_nar .byte (bc x 6).toInt8.toInt32)) (1 : Int32).toNatClampNeg (vp_nar .byte (bc x 5).toInt8.toInt32)) (2 : Int32).toNatClampNeg (vp_nar .byte (bc x 4).toInt8.toInt32))))] := hD
  refine lv_aload_n hx hb d_TX_put_59 rfl (lv_at hl 1 rfl) ?_
  refine lv_dup hx hb d_TX_put_60 rfl ?_
  refine va_get (D := (dC, dI)) (ci := 1) (v := .int 2) (C := R_TX) (T := T_TX) (N := 2) hx hb hts in_TX hown hK hP 0 rfl rfl 1 (by decide) (hts _ k_37) (fun _ h9 => h9) rfl d_TX_put_61 ?_
  refine lv_iconst (v := 1) hx hb d_TX_put_64 (by decide) ?_
  refine lv_iadd hx hb d_TX_put_65 ?_
  refine W.eq (g2 := F0 m 66 ls [.int 3, .ref h0]) rfl ?_
  refine va_put (D := (dC, dI)) (ci := 1) (v := .int 3) (ty := .int) (C := R_TX) (T := T_TX) (N := 2) hx hb hts in_TX t_TX t_TX_ok n_TX hown hK hP hD hS 0 rfl rfl 1 (by decide) (hts _ k_37) (fun _ h9 => h9) rfl (by decide +kernel) rfl rfl (Nat.le_of_ble_eq_true rfl) d_TX_put_66 (fun H10 locs hP hD hS => ?_)
  have hP : va_P (dC, dI) cls [(h0, .inr (1, [.ref t0, .int 3])), (t0, .inl (cT, 300, .inl (upd (upd (upd (fun _ => (0 : Int32)) (0 : Int32).toNatClampNeg (vp_nar .byte (bc x 6).toInt8.toInt32)) (1 : Int32).toNatClampNeg (vp_nar .byte (bc x 5).toInt8.toInt32)) (2 : Int32).toNatClampNeg (vp_nar .byte (bc x 4).toInt8.toInt32))))] H10 := hP
  have hD : va_D A [(h0, .inr (1, [.ref t0, .int 3])), (t0, .inl (cT, 300, .inl (upd (upd (upd (fun _ => (0 : Int32)) (0 : Int32).toNatClampNeg (vp_nar .byte (bc x 6).toInt8.toInt32)) (1 : Int32).toNatClampNeg (vp_nar .byte (bc x 5).toInt8.toInt32)) (2 : Int32).toNatClampNeg (vp_nar .byte (bc x 4).toInt8.toInt32))))] := hD
  refine lv_iinc (k := 0) (v := 3) hx hb d_TX_put_69 hl rfl (by decide) (by decide) rfl (fun ls hl => ?_)
  have hl : lv_has ls 5 [(4, .int 3), (0, .ref h0), (1, .long x), (3, .int 7)] := hl
  refine lv_goto (tgt := 38) hx hb d_TX_put_72 (by decide) ?_
  refine lv_iload hx hb d_TX_put_38 (lv_at hl 0 rfl) ?_
  refine lv_if_lt (tgt := 75) hx hb d_TX_put_40 (by decide) (fun h9 => absurd h9 (by decide)) (fun _ => ?_)
  refine lv_aload_n hx hb d_TX_put_43 rfl (lv_at hl 1 rfl) ?_
  refine va_get (D := (dC, dI)) (ci := 1) (v := .ref t0) (C := R_TX) (T := T_TX) (N := 2) hx hb hts in_TX hown hK hP 0 rfl rfl 0 (by decide) (hts _ k_36) (fun _ h9 => h9) rfl d_TX_put_44 ?_
  refine lv_aload_n hx hb d_TX_put_47 rfl (lv_at hl 1 rfl) ?_
  refine va_get (D := (dC, dI)) (ci := 1) (v := .int 3) (C := R_TX) (T := T_TX) (N := 2) hx hb hts in_TX hown hK hP 0 rfl rfl 1 (by decide) (hts _ k_37) (fun _ h9 => h9) rfl d_TX_put_48 ?_
  refine lv_lload_n hx hb d_TX_put_51 rfl (lv_at hl 2 rfl) ?_
  refine lv_iload hx hb d_TX_put_52 (lv_at hl 0 rfl) ?_
  refine va_calli (va_runS (As := [.long x, .int 3]) (rest := [.int 3, .ref t0]) ⟨hx, hb, hml, hown, hts⟩ (c_TX_byteOf l dC dI (x) (3)) (wd_S 2 hts k_351 k_2 k_349 k_350 rfl rfl (by decide +kernel) ⟨Nat.le_of_ble_eq_true rfl, Nat.le_of_ble_eq_true rfl⟩) ⟨fun a U g mk q => by obtain ⟨q0, qP, qK, qN⟩ := q; exact ⟨q0, qP, va_K.moved (u := U) (U := U.calling g mk a) (Vm.Alike.refl U.vm) qK, nw_ok.same (s := U) (U := U.calling g mk a) rfl qN⟩, fun U hU hW => ⟨rfl, by rw [hU]; exact hP.sub (ws' := []) [] rfl, va_K.moved hW.alike (hK.sub (tys' := []) [] rfl), nw_ok.warm hW hN⟩⟩ rfl rfl hl.1 rfl (lv_room (Nat.le_of_ble_eq_true rfl)) d_TX_put_54 ⟨Nat.le_of_ble_eq_true rfl, Nat.le_of_ble_eq_true rfl⟩) hS (fun q _ h => h.elim) (fun q h => h.elim) (fun r5 u t H11 locs ht hvm hr5 hB hz1 hk1 hS => ?_)
  try dsimp only at hr5
  subst hr5
  have hP : va_P (dC, dI) cls [(h0, .inr (1, [.ref t0, .int 3])), (t0, .inl (cT, 300, .inl (upd (upd (upd (fun _ => (0 : Int32)) (0 : Int32).toNatClampNeg (vp_nar .byte (bc x 6).toInt8.toInt32)) (1 : Int32).toNatClampNeg (vp_nar .byte (bc x 5).toInt8.toInt32)) (2 : Int32).toNatClampNeg (vp_nar .byte (bc x 4).toInt8.toInt32))))] H11 := hP.kept (fun k q hq => hk1 q.1 (hP k q hq).lt id)
  have hP : va_P (dC, dI) cls [(h0, .inr (1, [.ref t0, .int 3])), (t0, .inl (cT, 300, .inl (upd (upd (upd (fun _ => (0 : Int32)) (0 : Int32).toNatClampNeg (vp_nar .byte (bc x 6).toInt8.toInt32)) (1 : Int32).toNatClampNeg (vp_nar .byte (bc x 5).toInt8.toInt32)) (2 : Int32).toNatClampNeg (vp_nar .byte (bc x 4).toInt8.toInt32))))] H11 := hP
  have hD : va_D A [(h0, .inr (1, [.ref t0, .int 3])), (t0, .inl (cT, 300, .inl (upd (upd (upd (fun _ => (0 : Int32)) (0 : Int32).toNatClampNeg (vp_nar .byte (bc x 6).toInt8.toInt32)) (1 : Int32).toNatClampNeg (vp_nar .byte (bc x 5).toInt8.toInt32)) (2 : Int32).toNatClampNeg (vp_nar .byte (bc x 4).toInt8.toInt32))))] := hD
  refine lv_i2b (v := (bc x 3).toInt8.toInt32) hx hb d_TX_put_57 rfl ?_
  refine va_bast hx hb hK hP hD hS 1 0 rfl rfl (show ¬ ((3 : Int32) < 0 ∨ 300 ≤ (3 : Int32).toNatClampNeg) from by decide) d_TX_put_58 (fun H12 locs hP hD hS => ?_)
  have hP : va_P (dC, dI) cls [(h0, .inr (1, [.ref t0, .int 3])), (t0, .inl (cT, 300, .inl (upd (upd (upd (upd (fun _ => (0 : Int32)) (0 : Int32).toNatClampNeg (vp_nar .byte (bc x 6).toInt8.toInt32)) (1 : Int32).toNatClampNeg (vp_nar .byte (bc x 5).toInt8.toInt32)) (2 : Int32).toNatClampNeg (vp_nar .byte (bc x 4).toInt8.toInt32)) (3 : Int32).toNatClampNeg (vp_nar .byte (bc x 3).toInt8.toInt32))))] H12 := hP
  have hD : va_D A [(h0, .inr (1, [.ref t0, .int 3])), (t0, .inl (cT, 300, .inl (upd (upd (upd (upd (fun _ => (0 : Int32)) (0 : Int32).toNatClampNeg (vp_nar .byte (bc x 6).toInt8.toInt32)) (1 : Int32).toNatClampNeg (vp_nar .byte (bc x 5).toInt8.toInt32)) (2 : Int32).toNatClampNeg (vp_nar .byte (bc x 4).toInt8.toInt32)) (3 : Int32).toNatClampNeg (vp_nar .byte (bc x 3).toInt8.toInt32))))] := hD
  refine lv_aload_n hx hb d_TX_put_59 rfl (lv_at hl 1 rfl) ?_
  refine lv_dup hx hb d_TX_put_60 rfl ?_
  refine va_get (D := (dC, dI)) (ci := 1) (v := .int 3) (C := R_TX) (T := T_TX) (N := 2) hx hb hts in_TX hown hK hP 0 rfl rfl 1 (by decide) (hts _ k_37) (fun _ h9 => h9) rfl d_TX_put_61 ?_
  refine lv_iconst (v := 1) hx hb d_TX_put_64 (by decide) ?_
  refine lv_iadd hx hb d_TX_put_65 ?_
  refine W.eq (g2 := F0 m 66 ls [.int 4, .ref h0]) rfl ?_
  refine va_put (D := (dC, dI)) (ci := 1) (v := .int 4) (ty := .int) (C := R_TX) (T := T_TX) (N := 2) hx hb hts in_TX t_TX t_TX_ok n_TX hown hK hP hD hS 0 rfl rfl 1 (by decide) (hts _ k_37) (fun _ h9 => h9) rfl (by decide +kernel) rfl rfl (Nat.le_of_ble_eq_true rfl) d_TX_put_66 (fun H13 locs hP hD hS => ?_)
  have hP : va_P (dC, dI) cls [(h0, .inr (1, [.ref t0, .int 4])), (t0, .inl (cT, 300, .inl (upd (upd (upd (upd (fun _ => (0 : Int32)) (0 : Int32).toNatClampNeg (vp_nar .byte (bc x 6).toInt8.toInt32)) (1 : Int32).toNatClampNeg (vp_nar .byte (bc x 5).toInt8.toInt32)) (2 : Int32).toNatClampNeg (vp_nar .byte (bc x 4).toInt8.toInt32)) (3 : Int32).toNatClampNeg (vp_nar .byte (bc x 3).toInt8.toInt32))))] H13 := hP
  have hD : va_D A [(h0, .inr (1, [.ref t0, .int 4])), (t0, .inl (cT, 300, .inl (upd (upd (upd (upd (fun _ => (0 : Int32)) (0 : Int32).toNatClampNeg (vp_nar .byte (bc x 6).toInt8.toInt32)) (1 : Int32).toNatClampNeg (vp_nar .byte (bc x 5).toInt8.toInt32)) (2 : Int32).toNatClampNeg (vp_nar .byte (bc x 4).toInt8.toInt32)) (3 : Int32).toNatClampNeg (vp_nar .byte (bc x 3).toInt8.toInt32))))] := hD
  refine lv_iinc (k := 0) (v := 2) hx hb d_TX_put_69 hl rfl (by decide) (by decide) rfl (fun ls hl => ?_)
  have hl : lv_has ls 5 [(4, .int 2), (0, .ref h0), (1, .long x), (3, .int 7)] := hl
  refine lv_goto (tgt := 38) hx hb d_TX_put_72 (by decide) ?_
  refine lv_iload hx hb d_TX_put_38 (lv_at hl 0 rfl) ?_
  refine lv_if_lt (tgt := 75) hx hb d_TX_put_40 (by decide) (fun h9 => absurd h9 (by decide)) (fun _ => ?_)
  refine lv_aload_n hx hb d_TX_put_43 rfl (lv_at hl 1 rfl) ?_
  refine va_get (D := (dC, dI)) (ci := 1) (v := .ref t0) (C := R_TX) (T := T_TX) (N := 2) hx hb hts in_TX hown hK hP 0 rfl rfl 0 (by decide) (hts _ k_36) (fun _ h9 => h9) rfl d_TX_put_44 ?_
  refine lv_aload_n hx hb d_TX_put_47 rfl (lv_at hl 1 rfl) ?_
  refine va_get (D := (dC, dI)) (ci := 1) (v := .int 4) (C := R_TX) (T := T_TX) (N := 2) hx hb hts in_TX hown hK hP 0 rfl rfl 1 (by decide) (hts _ k_37) (fun _ h9 => h9) rfl d_TX_put_48 ?_
  refine lv_lload_n hx hb d_TX_put_51 rfl (lv_at hl 2 rfl) ?_
  refine lv_iload hx hb d_TX_put_52 (lv_at hl 0 rfl) ?_
  refine va_calli (va_runS (As := [.long x, .int 2]) (rest := [.int 4, .ref t0]) ⟨hx, hb, hml, hown, hts⟩ (c_TX_byteOf l dC dI (x) (2)) (wd_S 2 hts k_351 k_2 k_349 k_350 rfl rfl (by decide +kernel) ⟨Nat.le_of_ble_eq_true rfl, Nat.le_of_ble_eq_true rfl⟩) ⟨fun a U g mk q => by obtain ⟨q0, qP, qK, qN⟩ := q; exact ⟨q0, qP, va_K.moved (u := U) (U := U.calling g mk a) (Vm.Alike.refl U.vm) qK, nw_ok.same (s := U) (U := U.calling g mk a) rfl qN⟩, fun U hU hW => ⟨rfl, by rw [hU]; exact hP.sub (ws' := []) [] rfl, va_K.moved hW.alike (hK.sub (tys' := []) [] rfl), nw_ok.warm hW hN⟩⟩ rfl rfl hl.1 rfl (lv_room (Nat.le_of_ble_eq_true rfl)) d_TX_put_54 ⟨Nat.le_of_ble_eq_true rfl, Nat.le_of_ble_eq_true rfl⟩) hS (fun q _ h => h.elim) (fun q h => h.elim) (fun r6 u t H14 locs ht hvm hr6 hB hz1 hk1 hS => ?_)
  try dsimp only at hr6
  subst hr6
  have hP : va_P (dC, dI) cls [(h0, .inr (1, [.ref t0, .int 4])), (t0, .inl (cT, 300, .inl (upd (upd (upd (upd (fun _ => (0 : Int32)) (0 : Int32).toNatClampNeg (vp_nar .byte (bc x 6).toInt8.toInt32)) (1 : Int32).toNatClampNeg (vp_nar .byte (bc x 5).toInt8.toInt32)) (2 : Int32).toNatClampNeg (vp_nar .byte (bc x 4).toInt8.toInt32)) (3 : Int32).toNatClampNeg (vp_nar .byte (bc x 3).toInt8.toInt32))))] H14 := hP.kept (fun k q hq => hk1 q.1 (hP k q hq).lt id)
  have hP : va_P (dC, dI) cls [(h0, .inr (1, [.ref t0, .int 4])), (t0, .inl (cT, 300, .inl (upd (upd (upd (upd (fun _ => (0 : Int32)) (0 : Int32).toNatClampNeg (vp_nar .byte (bc x 6).toInt8.toInt32)) (1 : Int32).toNatClampNeg (vp_nar .byte (bc x 5).toInt8.toInt32)) (2 : Int32).toNatClampNeg (vp_nar .byte (bc x 4).toInt8.toInt32)) (3 : Int32).toNatClampNeg (vp_nar .byte (bc x 3).toInt8.toInt32))))] H14 := hP
  have hD : va_D A [(h0, .inr (1, [.ref t0, .int 4])), (t0, .inl (cT, 300, .inl (upd (upd (upd (upd (fun _ => (0 : Int32)) (0 : Int32).toNatClampNeg (vp_nar .byte (bc x 6).toInt8.toInt32)) (1 : Int32).toNatClampNeg (vp_nar .byte (bc x 5).toInt8.toInt32)) (2 : Int32).toNatClampNeg (vp_nar .byte (bc x 4).toInt8.toInt32)) (3 : Int32).toNatClampNeg (vp_nar .byte (bc x 3).toInt8.toInt32))))] := hD
  refine lv_i2b (v := (bc x 2).toInt8.toInt32) hx hb d_TX_put_57 rfl ?_
  refine va_bast hx hb hK hP hD hS 1 0 rfl rfl (show ¬ ((4 : Int32) < 0 ∨ 300 ≤ (4 : Int32).toNatClampNeg) from by decide) d_TX_put_58 (fun H15 locs hP hD hS => ?_)
  have hP : va_P (dC, dI) cls [(h0, .inr (1, [.ref t0, .int 4])), (t0, .inl (cT, 300, .inl (upd (upd (upd (upd (upd (fun _ => (0 : Int32)) (0 : Int32).toNatClampNeg (vp_nar .byte (bc x 6).toInt8.toInt32)) (1 : Int32).toNatClampNeg (vp_nar .byte (bc x 5).toInt8.toInt32)) (2 : Int32).toNatClampNeg (vp_nar .byte (bc x 4).toInt8.toInt32)) (3 : Int32).toNatClampNeg (vp_nar .byte (bc x 3).toInt8.toInt32)) (4 : Int32).toNatClampNeg (vp_nar .byte (bc x 2).toInt8.toInt32))))] H15 := hP
  have hD : va_D A [(h0, .inr (1, [.ref t0, .int 4])), (t0, .inl (cT, 300, .inl (upd (upd (upd (upd (upd (fun _ => (0 : Int32)) (0 : Int32).toNatClampNeg (vp_nar .byte (bc x 6).toInt8.toInt32)) (1 : Int32).toNatClampNeg (vp_nar .byte (bc x 5).toInt8.toInt32)) (2 : Int32).toNatClampNeg (vp_nar .byte (bc x 4).toInt8.toInt32)) (3 : Int32).toNatClampNeg (vp_nar .byte (bc x 3).toInt8.toInt32)) (4 : Int32).toNatClampNeg (vp_nar .byte (bc x 2).toInt8.toInt32))))] := hD
  refine lv_aload_n hx hb d_TX_put_59 rfl (lv_at hl 1 rfl) ?_
  refine lv_dup hx hb d_TX_put_60 rfl ?_
  refine va_get (D := (dC, dI)) (ci := 1) (v := .int 4) (C := R_TX) (T := T_TX) (N := 2) hx hb hts in_TX hown hK hP 0 rfl rfl 1 (by decide) (hts _ k_37) (fun _ h9 => h9) rfl d_TX_put_61 ?_
  refine lv_iconst (v := 1) hx hb d_TX_put_64 (by decide) ?_
  refine lv_iadd hx hb d_TX_put_65 ?_
  refine W.eq (g2 := F0 m 66 ls [.int 5, .ref h0]) rfl ?_
  refine va_put (D := (dC, dI)) (ci := 1) (v := .int 5) (ty := .int) (C := R_TX) (T := T_TX) (N := 2) hx hb hts in_TX t_TX t_TX_ok n_TX hown hK hP hD hS 0 rfl rfl 1 (by decide) (hts _ k_37) (fun _ h9 => h9) rfl (by decide +kernel) rfl rfl (Nat.le_of_ble_eq_true rfl) d_TX_put_66 (fun H16 locs hP hD hS => ?_)
  have hP : va_P (dC, dI) cls [(h0, .inr (1, [.ref t0, .int 5])), (t0, .inl (cT, 300, .inl (upd (upd (upd (upd (upd (fun _ => (0 : Int32)) (0 : Int32).toNatClampNeg (vp_nar .byte (bc x 6).toInt8.toInt32)) (1 : Int32).toNatClampNeg (vp_nar .byte (bc x 5).toInt8.toInt32)) (2 : Int32).toNatClampNeg (vp_nar .byte (bc x 4).toInt8.toInt32)) (3 : Int32).toNatClampNeg (vp_nar .byte (bc x 3).toInt8.toInt32)) (4 : Int32).toNatClampNeg (vp_nar .byte (bc x 2).toInt8.toInt32))))] H16 := hP
  have hD : va_D A [(h0, .inr (1, [.ref t0, .int 5])), (t0, .inl (cT, 300, .inl (upd (upd (upd (upd (upd (fun _ => (0 : Int32)) (0 : Int32).toNatClampNeg (vp_nar .byte (bc x 6).toInt8.toInt32)) (1 : Int32).toNatClampNeg (vp_nar .byte (bc x 5).toInt8.toInt32)) (2 : Int32).toNatClampNeg (vp_nar .byte (bc x 4).toInt8.toInt32)) (3 : Int32).toNatClampNeg (vp_nar .byte (bc x 3).toInt8.toInt32)) (4 : Int32).toNatClampNeg (vp_nar .byte (bc x 2).toInt8.toInt32))))] := hD
  refine lv_iinc (k := 0) (v := 1) hx hb d_TX_put_69 hl rfl (by decide) (by decide) rfl (fun ls hl => ?_)
  have hl : lv_has ls 5 [(4, .int 1), (0, .ref h0), (1, .long x), (3, .int 7)] := hl
  refine lv_goto (tgt := 38) hx hb d_TX_put_72 (by decide) ?_
  refine lv_iload hx hb d_TX_put_38 (lv_at hl 0 rfl) ?_
  refine lv_if_lt (tgt := 75) hx hb d_TX_put_40 (by decide) (fun h9 => absurd h9 (by decide)) (fun _ => ?_)
  refine lv_aload_n hx hb d_TX_put_43 rfl (lv_at hl 1 rfl) ?_
  refine va_get (D := (dC, dI)) (ci := 1) (v := .ref t0) (C := R_TX) (T := T_TX) (N := 2) hx hb hts in_TX hown hK hP 0 rfl rfl 0 (by decide) (hts _ k_36) (fun _ h9 => h9) rfl d_TX_put_44 ?_
  refine lv_aload_n hx hb d_TX_put_47 rfl (lv_at hl 1 rfl) ?_
  refine va_get (D := (dC, dI)) (ci := 1) (v := .int 5) (C := R_TX) (T := T_TX) (N := 2) hx hb hts in_TX hown hK hP 0 rfl rfl 1 (by decide) (hts _ k_37) (fun _ h9 => h9) rfl d_TX_put_48 ?_
  refine lv_lload_n hx hb d_TX_put_51 rfl (lv_at hl 2 rfl) ?_
  refine lv_iload hx hb d_TX_put_52 (lv_at hl 0 rfl) ?_
  refine va_calli (va_runS (As := [.long x, .int 1]) (rest := [.int 5, .ref t0]) ⟨hx, hb, hml, hown, hts⟩ (c_TX_byteOf l dC dI (x) (1)) (wd_S 2 hts k_351 k_2 k_349 k_350 rfl rfl (by decide +kernel) ⟨Nat.le_of_ble_eq_true rfl, Nat.le_of_ble_eq_true rfl⟩) ⟨fun a U g mk q => by obtain ⟨q0, qP, qK, qN⟩ := q; exact ⟨q0, qP, va_K.moved (u := U) (U := U.calling g mk a) (Vm.Alike.refl U.vm) qK, nw_ok.same (s := U) (U := U.calling g mk a) rfl qN⟩, fun U hU hW => ⟨rfl, by rw [hU]; exact hP.sub (ws' := []) [] rfl, va_K.moved hW.alike (hK.sub (tys' := []) [] rfl), nw_ok.warm hW hN⟩⟩ rfl rfl hl.1 rfl (lv_room (Nat.le_of_ble_eq_true rfl)) d_TX_put_54 ⟨Nat.le_of_ble_eq_true rfl, Nat.le_of_ble_eq_true rfl⟩) hS (fun q _ h => h.elim) (fun q h => h.elim) (fun r7 u t H17 locs ht hvm hr7 hB hz1 hk1 hS => ?_)
  try dsimp only at hr7
  subst hr7
  have hP : va_P (dC, dI) cls [(h0, .inr (1, [.ref t0, .int 5])), (t0, .inl (cT, 300, .inl (upd (upd (upd (upd (upd (fun _ => (0 : Int32)) (0 : Int32).toNatClampNeg (vp_nar .byte (bc x 6).toInt8.toInt32)) (1 : Int32).toNatClampNeg (vp_nar .byte (bc x 5).toInt8.toInt32)) (2 : Int32).toNatClampNeg (vp_nar .byte (bc x 4).toInt8.toInt32)) (3 : Int32).toNatClampNeg (vp_nar .byte (bc x 3).toInt8.toInt32)) (4 : Int32).toNatClampNeg (vp_nar .byte (bc x 2).toInt8.toInt32))))] H17 := hP.kept (fun k q hq => hk1 q.1 (hP k q hq).lt id)
  have hP : va_P (dC, dI) cls [(h0, .inr (1, [.ref t0, .int 5])), (t0, .inl (cT, 300, .inl (upd (upd (upd (upd (upd (fun _ => (0 : Int32)) (0 : Int32).toNatClampNeg (vp_nar .byte (bc x 6).toInt8.toInt32)) (1 : Int32).toNatClampNeg (vp_nar .byte (bc x 5).toInt8.toInt32)) (2 : Int32).toNatClampNeg (vp_nar .byte (bc x 4).toInt8.toInt32)) (3 : Int32).toNatClampNeg (vp_nar .byte (bc x 3).toInt8.toInt32)) (4 : Int32).toNatClampNeg (vp_nar .byte (bc x 2).toInt8.toInt32))))] H17 := hP
  have hD : va_D A [(h0, .inr (1, [.ref t0, .int 5])), (t0, .inl (cT, 300, .inl (upd (upd (upd (upd (upd (fun _ => (0 : Int32)) (0 : Int32).toNatClampNeg (vp_nar .byte (bc x 6).toInt8.toInt32)) (1 : Int32).toNatClampNeg (vp_nar .byte (bc x 5).toInt8.toInt32)) (2 : Int32).toNatClampNeg (vp_nar .byte (bc x 4).toInt8.toInt32)) (3 : Int32).toNatClampNeg (vp_nar .byte (bc x 3).toInt8.toInt32)) (4 : Int32).toNatClampNeg (vp_nar .byte (bc x 2).toInt8.toInt32))))] := hD
  refine lv_i2b (v := (bc x 1).toInt8.toInt32) hx hb d_TX_put_57 rfl ?_
  refine va_bast hx hb hK hP hD hS 1 0 rfl rfl (show ¬ ((5 : Int32) < 0 ∨ 300 ≤ (5 : Int32).toNatClampNeg) from by decide) d_TX_put_58 (fun H18 locs hP hD hS => ?_)
  have hP : va_P (dC, dI) cls [(h0, .inr (1, [.ref t0, .int 5])), (t0, .inl (cT, 300, .inl (upd (upd (upd (upd (upd (upd (fun _ => (0 : Int32)) (0 : Int32).toNatClampNeg (vp_nar .byte (bc x 6).toInt8.toInt32)) (1 : Int32).toNatClampNeg (vp_nar .byte (bc x 5).toInt8.toInt32)) (2 : Int32).toNatClampNeg (vp_nar .byte (bc x 4).toInt8.toInt32)) (3 : Int32).toNatClampNeg (vp_nar .byte (bc x 3).toInt8.toInt32)) (4 : Int32).toNatClampNeg (vp_nar .byte (bc x 2).toInt8.toInt32)) (5 : Int32).toNatClampNeg (vp_nar .byte (bc x 1).toInt8.toInt32))))] H18 := hP
  have hD : va_D A [(h0, .inr (1, [.ref t0, .int 5])), (t0, .inl (cT, 300, .inl (upd (upd (upd (upd (upd (upd (fun _ => (0 : Int32)) (0 : Int32).toNatClampNeg (vp_nar .byte (bc x 6).toInt8.toInt32)) (1 : Int32).toNatClampNeg (vp_nar .byte (bc x 5).toInt8.toInt32)) (2 : Int32).toNatClampNeg (vp_nar .byte (bc x 4).toInt8.toInt32)) (3 : Int32).toNatClampNeg (vp_nar .byte (bc x 3).toInt8.toInt32)) (4 : Int32).toNatClampNeg (vp_nar .byte (bc x 2).toInt8.toInt32)) (5 : Int32).toNatClampNeg (vp_nar .byte (bc x 1).toInt8.toInt32))))] := hD
  refine lv_aload_n hx hb d_TX_put_59 rfl (lv_at hl 1 rfl) ?_
  refine lv_dup hx hb d_TX_put_60 rfl ?_
  refine va_get (D := (dC, dI)) (ci := 1) (v := .int 5) (C := R_TX) (T := T_TX) (N := 2) hx hb hts in_TX hown hK hP 0 rfl rfl 1 (by decide) (hts _ k_37) (fun _ h9 => h9) rfl d_TX_put_61 ?_
  refine lv_iconst (v := 1) hx hb d_TX_put_64 (by decide) ?_
  refine lv_iadd hx hb d_TX_put_65 ?_
  refine W.eq (g2 := F0 m 66 ls [.int 6, .ref h0]) rfl ?_
  refine va_put (D := (dC, dI)) (ci := 1) (v := .int 6) (ty := .int) (C := R_TX) (T := T_TX) (N := 2) hx hb hts in_TX t_TX t_TX_ok n_TX hown hK hP hD hS 0 rfl rfl 1 (by decide) (hts _ k_37) (fun _ h9 => h9) rfl (by decide +kernel) rfl rfl (Nat.le_of_ble_eq_true rfl) d_TX_put_66 (fun H19 locs hP hD hS => ?_)
  have hP : va_P (dC, dI) cls [(h0, .inr (1, [.ref t0, .int 6])), (t0, .inl (cT, 300, .inl (upd (upd (upd (upd (upd (upd (fun _ => (0 : Int32)) (0 : Int32).toNatClampNeg (vp_nar .byte (bc x 6).toInt8.toInt32)) (1 : Int32).toNatClampNeg (vp_nar .byte (bc x 5).toInt8.toInt32)) (2 : Int32).toNatClampNeg (vp_nar .byte (bc x 4).toInt8.toInt32)) (3 : Int32).toNatClampNeg (vp_nar .byte (bc x 3).toInt8.toInt32)) (4 : Int32).toNatClampNeg (vp_nar .byte (bc x 2).toInt8.toInt32)) (5 : Int32).toNatClampNeg (vp_nar .byte (bc x 1).toInt8.toInt32))))] H19 := hP
  have hD : va_D A [(h0, .inr (1, [.ref t0, .int 6])), (t0, .inl (cT, 300, .inl (upd (upd (upd (upd (upd (upd (fun _ => (0 : Int32)) (0 : Int32).toNatClampNeg (vp_nar .byte (bc x 6).toInt8.toInt32)) (1 : Int32).toNatClampNeg (vp_nar .byte (bc x 5).toInt8.toInt32)) (2 : Int32).toNatClampNeg (vp_nar .byte (bc x 4).toInt8.toInt32)) (3 : Int32).toNatClampNeg (vp_nar .byte (bc x 3).toInt8.toInt32)) (4 : Int32).toNatClampNeg (vp_nar .byte (bc x 2).toInt8.toInt32)) (5 : Int32).toNatClampNeg (vp_nar .byte (bc x 1).toInt8.toInt32))))] := hD
  refine lv_iinc (k := 0) (v := 0) hx hb d_TX_put_69 hl rfl (by decide) (by decide) rfl (fun ls hl => ?_)
  have hl : lv_has ls 5 [(4, .int 0), (0, .ref h0), (1, .long x), (3, .int 7)] := hl
  refine lv_goto (tgt := 38) hx hb d_TX_put_72 (by decide) ?_
  refine lv_iload hx hb d_TX_put_38 (lv_at hl 0 rfl) ?_
  refine lv_if_lt (tgt := 75) hx hb d_TX_put_40 (by decide) (fun h9 => absurd h9 (by decide)) (fun _ => ?_)
  refine lv_aload_n hx hb d_TX_put_43 rfl (lv_at hl 1 rfl) ?_
  refine va_get (D := (dC, dI)) (ci := 1) (v := .ref t0) (C := R_TX) (T := T_TX) (N := 2) hx hb hts in_TX hown hK hP 0 rfl rfl 0 (by decide) (hts _ k_36) (fun _ h9 => h9) rfl d_TX_put_44 ?_
  refine lv_aload_n hx hb d_TX_put_47 rfl (lv_at hl 1 rfl) ?_
  refine va_get (D := (dC, dI)) (ci := 1) (v := .int 6) (C := R_TX) (T := T_TX) (N := 2) hx hb hts in_TX hown hK hP 0 rfl rfl 1 (by decide) (hts _ k_37) (fun _ h9 => h9) rfl d_TX_put_48 ?_
  refine lv_lload_n hx hb d_TX_put_51 rfl (lv_at hl 2 rfl) ?_
  refine lv_iload hx hb d_TX_put_52 (lv_at hl 0 rfl) ?_
  refine va_calli (va_runS (As := [.long x, .int 0]) (rest := [.int 6, .ref t0]) ⟨hx, hb, hml, hown, hts⟩ (c_TX_byteOf l dC dI (x) (0)) (wd_S 2 hts k_351 k_2 k_349 k_350 rfl rfl (by decide +kernel) ⟨Nat.le_of_ble_eq_true rfl, Nat.le_of_ble_eq_true rfl⟩) ⟨fun a U g mk q => by obtain ⟨q0, qP, qK, qN⟩ := q; exact ⟨q0, qP, va_K.moved (u := U) (U := U.calling g mk a) (Vm.Alike.refl U.vm) qK, nw_ok.same (s := U) (U := U.calling g mk a) rfl qN⟩, fun U hU hW => ⟨rfl, by rw [hU]; exact hP.sub (ws' := []) [] rfl, va_K.moved hW.alike (hK.sub (tys' := []) [] rfl), nw_ok.warm hW hN⟩⟩ rfl rfl hl.1 rfl (lv_room (Nat.le_of_ble_eq_true rfl)) d_TX_put_54 ⟨Nat.le_of_ble_eq_true rfl, Nat.le_of_ble_eq_true rfl⟩) hS (fun q _ h => h.elim) (fun q h => h.elim) (fun r8 u t H20 locs ht hvm hr8 hB hz1 hk1 hS => ?_)
  try dsimp only at hr8
  subst hr8
  have hP : va_P (dC, dI) cls [(h0, .inr (1, [.ref t0, .int 6])), (t0, .inl (cT, 300, .inl (upd (upd (upd (upd (upd (upd (fun _ => (0 : Int32)) (0 : Int32).toNatClampNeg (vp_nar .byte (bc x 6).toInt8.toInt32)) (1 : Int32).toNatClampNeg (vp_nar .byte (bc x 5).toInt8.toInt32)) (2 : Int32).toNatClampNeg (vp_nar .byte (bc x 4).toInt8.toInt32)) (3 : Int32).toNatClampNeg (vp_nar .byte (bc x 3).toInt8.toInt32)) (4 : Int32).toNatClampNeg (vp_nar .byte (bc x 2).toInt8.toInt32)) (5 : Int32).toNatClampNeg (vp_nar .byte (bc x 1).toInt8.toInt32))))] H20 := hP.kept (fun k q hq => hk1 q.1 (hP k q hq).lt id)
  have hP : va_P (dC, dI) cls [(h0, .inr (1, [.ref t0, .int 6])), (t0, .inl (cT, 300, .inl (upd (upd (upd (upd (upd (upd (fun _ => (0 : Int32)) (0 : Int32).toNatClampNeg (vp_nar .byte (bc x 6).toInt8.toInt32)) (1 : Int32).toNatClampNeg (vp_nar .byte (bc x 5).toInt8.toInt32)) (2 : Int32).toNatClampNeg (vp_nar .byte (bc x 4).toInt8.toInt32)) (3 : Int32).toNatClampNeg (vp_nar .byte (bc x 3).toInt8.toInt32)) (4 : Int32).toNatClampNeg (vp_nar .byte (bc x 2).toInt8.toInt32)) (5 : Int32).toNatClampNeg (vp_nar .byte (bc x 1).toInt8.toInt32))))] H20 := hP
  have hD : va_D A [(h0, .inr (1, [.ref t0, .int 6])), (t0, .inl (cT, 300, .inl (upd (upd (upd (upd (upd (upd (fun _ => (0 : Int32)) (0 : Int32).toNatClampNeg (vp_nar .byte (bc x 6).toInt8.toInt32)) (1 : Int32).toNatClampNeg (vp_nar .byte (bc x 5).toInt8.toInt32)) (2 : Int32).toNatClampNeg (vp_nar .byte (bc x 4).toInt8.toInt32)) (3 : Int32).toNatClampNeg (vp_nar .byte (bc x 3).toInt8.toInt32)) (4 : Int32).toNatClampNeg (vp_nar .byte (bc x 2).toInt8.toInt32)) (5 : Int32).toNatClampNeg (vp_nar .byte (bc x 1).toInt8.toInt32))))] := hD
  refine lv_i2b (v := (bc x 0).toInt8.toInt32) hx hb d_TX_put_57 rfl ?_
  refine va_bast hx hb hK hP hD hS 1 0 rfl rfl (show ¬ ((6 : Int32) < 0 ∨ 300 ≤ (6 : Int32).toNatClampNeg) from by decide) d_TX_put_58 (fun H21 locs hP hD hS => ?_)
  have hP : va_P (dC, dI) cls [(h0, .inr (1, [.ref t0, .int 6])), (t0, .inl (cT, 300, .inl (upd (upd (upd (upd (upd (upd (upd (fun _ => (0 : Int32)) (0 : Int32).toNatClampNeg (vp_nar .byte (bc x 6).toInt8.toInt32)) (1 : Int32).toNatClampNeg (vp_nar .byte (bc x 5).toInt8.toInt32)) (2 : Int32).toNatClampNeg (vp_nar .byte (bc x 4).toInt8.toInt32)) (3 : Int32).toNatClampNeg (vp_nar .byte (bc x 3).toInt8.toInt32)) (4 : Int32).toNatClampNeg (vp_nar .byte (bc x 2).toInt8.toInt32)) (5 : Int32).toNatClampNeg (vp_nar .byte (bc x 1).toInt8.toInt32)) (6 : Int32).toNatClampNeg (vp_nar .byte (bc x 0).toInt8.toInt32))))] H21 := hP
  have hD : va_D A [(h0, .inr (1, [.ref t0, .int 6])), (t0, .inl (cT, 300, .inl (upd (upd (upd (upd (upd (upd (upd (fun _ => (0 : Int32)) (0 : Int32).toNatClampNeg (vp_nar .byte (bc x 6).toInt8.toInt32)) (1 : Int32).toNatClampNeg (vp_nar .byte (bc x 5).toInt8.toInt32)) (2 : Int32).toNatClampNeg (vp_nar .byte (bc x 4).toInt8.toInt32)) (3 : Int32).toNatClampNeg (vp_nar .byte (bc x 3).toInt8.toInt32)) (4 : Int32).toNatClampNeg (vp_nar .byte (bc x 2).toInt8.toInt32)) (5 : Int32).toNatClampNeg (vp_nar .byte (bc x 1).toInt8.toInt32)) (6 : Int32).toNatClampNeg (vp_nar .byte (bc x 0).toInt8.toInt32))))] := hD
  refine lv_aload_n hx hb d_TX_put_59 rfl (lv_at hl 1 rfl) ?_
  refine lv_dup hx hb d_TX_put_60 rfl ?_
  refine va_get (D := (dC, dI)) (ci := 1) (v := .int 6) (C := R_TX) (T := T_TX) (N := 2) hx hb hts in_TX hown hK hP 0 rfl rfl 1 (by decide) (hts _ k_37) (fun _ h9 => h9) rfl d_TX_put_61 ?_
  refine lv_iconst (v := 1) hx hb d_TX_put_64 (by decide) ?_
  refine lv_iadd hx hb d_TX_put_65 ?_
  refine W.eq (g2 := F0 m 66 ls [.int 7, .ref h0]) rfl ?_
  refine va_put (D := (dC, dI)) (ci := 1) (v := .int 7) (ty := .int) (C := R_TX) (T := T_TX) (N := 2) hx hb hts in_TX t_TX t_TX_ok n_TX hown hK hP hD hS 0 rfl rfl 1 (by decide) (hts _ k_37) (fun _ h9 => h9) rfl (by decide +kernel) rfl rfl (Nat.le_of_ble_eq_true rfl) d_TX_put_66 (fun H22 locs hP hD hS => ?_)
  have hP : va_P (dC, dI) cls [(h0, .inr (1, [.ref t0, .int 7])), (t0, .inl (cT, 300, .inl (upd (upd (upd (upd (upd (upd (upd (fun _ => (0 : Int32)) (0 : Int32).toNatClampNeg (vp_nar .byte (bc x 6).toInt8.toInt32)) (1 : Int32).toNatClampNeg (vp_nar .byte (bc x 5).toInt8.toInt32)) (2 : Int32).toNatClampNeg (vp_nar .byte (bc x 4).toInt8.toInt32)) (3 : Int32).toNatClampNeg (vp_nar .byte (bc x 3).toInt8.toInt32)) (4 : Int32).toNatClampNeg (vp_nar .byte (bc x 2).toInt8.toInt32)) (5 : Int32).toNatClampNeg (vp_nar .byte (bc x 1).toInt8.toInt32)) (6 : Int32).toNatClampNeg (vp_nar .byte (bc x 0).toInt8.toInt32))))] H22 := hP
  have hD : va_D A [(h0, .inr (1, [.ref t0, .int 7])), (t0, .inl (cT, 300, .inl (upd (upd (upd (upd (upd (upd (upd (fun _ => (0 : Int32)) (0 : Int32).toNatClampNeg (vp_nar .byte (bc x 6).toInt8.toInt32)) (1 : Int32).toNatClampNeg (vp_nar .byte (bc x 5).toInt8.toInt32)) (2 : Int32).toNatClampNeg (vp_nar .byte (bc x 4).toInt8.toInt32)) (3 : Int32).toNatClampNeg (vp_nar .byte (bc x 3).toInt8.toInt32)) (4 : Int32).toNatClampNeg (vp_nar .byte (bc x 2).toInt8.toInt32)) (5 : Int32).toNatClampNeg (vp_nar .byte (bc x 1).toInt8.toInt32)) (6 : Int32).toNatClampNeg (vp_nar .byte (bc x 0).toInt8.toInt32))))] := hD
  refine lv_iinc (k := 0) (v := (-1)) hx hb d_TX_put_69 hl rfl (by decide) (by decide) rfl (fun ls hl => ?_)
  have hl : lv_has ls 5 [(4, .int (-1)), (0, .ref h0), (1, .long x), (3, .int 7)] := hl
  refine lv_goto (tgt := 38) hx hb d_TX_put_72 (by decide) ?_
  refine lv_iload hx hb d_TX_put_38 (lv_at hl 0 rfl) ?_
  refine lv_if_lt (tgt := 75) hx hb d_TX_put_40 (by decide) (fun _ => ?_) (fun h9 => absurd (by decide) h9)
  refine lv_iconst (v := 1) hx hb d_TX_put_75 (by decide) ?_
  have hP9 := hP.sub (ws' := [(h0, .inr (1, [.ref t0, .int 7]))]) [0] rfl
  have hD9 := hD.sub (ws' := [(h0, .inr (1, [.ref t0, .int 7]))]) [0] (by decide) rfl
  have hK9 := hK.sub (tys' := [(cT, .byte)]) [0] rfl
  exact W.zret (v := 1) (ty := .boolean) hx hb hr (by decide +kernel) (fun t ht hW => ⟨⟨1, (), rfl, rfl, by rw [ht]; exact hP9, va_K.moved hW.alike hK9, hD9⟩, hS.F ht⟩) hS.2.2 d_TX_put_76

set_option maxHeartbeats 4000000 in
set_option maxRecDepth 100000 in
theorem c_TX_put_8n (l : Launch) (dC : Nat → ClassId) (dI : Nat → Nat → Nat) (h0 : Nat) (t0 : Nat) (x : Int64) (g : ¬ (ok x 0 ∧ ok x 8 ∧ ok x 16 ∧ ok x 24 ∧ ok x 32 ∧ ok x 40 ∧ ok x 48 ∧ ok x 56)) : Met l y_TX_put (Cond.code y_TX_put b_TX_put 5 (Option.some Jvm.ClassFile.FieldType.boolean) :: wd) { frames := 2, cells := 0, slots := 0, locals := 46 } (va_Pc [.ref h0, .long x, .int 8] (fun U => va_P (dC, dI) cls [(h0, .inr (1, [.ref t0, .int 0]))] U.heap ∧ va_K (dC, dI) cls [] U ∧ nw_ok U)) (va_Qi (fun r (_ : Unit) => r = 0) (fun _ _ => True) (fun _ => False)) 0 0 (fun _ => False) := by
  refine Met.ofW (cc := b_TX_put) (maxL := 5) (ret := (Option.some Jvm.ClassFile.FieldType.boolean)) (by decide) rfl ?_
  intro p e s m args below meth c s₁ B hml hv
  obtain ⟨rfl, hP, hK, hN⟩ := hv
  have hx := B.exec
  have hb := B.bytes
  have hr := B.returns
  have hlocks := B.notSynchronized
  have hts : ∀ w ∈ wd, w.before ([.ref h0, .long x, .int 8] : List Value).toArray s = true := fun w hw => atoms_spec (ws := (Cond.code y_TX_put b_TX_put 5 (Option.some Jvm.ClassFile.FieldType.boolean) :: wd)) B.pre w (List.mem_cons_of_mem _ hw)
  have hown : s.vm.findClass "LeastSolutions$Text" = some m.cls := findClass_of_methodNamed B.named
  have hS : va_S (fun _ => False) s.heap s.heap [] := va_S.rf
  have hl := lv_entry ([.ref h0, .long x, .int 8]) (n := 5) (Nat.le_of_ble_eq_true rfl)
  rw [lg_entry_eq]
  generalize (lg_sl ([.ref h0, .long x, .int 8]) ++ List.replicate (5 - (lg_sl ([.ref h0, .long x, .int 8])).length) Slot.unset).toArray = ls at hl ⊢
  have hl : lv_has ls 5 [(0, .ref h0), (1, .long x), (3, .int 8)] := hl
  refine lv_iload_n hx hb d_TX_put_0 rfl (lv_at hl 2 rfl) ?_
  refine lv_iconst (v := 1) hx hb d_TX_put_1 (by decide) ?_
  refine lv_icmp_lt (tgt := 31) hx hb d_TX_put_2 (by decide) (fun h9 => absurd h9 (by decide)) (fun _ => ?_)
  refine lv_iload_n hx hb d_TX_put_5 rfl (lv_at hl 2 rfl) ?_
  refine lv_bipush (v := 8) hx hb d_TX_put_6 (by decide) ?_
  refine lv_icmp_gt (tgt := 31) hx hb d_TX_put_8 (by decide) (fun h9 => absurd h9 (by decide)) (fun _ => ?_)
  refine lv_aload_n hx hb d_TX_put_11 rfl (lv_at hl 0 rfl) ?_
  refine va_get (D := (dC, dI)) (ci := 1) (v := .int 0) (C := R_TX) (T := T_TX) (N := 2) hx hb hts in_TX hown hK hP 0 rfl rfl 1 (by decide) (hts _ k_37) (fun _ h9 => h9) rfl d_TX_put_12 ?_
  refine lv_iload_n hx hb d_TX_put_15 rfl (lv_at hl 2 rfl) ?_
  refine lv_iadd hx hb d_TX_put_16 ?_
  refine W.eq (g2 := F0 m 17 ls [.int 8]) rfl ?_
  refine lv_sipush (v := 300) hx hb d_TX_put_17 (by decide) ?_
  refine lv_icmp_gt (tgt := 31) hx hb d_TX_put_20 (by decide) (fun h9 => absurd h9 (by decide)) (fun _ => ?_)
  refine lv_lload_n hx hb d_TX_put_23 rfl (lv_at hl 1 rfl) ?_
  refine lv_iload_n hx hb d_TX_put_24 rfl (lv_at hl 2 rfl) ?_
  refine pu_calli (va_runS (As := [.long x, .int 8]) (rest := []) ⟨hx, hb, hml, hown, hts⟩ (c_TX_areTypable_8n l dC dI (x) (g)) (wd_S 2 hts k_348 k_2 k_346 k_347 rfl rfl (by decide +kernel) ⟨Nat.le_of_ble_eq_true rfl, Nat.le_of_ble_eq_true rfl⟩) ⟨fun a U g mk q => by obtain ⟨q0, qP, qK, qN⟩ := q; exact ⟨q0, qP, va_K.moved (u := U) (U := U.calling g mk a) (Vm.Alike.refl U.vm) qK, nw_ok.same (s := U) (U := U.calling g mk a) rfl qN⟩, fun U hU hW => ⟨rfl, by rw [hU]; exact hP.sub (ws' := []) [] rfl, va_K.moved hW.alike (hK.sub (tys' := []) [] rfl), nw_ok.warm hW hN⟩⟩ rfl rfl hl.1 rfl (lv_room (Nat.le_of_ble_eq_true rfl)) d_TX_put_25 ⟨Nat.le_of_ble_eq_true rfl, Nat.le_of_ble_eq_true rfl⟩) (fun r1 hr1 => ?_)
  try dsimp only at hr1
  subst hr1
  refine lv_if_ne (tgt := 33) hx hb d_TX_put_28 (by decide) (fun h9 => absurd (by decide) h9) (fun _ => ?_)
  refine lv_iconst (v := 0) hx hb d_TX_put_31 (by decide) ?_
  exact W.zret (v := 0) (ty := .boolean) hx hb hr (by decide +kernel) (fun t ht hW => ⟨⟨0, (), rfl, rfl, trivial⟩, hS.F ht⟩) hS.2.2 d_TX_put_32

set_option maxHeartbeats 4000000 in
set_option maxRecDepth 100000 in
theorem c_TX_put_8y (l : Launch) (dC : Nat → ClassId) (dI : Nat → Nat → Nat) (h0 : Nat) (t0 : Nat) (cT : ClassId) (x : Int64) (sz : Nat) (g : ok x 0 ∧ ok x 8 ∧ ok x 16 ∧ ok x 24 ∧ ok x 32 ∧ ok x 40 ∧ ok x 48 ∧ ok x 56) : Met l y_TX_put (Cond.code y_TX_put b_TX_put 5 (Option.some Jvm.ClassFile.FieldType.boolean) :: wd) { frames := 2, cells := 0, slots := 0, locals := 46 } (va_Pc [.ref h0, .long x, .int 8] (fun U => U.heap.size = sz ∧ va_P (dC, dI) cls [(h0, .inr (1, [.ref t0, .int 0])), (t0, .inl (cT, 300, .inl (fun _ => (0 : Int32))))] U.heap ∧ va_K (dC, dI) cls [(cT, .byte)] U ∧ va_D (fun _ => True) [(h0, .inr (1, [.ref t0, .int 0])), (t0, .inl (cT, 300, .inl (fun _ => (0 : Int32))))] ∧ nw_ok U)) (va_Qi (fun r (_ : Unit) => r = 1) (fun (_ : Unit) t => va_P (dC, dI) cls [(h0, .inr (1, [.ref t0, .int 8]))] t.heap ∧ va_K (dC, dI) cls [(cT, .byte)] t ∧ va_D (va_A [(h0, .inr (1, [.ref t0, .int 0])), (t0, .inl (cT, 300, .inl (fun _ => (0 : Int32))))] sz) [(h0, .inr (1, [.ref t0, .int 8]))]) (va_A [(h0, .inr (1, [.ref t0, .int 0])), (t0, .inl (cT, 300, .inl (fun _ => (0 : Int32))))] sz)) 0 0 (va_A [(h0, .inr (1, [.ref t0, .int 0])), (t0, .inl (cT, 300, .inl (fun _ => (0 : Int32))))] sz) := by
  refine Met.ofW (cc := b_TX_put) (maxL := 5) (ret := (Option.some Jvm.ClassFile.FieldType.boolean)) (by decide) rfl ?_
  intro p e s m args below meth c s₁ B hml hv
  obtain ⟨rfl, hsz, hP, hK, hD0, hN⟩ := hv
  have hx := B.exec
  have hb := B.bytes
  have hr := B.returns
  have hlocks := B.notSynchronized
  have hts : ∀ w ∈ wd, w.before ([.ref h0, .long x, .int 8] : List Value).toArray s = true := fun w hw => atoms_spec (ws := (Cond.code y_TX_put b_TX_put 5 (Option.some Jvm.ClassFile.FieldType.boolean) :: wd)) B.pre w (List.mem_cons_of_mem _ hw)
  have hown : s.vm.findClass "LeastSolutions$Text" = some m.cls := findClass_of_methodNamed B.named
  subst hsz
  have hD := hD0.self (sz := s.heap.size)
  generalize hAe : va_A [(h0, .inr (1, [.ref t0, .int 0])), (t0, .inl (cT, 300, .inl (fun _ => (0 : Int32))))] s.heap.size = A at hD ⊢
  have hA : ∀ q : Nat, s.heap.size ≤ q → A q := fun q h => by rw [← hAe]; exact Or.inr h
  have hS : va_S A s.heap s.heap [] := va_S.rf
  have hl := lv_entry ([.ref h0, .long x, .int 8]) (n := 5) (Nat.le_of_ble_eq_true rfl)
  rw [lg_entry_eq]
  generalize (lg_sl ([.ref h0, .long x, .int 8]) ++ List.replicate (5 - (lg_sl ([.ref h0, .long x, .int 8])).length) Slot.unset).toArray = ls at hl ⊢
  have hl : lv_has ls 5 [(0, .ref h0), (1, .long x), (3, .int 8)] := hl
  refine lv_iload_n hx hb d_TX_put_0 rfl (lv_at hl 2 rfl) ?_
  refine lv_iconst (v := 1) hx hb d_TX_put_1 (by decide) ?_
  refine lv_icmp_lt (tgt := 31) hx hb d_TX_put_2 (by decide) (fun h9 => absurd h9 (by decide)) (fun _ => ?_)
  refine lv_iload_n hx hb d_TX_put_5 rfl (lv_at hl 2 rfl) ?_
  refine lv_bipush (v := 8) hx hb d_TX_put_6 (by decide) ?_
  refine lv_icmp_gt (tgt := 31) hx hb d_TX_put_8 (by decide) (fun h9 => absurd h9 (by decide)) (fun _ => ?_)
  refine lv_aload_n hx hb d_TX_put_11 rfl (lv_at hl 0 rfl) ?_
  refine va_get (D := (dC, dI)) (ci := 1) (v := .int 0) (C := R_TX) (T := T_TX) (N := 2) hx hb hts in_TX hown hK hP 0 rfl rfl 1 (by decide) (hts _ k_37) (fun _ h9 => h9) rfl d_TX_put_12 ?_
  refine lv_iload_n hx hb d_TX_put_15 rfl (lv_at hl 2 rfl) ?_
  refine lv_iadd hx hb d_TX_put_16 ?_
  refine W.eq (g2 := F0 m 17 ls [.int 8]) rfl ?_
  refine lv_sipush (v := 300) hx hb d_TX_put_17 (by decide) ?_
  refine lv_icmp_gt (tgt := 31) hx hb d_TX_put_20 (by decide) (fun h9 => absurd h9 (by decide)) (fun _ => ?_)
  refine lv_lload_n hx hb d_TX_put_23 rfl (lv_at hl 1 rfl) ?_
  refine lv_iload_n hx hb d_TX_put_24 rfl (lv_at hl 2 rfl) ?_
  refine va_calli (va_runS (As := [.long x, .int 8]) (rest := []) ⟨hx, hb, hml, hown, hts⟩ (c_TX_areTypable_8y l dC dI (x) (g)) (wd_S 2 hts k_348 k_2 k_346 k_347 rfl rfl (by decide +kernel) ⟨Nat.le_of_ble_eq_true rfl, Nat.le_of_ble_eq_true rfl⟩) ⟨fun a U g mk q => by obtain ⟨q0, qP, qK, qN⟩ := q; exact ⟨q0, qP, va_K.moved (u := U) (U := U.calling g mk a) (Vm.Alike.refl U.vm) qK, nw_ok.same (s := U) (U := U.calling g mk a) rfl qN⟩, fun U hU hW => ⟨rfl, by rw [hU]; exact hP.sub (ws' := []) [] rfl, va_K.moved hW.alike (hK.sub (tys' := []) [] rfl), nw_ok.warm hW hN⟩⟩ rfl rfl hl.1 rfl (lv_room (Nat.le_of_ble_eq_true rfl)) d_TX_put_25 ⟨Nat.le_of_ble_eq_true rfl, Nat.le_of_ble_eq_true rfl⟩) hS (fun q _ h => h.elim) (fun q h => h.elim) (fun r1 u t H1 locs ht hvm hr1 hB hz1 hk1 hS => ?_)
  try dsimp only at hr1
  subst hr1
  have hP : va_P (dC, dI) cls [(h0, .inr (1, [.ref t0, .int 0])), (t0, .inl (cT, 300, .inl (fun _ => (0 : Int32))))] H1 := hP.kept (fun k q hq => hk1 q.1 (hP k q hq).lt id)
  have hP : va_P (dC, dI) cls [(h0, .inr (1, [.ref t0, .int 0])), (t0, .inl (cT, 300, .inl (fun _ => (0 : Int32))))] H1 := hP
  have hD : va_D A [(h0, .inr (1, [.ref t0, .int 0])), (t0, .inl (cT, 300, .inl (fun _ => (0 : Int32))))] := hD
  refine lv_if_ne (tgt := 33) hx hb d_TX_put_28 (by decide) (fun _ => ?_) (fun h9 => absurd h9 (by decide))
  refine lv_iload_n hx hb d_TX_put_33 rfl (lv_at hl 2 rfl) ?_
  refine lv_iconst (v := 1) hx hb d_TX_put_34 (by decide) ?_
  refine lv_isub hx hb d_TX_put_35 ?_
  refine W.eq (g2 := F0 m 36 ls [.int 7]) rfl ?_
  refine lv_istore hx hb d_TX_put_36 hl (by decide) rfl (fun ls hl => ?_)
  have hl : lv_has ls 5 [(4, .int 7), (0, .ref h0), (1, .long x), (3, .int 8)] := hl
  refine lv_iload hx hb d_TX_put_38 (lv_at hl 0 rfl) ?_
  refine lv_if_lt (tgt := 75) hx hb d_TX_put_40 (by decide) (fun h9 => absurd h9 (by decide)) (fun _ => ?_)
  refine lv_aload_n hx hb d_TX_put_43 rfl (lv_at hl 1 rfl) ?_
  refine va_get (D := (dC, dI)) (ci := 1) (v := .ref t0) (C := R_TX) (T := T_TX) (N := 2) hx hb hts in_TX hown hK hP 0 rfl rfl 0 (by decide) (hts _ k_36) (fun _ h9 => h9) rfl d_TX_put_44 ?_
  refine lv_aload_n hx hb d_TX_put_47 rfl (lv_at hl 1 rfl) ?_
  refine va_get (D := (dC, dI)) (ci := 1) (v := .int 0) (C := R_TX) (T := T_TX) (N := 2) hx hb hts in_TX hown hK hP 0 rfl rfl 1 (by decide) (hts _ k_37) (fun _ h9 => h9) rfl d_TX_put_48 ?_
  refine lv_lload_n hx hb d_TX_put_51 rfl (lv_at hl 2 rfl) ?_
  refine lv_iload hx hb d_TX_put_52 (lv_at hl 0 rfl) ?_
  refine va_calli (va_runS (As := [.long x, .int 7]) (rest := [.int 0, .ref t0]) ⟨hx, hb, hml, hown, hts⟩ (c_TX_byteOf l dC dI (x) (7)) (wd_S 2 hts k_351 k_2 k_349 k_350 rfl rfl (by decide +kernel) ⟨Nat.le_of_ble_eq_true rfl, Nat.le_of_ble_eq_true rfl⟩) ⟨fun a U g mk q => by obtain ⟨q0, qP, qK, qN⟩ := q; exact ⟨q0, qP, va_K.moved (u := U) (U := U.calling g mk a) (Vm.Alike.refl U.vm) qK, nw_ok.same (s := U) (U := U.calling g mk a) rfl qN⟩, fun U hU hW => ⟨rfl, by rw [hU]; exact hP.sub (ws' := []) [] rfl, va_K.moved hW.alike (hK.sub (tys' := []) [] rfl), nw_ok.warm hW hN⟩⟩ rfl rfl hl.1 rfl (lv_room (Nat.le_of_ble_eq_true rfl)) d_TX_put_54 ⟨Nat.le_of_ble_eq_true rfl, Nat.le_of_ble_eq_true rfl⟩) hS (fun q _ h => h.elim) (fun q h => h.elim) (fun r2 u t H2 locs ht hvm hr2 hB hz1 hk1 hS => ?_)
  try dsimp only at hr2
  subst hr2
  have hP : va_P (dC, dI) cls [(h0, .inr (1, [.ref t0, .int 0])), (t0, .inl (cT, 300, .inl (fun _ => (0 : Int32))))] H2 := hP.kept (fun k q hq => hk1 q.1 (hP k q hq).lt id)
  have hP : va_P (dC, dI) cls [(h0, .inr (1, [.ref t0, .int 0])), (t0, .inl (cT, 300, .inl (fun _ => (0 : Int32))))] H2 := hP
  have hD : va_D A [(h0, .inr (1, [.ref t0, .int 0])), (t0, .inl (cT, 300, .inl (fun _ => (0 : Int32))))] := hD
  refine lv_i2b (v := (bc x 7).toInt8.toInt32) hx hb d_TX_put_57 rfl ?_
  refine va_bast hx hb hK hP hD hS 1 0 rfl rfl (show ¬ ((0 : Int32) < 0 ∨ 300 ≤ (0 : Int32).toNatClampNeg) from by decide) d_TX_put_58 (fun H3 locs hP hD hS => ?_)
  have hP : va_P (dC, dI) cls [(h0, .inr (1, [.ref t0, .int 0])), (t0, .inl (cT, 300, .inl (upd (fun _ => (0 : Int32)) (0 : Int32).toNatClampNeg (vp_nar .byte (bc x 7).toInt8.toInt32))))] H3 := hP
  have hD : va_D A [(h0, .inr (1, [.ref t0, .int 0])), (t0, .inl (cT, 300, .inl (upd (fun _ => (0 : Int32)) (0 : Int32).toNatClampNeg (vp_nar .byte (bc x 7).toInt8.toInt32))))] := hD
  refine lv_aload_n hx hb d_TX_put_59 rfl (lv_at hl 1 rfl) ?_
  refine lv_dup hx hb d_TX_put_60 rfl ?_
  refine va_get (D := (dC, dI)) (ci := 1) (v := .int 0) (C := R_TX) (T := T_TX) (N := 2) hx hb hts in_TX hown hK hP 0 rfl rfl 1 (by decide) (hts _ k_37) (fun _ h9 => h9) rfl d_TX_put_61 ?_
  refine lv_iconst (v := 1) hx hb d_TX_put_64 (by decide) ?_
  refine lv_iadd hx hb d_TX_put_65 ?_
  refine W.eq (g2 := F0 m 66 ls [.int 1, .ref h0]) rfl ?_
  refine va_put (D := (dC, dI)) (ci := 1) (v := .int 1) (ty := .int) (C := R_TX) (T := T_TX) (N := 2) hx hb hts in_TX t_TX t_TX_ok n_TX hown hK hP hD hS 0 rfl rfl 1 (by decide) (hts _ k_37) (fun _ h9 => h9) rfl (by decide +kernel) rfl rfl (Nat.le_of_ble_eq_true rfl) d_TX_put_66 (fun H4 locs hP hD hS => ?_)
  have hP : va_P (dC, dI) cls [(h0, .inr (1, [.ref t0, .int 1])), (t0, .inl (cT, 300, .inl (upd (fun _ => (0 : Int32)) (0 : Int32).toNatClampNeg (vp_nar .byte (bc x 7).toInt8.toInt32))))] H4 := hP
  have hD : va_D A [(h0, .inr (1, [.ref t0, .int 1])), (t0, .inl (cT, 300, .inl (upd (fun _ => (0 : Int32)) (0 : Int32).toNatClampNeg (vp_nar .byte (bc x 7).toInt8.toInt32))))] := hD
  refine lv_iinc (k := 0) (v := 6) hx hb d_TX_put_69 hl rfl (by decide) (by decide) rfl (fun ls hl => ?_)
  have hl : lv_has ls 5 [(4, .int 6), (0, .ref h0), (1, .long x), (3, .int 8)] := hl
  refine lv_goto (tgt := 38) hx hb d_TX_put_72 (by decide) ?_
  refine lv_iload hx hb d_TX_put_38 (lv_at hl 0 rfl) ?_
  refine lv_if_lt (tgt := 75) hx hb d_TX_put_40 (by decide) (fun h9 => absurd h9 (by decide)) (fun _ => ?_)
  refine lv_aload_n hx hb d_TX_put_43 rfl (lv_at hl 1 rfl) ?_
  refine va_get (D := (dC, dI)) (ci := 1) (v := .ref t0) (C := R_TX) (T := T_TX) (N := 2) hx hb hts in_TX hown hK hP 0 rfl rfl 0 (by decide) (hts _ k_36) (fun _ h9 => h9) rfl d_TX_put_44 ?_
  refine lv_aload_n hx hb d_TX_put_47 rfl (lv_at hl 1 rfl) ?_
  refine va_get (D := (dC, dI)) (ci := 1) (v := .int 1) (C := R_TX) (T := T_TX) (N := 2) hx hb hts in_TX hown hK hP 0 rfl rfl 1 (by decide) (hts _ k_37) (fun _ h9 => h9) rfl d_TX_put_48 ?_
  refine lv_lload_n hx hb d_TX_put_51 rfl (lv_at hl 2 rfl) ?_
  refine lv_iload hx hb d_TX_put_52 (lv_at hl 0 rfl) ?_
  refine va_calli (va_runS (As := [.long x, .int 6]) (rest := [.int 1, .ref t0]) ⟨hx, hb, hml, hown, hts⟩ (c_TX_byteOf l dC dI (x) (6)) (wd_S 2 hts k_351 k_2 k_349 k_350 rfl rfl (by decide +kernel) ⟨Nat.le_of_ble_eq_true rfl, Nat.le_of_ble_eq_true rfl⟩) ⟨fun a U g mk q => by obtain ⟨q0, qP, qK, qN⟩ := q; exact ⟨q0, qP, va_K.moved (u := U) (U := U.calling g mk a) (Vm.Alike.refl U.vm) qK, nw_ok.same (s := U) (U := U.calling g mk a) rfl qN⟩, fun U hU hW => ⟨rfl, by rw [hU]; exact hP.sub (ws' := []) [] rfl, va_K.moved hW.alike (hK.sub (tys' := []) [] rfl), nw_ok.warm hW hN⟩⟩ rfl rfl hl.1 rfl (lv_room (Nat.le_of_ble_eq_true rfl)) d_TX_put_54 ⟨Nat.le_of_ble_eq_true rfl, Nat.le_of_ble_eq_true rfl⟩) hS (fun q _ h => h.elim) (fun q h => h.elim) (fun r3 u t H5 locs ht hvm hr3 hB hz1 hk1 hS => ?_)
  try dsimp only at hr3
  subst hr3
  have hP : va_P (dC, dI) cls [(h0, .inr (1, [.ref t0, .int 1])), (t0, .inl (cT, 300, .inl (upd (fun _ => (0 : Int32)) (0 : Int32).toNatClampNeg (vp_nar .byte (bc x 7).toInt8.toInt32))))] H5 := hP.kept (fun k q hq => hk1 q.1 (hP k q hq).lt id)
  have hP : va_P (dC, dI) cls [(h0, .inr (1, [.ref t0, .int 1])), (t0, .inl (cT, 300, .inl (upd (fun _ => (0 : Int32)) (0 : Int32).toNatClampNeg (vp_nar .byte (bc x 7).toInt8.toInt32))))] H5 := hP
  have hD : va_D A [(h0, .inr (1, [.ref t0, .int 1])), (t0, .inl (cT, 300, .inl (upd (fun _ => (0 : Int32)) (0 : Int32).toNatClampNeg (vp_nar .byte (bc x 7).toInt8.toInt32))))] := hD
  refine lv_i2b (v := (bc x 6).toInt8.toInt32) hx hb d_TX_put_57 rfl ?_
  refine va_bast hx hb hK hP hD hS 1 0 rfl rfl (show ¬ ((1 : Int32) < 0 ∨ 300 ≤ (1 : Int32).toNatClampNeg) from by decide) d_TX_put_58 (fun H6 locs hP hD hS => ?_)
  have hP : va_P (dC, dI) cls [(h0, .inr (1, [.ref t0, .int 1])), (t0, .inl (cT, 300, .inl (upd (upd (fun _ => (0 : Int32)) (0 : Int32).toNatClampNeg (vp_nar .byte (bc x 7).toInt8.toInt32)) (1 : Int32).toNatClampNeg (vp_nar .byte (bc x 6).toInt8.toInt32))))] H6 := hP
  have hD : va_D A [(h0, .inr (1, [.ref t0, .int 1])), (t0, .inl (cT, 300, .inl (upd (upd (fun _ => (0 : Int32)) (0 : Int32).toNatClampNeg (vp_nar .byte (bc x 7).toInt8.toInt32)) (1 : Int32).toNatClampNeg (vp_nar .byte (bc x 6).toInt8.toInt32))))] := hD
  refine lv_aload_n hx hb d_TX_put_59 rfl (lv_at hl 1 rfl) ?_
  refine lv_dup hx hb d_TX_put_60 rfl ?_
  refine va_get (D := (dC, dI)) (ci := 1) (v := .int 1) (C := R_TX) (T := T_TX) (N := 2) hx hb hts in_TX hown hK hP 0 rfl rfl 1 (by decide) (hts _ k_37) (fun _ h9 => h9) rfl d_TX_put_61 ?_
  refine lv_iconst (v := 1) hx hb d_TX_put_64 (by decide) ?_
  refine lv_iadd hx hb d_TX_put_65 ?_
  refine W.eq (g2 := F0 m 66 ls [.int 2, .ref h0]) rfl ?_
  refine va_put (D := (dC, dI)) (ci := 1) (v := .int 2) (ty := .int) (C := R_TX) (T := T_TX) (N := 2) hx hb hts in_TX t_TX t_TX_ok n_TX hown hK hP hD hS 0 rfl rfl 1 (by decide) (hts _ k_37) (fun _ h9 => h9) rfl (by decide +kernel) rfl rfl (Nat.le_of_ble_eq_true rfl) d_TX_put_66 (fun H7 locs hP hD hS => ?_)
  have hP : va_P (dC, dI) cls [(h0, .inr (1, [.ref t0, .int 2])), (t0, .inl (cT, 300, .inl (upd (upd (fun _ => (0 : Int32)) (0 : Int32).toNatClampNeg (vp_nar .byte (bc x 7).toInt8.toInt32)) (1 : Int32).toNatClampNeg (vp_nar .byte (bc x 6).toInt8.toInt32))))] H7 := hP
  have hD : va_D A [(h0, .inr (1, [.ref t0, .int 2])), (t0, .inl (cT, 300, .inl (upd (upd (fun _ => (0 : Int32)) (0 : Int32).toNatClampNeg (vp_nar .byte (bc x 7).toInt8.toInt32)) (1 : Int32).toNatClampNeg (vp_nar .byte (bc x 6).toInt8.toInt32))))] := hD
  refine lv_iinc (k := 0) (v := 5) hx hb d_TX_put_69 hl rfl (by decide) (by decide) rfl (fun ls hl => ?_)
  have hl : lv_has ls 5 [(4, .int 5), (0, .ref h0), (1, .long x), (3, .int 8)] := hl
  refine lv_goto (tgt := 38) hx hb d_TX_put_72 (by decide) ?_
  refine lv_iload hx hb d_TX_put_38 (lv_at hl 0 rfl) ?_
  refine lv_if_lt (tgt := 75) hx hb d_TX_put_40 (by decide) (fun h9 => absurd h9 (by decide)) (fun _ => ?_)
  refine lv_aload_n hx hb d_TX_put_43 rfl (lv_at hl 1 rfl) ?_
  refine va_get (D := (dC, dI)) (ci := 1) (v := .ref t0) (C := R_TX) (T := T_TX) (N := 2) hx hb hts in_TX hown hK hP 0 rfl rfl 0 (by decide) (hts _ k_36) (fun _ h9 => h9) rfl d_TX_put_44 ?_
  refine lv_aload_n hx hb d_TX_put_47 rfl (lv_at hl 1 rfl) ?_
  refine va_get (D := (dC, dI)) (ci := 1) (v := .int 2) (C := R_TX) (T := T_TX) (N := 2) hx hb hts in_TX hown hK hP 0 rfl rfl 1 (by decide) (hts _ k_37) (fun _ h9 => h9) rfl d_TX_put_48 ?_
  refine lv_lload_n hx hb d_TX_put_51 rfl (lv_at hl 2 rfl) ?_
  refine lv_iload hx hb d_TX_put_52 (lv_at hl 0 rfl) ?_
  refine va_calli (va_runS (As := [.long x, .int 5]) (rest := [.int 2, .ref t0]) ⟨hx, hb, hml, hown, hts⟩ (c_TX_byteOf l dC dI (x) (5)) (wd_S 2 hts k_351 k_2 k_349 k_350 rfl rfl (by decide +kernel) ⟨Nat.le_of_ble_eq_true rfl, Nat.le_of_ble_eq_true rfl⟩) ⟨fun a U g mk q => by obtain ⟨q0, qP, qK, qN⟩ := q; exact ⟨q0, qP, va_K.moved (u := U) (U := U.calling g mk a) (Vm.Alike.refl U.vm) qK, nw_ok.same (s := U) (U := U.calling g mk a) rfl qN⟩, fun U hU hW => ⟨rfl, by rw [hU]; exact hP.sub (ws' := []) [] rfl, va_K.moved hW.alike (hK.sub (tys' := []) [] rfl), nw_ok.warm hW hN⟩⟩ rfl rfl hl.1 rfl (lv_room (Nat.le_of_ble_eq_true rfl)) d_TX_put_54 ⟨Nat.le_of_ble_eq_true rfl, Nat.le_of_ble_eq_true rfl⟩) hS (fun q _ h => h.elim) (fun q h => h.elim) (fun r4 u t H8 locs ht hvm hr4 hB hz1 hk1 hS => ?_)
  try dsimp only at hr4
  subst hr4
  have hP : va_P (dC, dI) cls [(h0, .inr (1, [.ref t0, .int 2])), (t0, .inl (cT, 300, .inl (upd (upd (fun _ => (0 : Int32)) (0 : Int32).toNatClampNeg (vp_nar .byte (bc x 7).toInt8.toInt32)) (1 : Int32).toNatClampNeg (vp_nar .byte (bc x 6).toInt8.toInt32))))] H8 := hP.kept (fun k q hq => hk1 q.1 (hP k q hq).lt id)
  have hP : va_P (dC, dI) cls [(h0, .inr (1, [.ref t0, .int 2])), (t0, .inl (cT, 300, .inl (upd (upd (fun _ => (0 : Int32)) (0 : Int32).toNatClampNeg (vp_nar .byte (bc x 7).toInt8.toInt32)) (1 : Int32).toNatClampNeg (vp_nar .byte (bc x 6).toInt8.toInt32))))] H8 := hP
  have hD : va_D A [(h0, .inr (1, [.ref t0, .int 2])), (t0, .inl (cT, 300, .inl (upd (upd (fun _ => (0 : Int32)) (0 : Int32).toNatClampNeg (vp_nar .byte (bc x 7).toInt8.toInt32)) (1 : Int32).toNatClampNeg (vp_nar .byte (bc x 6).toInt8.toInt32))))] := hD
  refine lv_i2b (v := (bc x 5).toInt8.toInt32) hx hb d_TX_put_57 rfl ?_
  refine va_bast hx hb hK hP hD hS 1 0 rfl rfl (show ¬ ((2 : Int32) < 0 ∨ 300 ≤ (2 : Int32).toNatClampNeg) from by decide) d_TX_put_58 (fun H9 locs hP hD hS => ?_)
  have hP : va_P (dC, dI) cls [(h0, .inr (1, [.ref t0, .int 2])), (t0, .inl (cT, 300, .inl (upd (upd (upd (fun _ => (0 : Int32)) (0 : Int32).toNatClampNeg (vp_nar .byte (bc x 7).toInt8.toInt32)) (1 : Int32).toNatClampNeg (vp_nar .byte (bc x 6).toInt8.toInt32)) (2 : Int32).toNatClampNeg (vp_nar .byte (bc x 5).toInt8.toInt32))))] H9 := hP
  have hD : va_D A [(h0, .inr (1, [.ref t0, .int 2])), (t0, .inl (cT, 300, .inl (upd (upd (upd (fun _ => (0 : Int32)) (0 : Int32).toNatClampNeg (vp_nar .byte (bc x 7).toInt8.toInt32)) (1 : Int32).toNatClampNeg (vp_nar .byte (bc x 6).toInt8.toInt32)) (2 : Int32).toNatClampNeg (vp_nar .byte (bc x 5).toInt8.toInt32))))] := hD
  refine lv_aload_n hx hb d_TX_put_59 rfl (lv_at hl 1 rfl) ?_
  refine lv_dup hx hb d_TX_put_60 rfl ?_
  refine va_get (D := (dC, dI)) (ci := 1) (v := .int 2) (C := R_TX) (T := T_TX) (N := 2) hx hb hts in_TX hown hK hP 0 rfl rfl 1 (by decide) (hts _ k_37) (fun _ h9 => h9) rfl d_TX_put_61 ?_
  refine lv_iconst (v := 1) hx hb d_TX_put_64 (by decide) ?_
  refine lv_iadd hx hb d_TX_put_65 ?_
  refine W.eq (g2 := F0 m 66 ls [.int 3, .ref h0]) rfl ?_
  refine va_put (D := (dC, dI)) (ci := 1) (v := .int 3) (ty := .int) (C := R_TX) (T := T_TX) (N := 2) hx hb hts in_TX t_TX t_TX_ok n_TX hown hK hP hD hS 0 rfl rfl 1 (by decide) (hts _ k_37) (fun _ h9 => h9) rfl (by decide +kernel) rfl rfl (Nat.le_of_ble_eq_true rfl) d_TX_put_66 (fun H10 locs hP hD hS => ?_)
  have hP : va_P (dC, dI) cls [(h0, .inr (1, [.ref t0, .int 3])), (t0, .inl (cT, 300, .inl (upd (upd (upd (fun _ => (0 : Int32)) (0 : Int32).toNatClampNeg (vp_nar .byte (bc x 7).toInt8.toInt32)) (1 : Int32).toNatClampNeg (vp_nar .byte (bc x 6).toInt8.toInt32)) (2 : Int32).toNatClampNeg (vp_nar .byte (bc x 5).toInt8.toInt32))))] H10 := hP
  have hD : va_D A [(h0, .inr (1, [.ref t0, .int 3])), (t0, .inl (cT, 300, .inl (upd (upd (upd (fun _ => (0 : Int32)) (0 : Int32).toNatClampNeg (vp_nar .byte (bc x 7).toInt8.toInt32)) (1 : Int32).toNatClampNeg (vp_nar .byte (bc x 6).toInt8.toInt32)) (2 : Int32).toNatClampNeg (vp_nar .byte (bc x 5).toInt8.toInt32))))] := hD
  refine lv_iinc (k := 0) (v := 4) hx hb d_TX_put_69 hl rfl (by decide) (by decide) rfl (fun ls hl => ?_)
  have hl : lv_has ls 5 [(4, .int 4), (0, .ref h0), (1, .long x), (3, .int 8)] := hl
  refine lv_goto (tgt := 38) hx hb d_TX_put_72 (by decide) ?_
  refine lv_iload hx hb d_TX_put_38 (lv_at hl 0 rfl) ?_
  refine lv_if_lt (tgt := 75) hx hb d_TX_put_40 (by decide) (fun h9 => absurd h9 (by decide)) (fun _ => ?_)
  refine lv_aload_n hx hb d_TX_put_43 rfl (lv_at hl 1 rfl) ?_
  refine va_get (D := (dC, dI)) (ci := 1) (v := .ref t0) (C := R_TX) (T := T_TX) (N := 2) hx hb hts in_TX hown hK hP 0 rfl rfl 0 (by decide) (hts _ k_36) (fun _ h9 => h9) rfl d_TX_put_44 ?_
  refine lv_aload_n hx hb d_TX_put_47 rfl (lv_at hl 1 rfl) ?_
  refine va_get (D := (dC, dI)) (ci := 1) (v := .int 3) (C := R_TX) (T := T_TX) (N := 2) hx hb hts in_TX hown hK hP 0 rfl rfl 1 (by decide) (hts _ k_37) (fun _ h9 => h9) rfl d_TX_put_48 ?_
  refine lv_lload_n hx hb d_TX_put_51 rfl (lv_at hl 2 rfl) ?_
  refine lv_iload hx hb d_TX_put_52 (lv_at hl 0 rfl) ?_
  refine va_calli (va_runS (As := [.long x, .int 4]) (rest := [.int 3, .ref t0]) ⟨hx, hb, hml, hown, hts⟩ (c_TX_byteOf l dC dI (x) (4)) (wd_S 2 hts k_351 k_2 k_349 k_350 rfl rfl (by decide +kernel) ⟨Nat.le_of_ble_eq_true rfl, Nat.le_of_ble_eq_true rfl⟩) ⟨fun a U g mk q => by obtain ⟨q0, qP, qK, qN⟩ := q; exact ⟨q0, qP, va_K.moved (u := U) (U := U.calling g mk a) (Vm.Alike.refl U.vm) qK, nw_ok.same (s := U) (U := U.calling g mk a) rfl qN⟩, fun U hU hW => ⟨rfl, by rw [hU]; exact hP.sub (ws' := []) [] rfl, va_K.moved hW.alike (hK.sub (tys' := []) [] rfl), nw_ok.warm hW hN⟩⟩ rfl rfl hl.1 rfl (lv_room (Nat.le_of_ble_eq_true rfl)) d_TX_put_54 ⟨Nat.le_of_ble_eq_true rfl, Nat.le_of_ble_eq_true rfl⟩) hS (fun q _ h => h.elim) (fun q h => h.elim) (fun r5 u t H11 locs ht hvm hr5 hB hz1 hk1 hS => ?_)
  try dsimp only at hr5
  subst hr5
  have hP : va_P (dC, dI) cls [(h0, .inr (1, [.ref t0, .int 3])), (t0, .inl (cT, 300, .inl (upd (upd (upd (fun _ => (0 : Int32)) (0 : Int32).toNatClampNeg (vp_nar .byte (bc x 7).toInt8.toInt32)) (1 : Int32).toNatClampNeg (vp_nar .byte (bc x 6).toInt8.toInt32)) (2 : Int32).toNatClampNeg (vp_nar .byte (bc x 5).toInt8.toInt32))))] H11 := hP.kept (fun k q hq => hk1 q.1 (hP k q hq).lt id)
  have hP : va_P (dC, dI) cls [(h0, .inr (1, [.ref t0, .int 3])), (t0, .inl (cT, 300, .inl (upd (upd (upd (fun _ => (0 : Int32)) (0 : Int32).toNatClampNeg (vp_nar .byte (bc x 7).toInt8.toInt32)) (1 : Int32).toNatClampNeg (vp_nar .byte (bc x 6).toInt8.toInt32)) (2 : Int32).toNatClampNeg (vp_nar .byte (bc x 5).toInt8.toInt32))))] H11 := hP
  have hD : va_D A [(h0, .inr (1, [.ref t0, .int 3])), (t0, .inl (cT, 300, .inl (upd (upd (upd (fun _ => (0 : Int32)) (0 : Int32).toNatClampNeg (vp_nar .byte (bc x 7).toInt8.toInt32)) (1 : Int32).toNatClampNeg (vp_nar .byte (bc x 6).toInt8.toInt32)) (2 : Int32).toNatClampNeg (vp_nar .byte (bc x 5).toInt8.toInt32))))] := hD
  refine lv_i2b (v := (bc x 4).toInt8.toInt32) hx hb d_TX_put_57 rfl ?_
  refine va_bast hx hb hK hP hD hS 1 0 rfl rfl (show ¬ ((3 : Int32) < 0 ∨ 300 ≤ (3 : Int32).toNatClampNeg) from by decide) d_TX_put_58 (fun H12 locs hP hD hS => ?_)
  have hP : va_P (dC, dI) cls [(h0, .inr (1, [.ref t0, .int 3])), (t0, .inl (cT, 300, .inl (upd (upd (upd (upd (fun _ => (0 : Int32)) (0 : Int32).toNatClampNeg (vp_nar .byte (bc x 7).toInt8.toInt32)) (1 : Int32).toNatClampNeg (vp_nar .byte (bc x 6).toInt8.toInt32)) (2 : Int32).toNatClampNeg (vp_nar .byte (bc x 5).toInt8.toInt32)) (3 : Int32).toNatClampNeg (vp_nar .byte (bc x 4).toInt8.toInt32))))] H12 := hP
  have hD : va_D A [(h0, .inr (1, [.ref t0, .int 3])), (t0, .inl (cT, 300, .inl (upd (upd (upd (upd (fun _ => (0 : Int32)) (0 : Int32).toNatClampNeg (vp_nar .byte (bc x 7).toInt8.toInt32)) (1 : Int32).toNatClampNeg (vp_nar .byte (bc x 6).toInt8.toInt32)) (2 : Int32).toNatClampNeg (vp_nar .byte (bc x 5).toInt8.toInt32)) (3 : Int32).toNatClampNeg (vp_nar .byte (bc x 4).toInt8.toInt32))))] := hD
  refine lv_aload_n hx hb d_TX_put_59 rfl (lv_at hl 1 rfl) ?_
  refine lv_dup hx hb d_TX_put_60 rfl ?_
  refine va_get (D := (dC, dI)) (ci := 1) (v := .int 3) (C := R_TX) (T := T_TX) (N := 2) hx hb hts in_TX hown hK hP 0 rfl rfl 1 (by decide) (hts _ k_37) (fun _ h9 => h9) rfl d_TX_put_61 ?_
  refine lv_iconst (v := 1) hx hb d_TX_put_64 (by decide) ?_
  refine lv_iadd hx hb d_TX_put_65 ?_
  refine W.eq (g2 := F0 m 66 ls [.int 4, .ref h0]) rfl ?_
  refine va_put (D := (dC, dI)) (ci := 1) (v := .int 4) (ty := .int) (C := R_TX) (T := T_TX) (N := 2) hx hb hts in_TX t_TX t_TX_ok n_TX hown hK hP hD hS 0 rfl rfl 1 (by decide) (hts _ k_37) (fun _ h9 => h9) rfl (by decide +kernel) rfl rfl (Nat.le_of_ble_eq_true rfl) d_TX_put_66 (fun H13 locs hP hD hS => ?_)
  have hP : va_P (dC, dI) cls [(h0, .inr (1, [.ref t0, .int 4])), (t0, .inl (cT, 300, .inl (upd (upd (upd (upd (fun _ => (0 : Int32)) (0 : Int32).toNatClampNeg (vp_nar .byte (bc x 7).toInt8.toInt32)) (1 : Int32).toNatClampNeg (vp_nar .byte (bc x 6).toInt8.toInt32)) (2 : Int32).toNatClampNeg (vp_nar .byte (bc x 5).toInt8.toInt32)) (3 : Int32).toNatClampNeg (vp_nar .byte (bc x 4).toInt8.toInt32))))] H13 := hP
  have hD : va_D A [(h0, .inr (1, [.ref t0, .int 4])), (t0, .inl (cT, 300, .inl (upd (upd (upd (upd (fun _ => (0 : Int32)) (0 : Int32).toNatClampNeg (vp_nar .byte (bc x 7).toInt8.toInt32)) (1 : Int32).toNatClampNeg (vp_nar .byte (bc x 6).toInt8.toInt32)) (2 : Int32).toNatClampNeg (vp_nar .byte (bc x 5).toInt8.toInt32)) (3 : Int32).toNatClampNeg (vp_nar .byte (bc x 4).toInt8.toInt32))))] := hD
  refine lv_iinc (k := 0) (v := 3) hx hb d_TX_put_69 hl rfl (by decide) (by decide) rfl (fun ls hl => ?_)
  have hl : lv_has ls 5 [(4, .int 3), (0, .ref h0), (1, .long x), (3, .int 8)] := hl
  refine lv_goto (tgt := 38) hx hb d_TX_put_72 (by decide) ?_
  refine lv_iload hx hb d_TX_put_38 (lv_at hl 0 rfl) ?_
  refine lv_if_lt (tgt := 75) hx hb d_TX_put_40 (by decide) (fun h9 => absurd h9 (by decide)) (fun _ => ?_)
  refine lv_aload_n hx hb d_TX_put_43 rfl (lv_at hl 1 rfl) ?_
  refine va_get (D := (dC, dI)) (ci := 1) (v := .ref t0) (C := R_TX) (T := T_TX) (N := 2) hx hb hts in_TX hown hK hP 0 rfl rfl 0 (by decide) (hts _ k_36) (fun _ h9 => h9) rfl d_TX_put_44 ?_
  refine lv_aload_n hx hb d_TX_put_47 rfl (lv_at hl 1 rfl) ?_
  refine va_get (D := (dC, dI)) (ci := 1) (v := .int 4) (C := R_TX) (T := T_TX) (N := 2) hx hb hts in_TX hown hK hP 0 rfl rfl 1 (by decide) (hts _ k_37) (fun _ h9 => h9) rfl d_TX_put_48 ?_
  refine lv_lload_n hx hb d_TX_put_51 rfl (lv_at hl 2 rfl) ?_
  refine lv_iload hx hb d_TX_put_52 (lv_at hl 0 rfl) ?_
  refine va_calli (va_runS (As := [.long x, .int 3]) (rest := [.int 4, .ref t0]) ⟨hx, hb, hml, hown, hts⟩ (c_TX_byteOf l dC dI (x) (3)) (wd_S 2 hts k_351 k_2 k_349 k_350 rfl rfl (by decide +kernel) ⟨Nat.le_of_ble_eq_true rfl, Nat.le_of_ble_eq_true rfl⟩) ⟨fun a U g mk q => by obtain ⟨q0, qP, qK, qN⟩ := q; exact ⟨q0, qP, va_K.moved (u := U) (U := U.calling g mk a) (Vm.Alike.refl U.vm) qK, nw_ok.same (s := U) (U := U.calling g mk a) rfl qN⟩, fun U hU hW => ⟨rfl, by rw [hU]; exact hP.sub (ws' := []) [] rfl, va_K.moved hW.alike (hK.sub (tys' := []) [] rfl), nw_ok.warm hW hN⟩⟩ rfl rfl hl.1 rfl (lv_room (Nat.le_of_ble_eq_true rfl)) d_TX_put_54 ⟨Nat.le_of_ble_eq_true rfl, Nat.le_of_ble_eq_true rfl⟩) hS (fun q _ h => h.elim) (fun q h => h.elim) (fun r6 u t H14 locs ht hvm hr6 hB hz1 hk1 hS => ?_)
  try dsimp only at hr6
  subst hr6
  have hP : va_P (dC, dI) cls [(h0, .inr (1, [.ref t0, .int 4])), (t0, .inl (cT, 300, .inl (upd (upd (upd (upd (fun _ => (0 : Int32)) (0 : Int32).toNatClampNeg (vp_nar .byte (bc x 7).toInt8.toInt32)) (1 : Int32).toNatClampNeg (vp_nar .byte (bc x 6).toInt8.toInt32)) (2 : Int32).toNatClampNeg (vp_nar .byte (bc x 5).toInt8.toInt32)) (3 : Int32).toNatClampNeg (vp_nar .byte (bc x 4).toInt8.toInt32))))] H14 := hP.kept (fun k q hq => hk1 q.1 (hP k q hq).lt id)
  have hP : va_P (dC, dI) cls [(h0, .inr (1, [.ref t0, .int 4])), (t0, .inl (cT, 300, .inl (upd (upd (upd (upd (fun _ => (0 : Int32)) (0 : Int32).toNatClampNeg (vp_nar .byte (bc x 7).toInt8.toInt32)) (1 : Int32).toNatClampNeg (vp_nar .byte (bc x 6).toInt8.toInt32)) (2 : Int32).toNatClampNeg (vp_nar .byte (bc x 5).toInt8.toInt32)) (3 : Int32).toNatClampNeg (vp_nar .byte (bc x 4).toInt8.toInt32))))] H14 := hP
  have hD : va_D A [(h0, .inr (1, [.ref t0, .int 4])), (t0, .inl (cT, 300, .inl (upd (upd (upd (upd (fun _ => (0 : Int32)) (0 : Int32).toNatClampNeg (vp_nar .byte (bc x 7).toInt8.toInt32)) (1 : Int32).toNatClampNeg (vp_nar .byte (bc x 6).toInt8.toInt32)) (2 : Int32).toNatClampNeg (vp_nar .byte (bc x 5).toInt8.toInt32)) (3 : Int32).toNatClampNeg (vp_nar .byte (bc x 4).toInt8.toInt32))))] := hD
  refine lv_i2b (v := (bc x 3).toInt8.toInt32) hx hb d_TX_put_57 rfl ?_
  refine va_bast hx hb hK hP hD hS 1 0 rfl rfl (show ¬ ((4 : Int32) < 0 ∨ 300 ≤ (4 : Int32).toNatClampNeg) from by decide) d_TX_put_58 (fun H15 locs hP hD hS => ?_)
  have hP : va_P (dC, dI) cls [(h0, .inr (1, [.ref t0, .int 4])), (t0, .inl (cT, 300, .inl (upd (upd (upd (upd (upd (fun _ => (0 : Int32)) (0 : Int32).toNatClampNeg (vp_nar .byte (bc x 7).toInt8.toInt32)) (1 : Int32).toNatClampNeg (vp_nar .byte (bc x 6).toInt8.toInt32)) (2 : Int32).toNatClampNeg (vp_nar .byte (bc x 5).toInt8.toInt32)) (3 : Int32).toNatClampNeg (vp_nar .byte (bc x 4).toInt8.toInt32)) (4 : Int32).toNatClampNeg (vp_nar .byte (bc x 3).toInt8.toInt32))))] H15 := hP
  have hD : va_D A [(h0, .inr (1, [.ref t0, .int 4])), (t0, .inl (cT, 300, .inl (upd (upd (upd (upd (upd (fun _ => (0 : Int32)) (0 : Int32).toNatClampNeg (vp_nar .byte (bc x 7).toInt8.toInt32)) (1 : Int32).toNatClampNeg (vp_nar .byte (bc x 6).toInt8.toInt32)) (2 : Int32).toNatClampNeg (vp_nar .byte (bc x 5).toInt8.toInt32)) (3 : Int32).toNatClampNeg (vp_nar .byte (bc x 4).toInt8.toInt32)) (4 : Int32).toNatClampNeg (vp_nar .byte (bc x 3).toInt8.toInt32))))] := hD
  refine lv_aload_n hx hb d_TX_put_59 rfl (lv_at hl 1 rfl) ?_
  refine lv_dup hx hb d_TX_put_60 rfl ?_
  refine va_get (D := (dC, dI)) (ci := 1) (v := .int 4) (C := R_TX) (T := T_TX) (N := 2) hx hb hts in_TX hown hK hP 0 rfl rfl 1 (by decide) (hts _ k_37) (fun _ h9 => h9) rfl d_TX_put_61 ?_
  refine lv_iconst (v := 1) hx hb d_TX_put_64 (by decide) ?_
  refine lv_iadd hx hb d_TX_put_65 ?_
  refine W.eq (g2 := F0 m 66 ls [.int 5, .ref h0]) rfl ?_
  refine va_put (D := (dC, dI)) (ci := 1) (v := .int 5) (ty := .int) (C := R_TX) (T := T_TX) (N := 2) hx hb hts in_TX t_TX t_TX_ok n_TX hown hK hP hD hS 0 rfl rfl 1 (by decide) (hts _ k_37) (fun _ h9 => h9) rfl (by decide +kernel) rfl rfl (Nat.le_of_ble_eq_true rfl) d_TX_put_66 (fun H16 locs hP hD hS => ?_)
  have hP : va_P (dC, dI) cls [(h0, .inr (1, [.ref t0, .int 5])), (t0, .inl (cT, 300, .inl (upd (upd (upd (upd (upd (fun _ => (0 : Int32)) (0 : Int32).toNatClampNeg (vp_nar .byte (bc x 7).toInt8.toInt32)) (1 : Int32).toNatClampNeg (vp_nar .byte (bc x 6).toInt8.toInt32)) (2 : Int32).toNatClampNeg (vp_nar .byte (bc x 5).toInt8.toInt32)) (3 : Int32).toNatClampNeg (vp_nar .byte (bc x 4).toInt8.toInt32)) (4 : Int32).toNatClampNeg (vp_nar .byte (bc x 3).toInt8.toInt32))))] H16 := hP
  have hD : va_D A [(h0, .inr (1, [.ref t0, .int 5])), (t0, .inl (cT, 300, .inl (upd (upd (upd (upd (upd (fun _ => (0 : Int32)) (0 : Int32).toNatClampNeg (vp_nar .byte (bc x 7).toInt8.toInt32)) (1 : Int32).toNatClampNeg (vp_nar .byte (bc x 6).toInt8.toInt32)) (2 : Int32).toNatClampNeg (vp_nar .byte (bc x 5).toInt8.toInt32)) (3 : Int32).toNatClampNeg (vp_nar .byte (bc x 4).toInt8.toInt32)) (4 : Int32).toNatClampNeg (vp_nar .byte (bc x 3).toInt8.toInt32))))] := hD
  refine lv_iinc (k := 0) (v := 2) hx hb d_TX_put_69 hl rfl (by decide) (by decide) rfl (fun ls hl => ?_)
  have hl : lv_has ls 5 [(4, .int 2), (0, .ref h0), (1, .long x), (3, .int 8)] := hl
  refine lv_goto (tgt := 38) hx hb d_TX_put_72 (by decide) ?_
  refine lv_iload hx hb d_TX_put_38 (lv_at hl 0 rfl) ?_
  refine lv_if_lt (tgt := 75) hx hb d_TX_put_40 (by decide) (fun h9 => absurd h9 (by decide)) (fun _ => ?_)
  refine lv_aload_n hx hb d_TX_put_43 rfl (lv_at hl 1 rfl) ?_
  refine va_get (D := (dC, dI)) (ci := 1) (v := .ref t0) (C := R_TX) (T := T_TX) (N := 2) hx hb hts in_TX hown hK hP 0 rfl rfl 0 (by decide) (hts _ k_36) (fun _ h9 => h9) rfl d_TX_put_44 ?_
  refine lv_aload_n hx hb d_TX_put_47 rfl (lv_at hl 1 rfl) ?_
  refine va_get (D := (dC, dI)) (ci := 1) (v := .int 5) (C := R_TX) (T := T_TX) (N := 2) hx hb hts in_TX hown hK hP 0 rfl rfl 1 (by decide) (hts _ k_37) (fun _ h9 => h9) rfl d_TX_put_48 ?_
  refine lv_lload_n hx hb d_TX_put_51 rfl (lv_at hl 2 rfl) ?_
  refine lv_iload hx hb d_TX_put_52 (lv_at hl 0 rfl) ?_
  refine va_calli (va_runS (As := [.long x, .int 2]) (rest := [.int 5, .ref t0]) ⟨hx, hb, hml, hown, hts⟩ (c_TX_byteOf l dC dI (x) (2)) (wd_S 2 hts k_351 k_2 k_349 k_350 rfl rfl (by decide +kernel) ⟨Nat.le_of_ble_eq_true rfl, Nat.le_of_ble_eq_true rfl⟩) ⟨fun a U g mk q => by obtain ⟨q0, qP, qK, qN⟩ := q; exact ⟨q0, qP, va_K.moved (u := U) (U := U.calling g mk a) (Vm.Alike.refl U.vm) qK, nw_ok.same (s := U) (U := U.calling g mk a) rfl qN⟩, fun U hU hW => ⟨rfl, by rw [hU]; exact hP.sub (ws' := []) [] rfl, va_K.moved hW.alike (hK.sub (tys' := []) [] rfl), nw_ok.warm hW hN⟩⟩ rfl rfl hl.1 rfl (lv_room (Nat.le_of_ble_eq_true rfl)) d_TX_put_54 ⟨Nat.le_of_ble_eq_true rfl, Nat.le_of_ble_eq_true rfl⟩) hS (fun q _ h => h.elim) (fun q h => h.elim) (fun r7 u t H17 locs ht hvm hr7 hB hz1 hk1 hS => ?_)
  try dsimp only at hr7
  subst hr7
  have hP : va_P (dC, dI) cls [(h0, .inr (1, [.ref t0, .int 5])), (t0, .inl (cT, 300, .inl (upd (upd (upd (upd (upd (fun _ => (0 : Int32)) (0 : Int32).toNatClampNeg (vp_nar .byte (bc x 7).toInt8.toInt32)) (1 : Int32).toNatClampNeg (vp_nar .byte (bc x 6).toInt8.toInt32)) (2 : Int32).toNatClampNeg (vp_nar .byte (bc x 5).toInt8.toInt32)) (3 : Int32).toNatClampNeg (vp_nar .byte (bc x 4).toInt8.toInt32)) (4 : Int32).toNatClampNeg (vp_nar .byte (bc x 3).toInt8.toInt32))))] H17 := hP.kept (fun k q hq => hk1 q.1 (hP k q hq).lt id)
  have hP : va_P (dC, dI) cls [(h0, .inr (1, [.ref t0, .int 5])), (t0, .inl (cT, 300, .inl (upd (upd (upd (upd (upd (fun _ => (0 : Int32)) (0 : Int32).toNatClampNeg (vp_nar .byte (bc x 7).toInt8.toInt32)) (1 : Int32).toNatClampNeg (vp_nar .byte (bc x 6).toInt8.toInt32)) (2 : Int32).toNatClampNeg (vp_nar .byte (bc x 5).toInt8.toInt32)) (3 : Int32).toNatClampNeg (vp_nar .byte (bc x 4).toInt8.toInt32)) (4 : Int32).toNatClampNeg (vp_nar .byte (bc x 3).toInt8.toInt32))))] H17 := hP
  have hD : va_D A [(h0, .inr (1, [.ref t0, .int 5])), (t0, .inl (cT, 300, .inl (upd (upd (upd (upd (upd (fun _ => (0 : Int32)) (0 : Int32).toNatClampNeg (vp_nar .byte (bc x 7).toInt8.toInt32)) (1 : Int32).toNatClampNeg (vp_nar .byte (bc x 6).toInt8.toInt32)) (2 : Int32).toNatClampNeg (vp_nar .byte (bc x 5).toInt8.toInt32)) (3 : Int32).toNatClampNeg (vp_nar .byte (bc x 4).toInt8.toInt32)) (4 : Int32).toNatClampNeg (vp_nar .byte (bc x 3).toInt8.toInt32))))] := hD
  refine lv_i2b (v := (bc x 2).toInt8.toInt32) hx hb d_TX_put_57 rfl ?_
  refine va_bast hx hb hK hP hD hS 1 0 rfl rfl (show ¬ ((5 : Int32) < 0 ∨ 300 ≤ (5 : Int32).toNatClampNeg) from by decide) d_TX_put_58 (fun H18 locs hP hD hS => ?_)
  have hP : va_P (dC, dI) cls [(h0, .inr (1, [.ref t0, .int 5])), (t0, .inl (cT, 300, .inl (upd (upd (upd (upd (upd (upd (fun _ => (0 : Int32)) (0 : Int32).toNatClampNeg (vp_nar .byte (bc x 7).toInt8.toInt32)) (1 : Int32).toNatClampNeg (vp_nar .byte (bc x 6).toInt8.toInt32)) (2 : Int32).toNatClampNeg (vp_nar .byte (bc x 5).toInt8.toInt32)) (3 : Int32).toNatClampNeg (vp_nar .byte (bc x 4).toInt8.toInt32)) (4 : Int32).toNatClampNeg (vp_nar .byte (bc x 3).toInt8.toInt32)) (5 : Int32).toNatClampNeg (vp_nar .byte (bc x 2).toInt8.toInt32))))] H18 := hP
  have hD : va_D A [(h0, .inr (1, [.ref t0, .int 5])), (t0, .inl (cT, 300, .inl (upd (upd (upd (upd (upd (upd (fun _ => (0 : Int32)) (0 : Int32).toNatClampNeg (vp_nar .byte (bc x 7).toInt8.toInt32)) (1 : Int32).toNatClampNeg (vp_nar .byte (bc x 6).toInt8.toInt32)) (2 : Int32).toNatClampNeg (vp_nar .byte (bc x 5).toInt8.toInt32)) (3 : Int32).toNatClampNeg (vp_nar .byte (bc x 4).toInt8.toInt32)) (4 : Int32).toNatClampNeg (vp_nar .byte (bc x 3).toInt8.toInt32)) (5 : Int32).toNatClampNeg (vp_nar .byte (bc x 2).toInt8.toInt32))))] := hD
  refine lv_aload_n hx hb d_TX_put_59 rfl (lv_at hl 1 rfl) ?_
  refine lv_dup hx hb d_TX_put_60 rfl ?_
  refine va_get (D := (dC, dI)) (ci := 1) (v := .int 5) (C := R_TX) (T := T_TX) (N := 2) hx hb hts in_TX hown hK hP 0 rfl rfl 1 (by decide) (hts _ k_37) (fun _ h9 => h9) rfl d_TX_put_61 ?_
  refine lv_iconst (v := 1) hx hb d_TX_put_64 (by decide) ?_
  refine lv_iadd hx hb d_TX_put_65 ?_
  refine W.eq (g2 := F0 m 66 ls [.int 6, .ref h0]) rfl ?_
  refine va_put (D := (dC, dI)) (ci := 1) (v := .int 6) (ty := .int) (C := R_TX) (T := T_TX) (N := 2) hx hb hts in_TX t_TX t_TX_ok n_TX hown hK hP hD hS 0 rfl rfl 1 (by decide) (hts _ k_37) (fun _ h9 => h9) rfl (by decide +kernel) rfl rfl (Nat.le_of_ble_eq_true rfl) d_TX_put_66 (fun H19 locs hP hD hS => ?_)
  have hP : va_P (dC, dI) cls [(h0, .inr (1, [.ref t0, .int 6])), (t0, .inl (cT, 300, .inl (upd (upd (upd (upd (upd (upd (fun _ => (0 : Int32)) (0 : Int32).toNatClampNeg (vp_nar .byte (bc x 7).toInt8.toInt32)) (1 : Int32).toNatClampNeg (vp_nar .byte (bc x 6).toInt8.toInt32)) (2 : Int32).toNatClampNeg (vp_nar .byte (bc x 5).toInt8.toInt32)) (3 : Int32).toNatClampNeg (vp_nar .byte (bc x 4).toInt8.toInt32)) (4 : Int32).toNatClampNeg (vp_nar .byte (bc x 3).toInt8.toInt32)) (5 : Int32).toNatClampNeg (vp_nar .byte (bc x 2).toInt8.toInt32))))] H19 := hP
  have hD : va_D A [(h0, .inr (1, [.ref t0, .int 6])), (t0, .inl (cT, 300, .inl (upd (upd (upd (upd (upd (upd (fun _ => (0 : Int32)) (0 : Int32).toNatClampNeg (vp_nar .byte (bc x 7).toInt8.toInt32)) (1 : Int32).toNatClampNeg (vp_nar .byte (bc x 6).toInt8.toInt32)) (2 : Int32).toNatClampNeg (vp_nar .byte (bc x 5).toInt8.toInt32)) (3 : Int32).toNatClampNeg (vp_nar .byte (bc x 4).toInt8.toInt32)) (4 : Int32).toNatClampNeg (vp_nar .byte (bc x 3).toInt8.toInt32)) (5 : Int32).toNatClampNeg (vp_nar .byte (bc x 2).toInt8.toInt32))))] := hD
  refine lv_iinc (k := 0) (v := 1) hx hb d_TX_put_69 hl rfl (by decide) (by decide) rfl (fun ls hl => ?_)
  have hl : lv_has ls 5 [(4, .int 1), (0, .ref h0), (1, .long x), (3, .int 8)] := hl
  refine lv_goto (tgt := 38) hx hb d_TX_put_72 (by decide) ?_
  refine lv_iload hx hb d_TX_put_38 (lv_at hl 0 rfl) ?_
  refine lv_if_lt (tgt := 75) hx hb d_TX_put_40 (by decide) (fun h9 => absurd h9 (by decide)) (fun _ => ?_)
  refine lv_aload_n hx hb d_TX_put_43 rfl (lv_at hl 1 rfl) ?_
  refine va_get (D := (dC, dI)) (ci := 1) (v := .ref t0) (C := R_TX) (T := T_TX) (N := 2) hx hb hts in_TX hown hK hP 0 rfl rfl 0 (by decide) (hts _ k_36) (fun _ h9 => h9) rfl d_TX_put_44 ?_
  refine lv_aload_n hx hb d_TX_put_47 rfl (lv_at hl 1 rfl) ?_
  refine va_get (D := (dC, dI)) (ci := 1) (v := .int 6) (C := R_TX) (T := T_TX) (N := 2) hx hb hts in_TX hown hK hP 0 rfl rfl 1 (by decide) (hts _ k_37) (fun _ h9 => h9) rfl d_TX_put_48 ?_
  refine lv_lload_n hx hb d_TX_put_51 rfl (lv_at hl 2 rfl) ?_
  refine lv_iload hx hb d_TX_put_52 (lv_at hl 0 rfl) ?_
  refine va_calli (va_runS (As := [.long x, .int 1]) (rest := [.int 6, .ref t0]) ⟨hx, hb, hml, hown, hts⟩ (c_TX_byteOf l dC dI (x) (1)) (wd_S 2 hts k_351 k_2 k_349 k_350 rfl rfl (by decide +kernel) ⟨Nat.le_of_ble_eq_true rfl, Nat.le_of_ble_eq_true rfl⟩) ⟨fun a U g mk q => by obtain ⟨q0, qP, qK, qN⟩ := q; exact ⟨q0, qP, va_K.moved (u := U) (U := U.calling g mk a) (Vm.Alike.refl U.vm) qK, nw_ok.same (s := U) (U := U.calling g mk a) rfl qN⟩, fun U hU hW => ⟨rfl, by rw [hU]; exact hP.sub (ws' := []) [] rfl, va_K.moved hW.alike (hK.sub (tys' := []) [] rfl), nw_ok.warm hW hN⟩⟩ rfl rfl hl.1 rfl (lv_room (Nat.le_of_ble_eq_true rfl)) d_TX_put_54 ⟨Nat.le_of_ble_eq_true rfl, Nat.le_of_ble_eq_true rfl⟩) hS (fun q _ h => h.elim) (fun q h => h.elim) (fun r8 u t H20 locs ht hvm hr8 hB hz1 hk1 hS => ?_)
  try dsimp only at hr8
  subst hr8
  have hP : va_P (dC, dI) cls [(h0, .inr (1, [.ref t0, .int 6])), (t0, .inl (cT, 300, .inl (upd (upd (upd (upd (upd (upd (fun _ => (0 : Int32)) (0 : Int32).toNatClampNeg (vp_nar .byte (bc x 7).toInt8.toInt32)) (1 : Int32).toNatClampNeg (vp_nar .byte (bc x 6).toInt8.toInt32)) (2 : Int32).toNatClampNeg (vp_nar .byte (bc x 5).toInt8.toInt32)) (3 : Int32).toNatClampNeg (vp_nar .byte (bc x 4).toInt8.toInt32)) (4 : Int32).toNatClampNeg (vp_nar .byte (bc x 3).toInt8.toInt32)) (5 : Int32).toNatClampNeg (vp_nar .byte (bc x 2).toInt8.toInt32))))] H20 := hP.kept (fun k q hq => hk1 q.1 (hP k q hq).lt id)
  have hP : va_P (dC, dI) cls [(h0, .inr (1, [.ref t0, .int 6])), (t0, .inl (cT, 300, .inl (upd (upd (upd (upd (upd (upd (fun _ => (0 : Int32)) (0 : Int32).toNatClampNeg (vp_nar .byte (bc x 7).toInt8.toInt32)) (1 : Int32).toNatClampNeg (vp_nar .byte (bc x 6).toInt8.toInt32)) (2 : Int32).toNatClampNeg (vp_nar .byte (bc x 5).toInt8.toInt32)) (3 : Int32).toNatClampNeg (vp_nar .byte (bc x 4).toInt8.toInt32)) (4 : Int32).toNatClampNeg (vp_nar .byte (bc x 3).toInt8.toInt32)) (5 : Int32).toNatClampNeg (vp_nar .byte (bc x 2).toInt8.toInt32))))] H20 := hP
  have hD : va_D A [(h0, .inr (1, [.ref t0, .int 6])), (t0, .inl (cT, 300, .inl (upd (upd (upd (upd (upd (upd (fun _ => (0 : Int32)) (0 : Int32).toNatClampNeg (vp_nar .byte (bc x 7).toInt8.toInt32)) (1 : Int32).toNatClampNeg (vp_nar .byte (bc x 6).toInt8.toInt32)) (2 : Int32).toNatClampNeg (vp_nar .byte (bc x 5).toInt8.toInt32)) (3 : Int32).toNatClampNeg (vp_nar .byte (bc x 4).toInt8.toInt32)) (4 : Int32).toNatClampNeg (vp_nar .byte (bc x 3).toInt8.toInt32)) (5 : Int32).toNatClampNeg (vp_nar .byte (bc x 2).toInt8.toInt32))))] := hD
  refine lv_i2b (v := (bc x 1).toInt8.toInt32) hx hb d_TX_put_57 rfl ?_
  refine va_bast hx hb hK hP hD hS 1 0 rfl rfl (show ¬ ((6 : Int32) < 0 ∨ 300 ≤ (6 : Int32).toNatClampNeg) from by decide) d_TX_put_58 (fun H21 locs hP hD hS => ?_)
  have hP : va_P (dC, dI) cls [(h0, .inr (1, [.ref t0, .int 6])), (t0, .inl (cT, 300, .inl (upd (upd (upd (upd (upd (upd (upd (fun _ => (0 : Int32)) (0 : Int32).toNatClampNeg (vp_nar .byte (bc x 7).toInt8.toInt32)) (1 : Int32).toNatClampNeg (vp_nar .byte (bc x 6).toInt8.toInt32)) (2 : Int32).toNatClampNeg (vp_nar .byte (bc x 5).toInt8.toInt32)) (3 : Int32).toNatClampNeg (vp_nar .byte (bc x 4).toInt8.toInt32)) (4 : Int32).toNatClampNeg (vp_nar .byte (bc x 3).toInt8.toInt32)) (5 : Int32).toNatClampNeg (vp_nar .byte (bc x 2).toInt8.toInt32)) (6 : Int32).toNatClampNeg (vp_nar .byte (bc x 1).toInt8.toInt32))))] H21 := hP
  have hD : va_D A [(h0, .inr (1, [.ref t0, .int 6])), (t0, .inl (cT, 300, .inl (upd (upd (upd (upd (upd (upd (upd (fun _ => (0 : Int32)) (0 : Int32).toNatClampNeg (vp_nar .byte (bc x 7).toInt8.toInt32)) (1 : Int32).toNatClampNeg (vp_nar .byte (bc x 6).toInt8.toInt32)) (2 : Int32).toNatClampNeg (vp_nar .byte (bc x 5).toInt8.toInt32)) (3 : Int32).toNatClampNeg (vp_nar .byte (bc x 4).toInt8.toInt32)) (4 : Int32).toNatClampNeg (vp_nar .byte (bc x 3).toInt8.toInt32)) (5 : Int32).toNatClampNeg (vp_nar .byte (bc x 2).toInt8.toInt32)) (6 : Int32).toNatClampNeg (vp_nar .byte (bc x 1).toInt8.toInt32))))] := hD
  refine lv_aload_n hx hb d_TX_put_59 rfl (lv_at hl 1 rfl) ?_
  refine lv_dup hx hb d_TX_put_60 rfl ?_
  refine va_get (D := (dC, dI)) (ci := 1) (v := .int 6) (C := R_TX) (T := T_TX) (N := 2) hx hb hts in_TX hown hK hP 0 rfl rfl 1 (by decide) (hts _ k_37) (fun _ h9 => h9) rfl d_TX_put_61 ?_
  refine lv_iconst (v := 1) hx hb d_TX_put_64 (by decide) ?_
  refine lv_iadd hx hb d_TX_put_65 ?_
  refine W.eq (g2 := F0 m 66 ls [.int 7, .ref h0]) rfl ?_
  refine va_put (D := (dC, dI)) (ci := 1) (v := .int 7) (ty := .int) (C := R_TX) (T := T_TX) (N := 2) hx hb hts in_TX t_TX t_TX_ok n_TX hown hK hP hD hS 0 rfl rfl 1 (by decide) (hts _ k_37) (fun _ h9 => h9) rfl (by decide +kernel) rfl rfl (Nat.le_of_ble_eq_true rfl) d_TX_put_66 (fun H22 locs hP hD hS => ?_)
  have hP : va_P (dC, dI) cls [(h0, .inr (1, [.ref t0, .int 7])), (t0, .inl (cT, 300, .inl (upd (upd (upd (upd (upd (upd (upd (fun _ => (0 : Int32)) (0 : Int32).toNatClampNeg (vp_nar .byte (bc x 7).toInt8.toInt32)) (1 : Int32).toNatClampNeg (vp_nar .byte (bc x 6).toInt8.toInt32)) (2 : Int32).toNatClampNeg (vp_nar .byte (bc x 5).toInt8.toInt32)) (3 : Int32).toNatClampNeg (vp_nar .byte (bc x 4).toInt8.toInt32)) (4 : Int32).toNatClampNeg (vp_nar .byte (bc x 3).toInt8.toInt32)) (5 : Int32).toNatClampNeg (vp_nar .byte (bc x 2).toInt8.toInt32)) (6 : Int32).toNatClampNeg (vp_nar .byte (bc x 1).toInt8.toInt32))))] H22 := hP
  have hD : va_D A [(h0, .inr (1, [.ref t0, .int 7])), (t0, .inl (cT, 300, .inl (upd (upd (upd (upd (upd (upd (upd (fun _ => (0 : Int32)) (0 : Int32).toNatClampNeg (vp_nar .byte (bc x 7).toInt8.toInt32)) (1 : Int32).toNatClampNeg (vp_nar .byte (bc x 6).toInt8.toInt32)) (2 : Int32).toNatClampNeg (vp_nar .byte (bc x 5).toInt8.toInt32)) (3 : Int32).toNatClampNeg (vp_nar .byte (bc x 4).toInt8.toInt32)) (4 : Int32).toNatClampNeg (vp_nar .byte (bc x 3).toInt8.toInt32)) (5 : Int32).toNatClampNeg (vp_nar .byte (bc x 2).toInt8.toInt32)) (6 : Int32).toNatClampNeg (vp_nar .byte (bc x 1).toInt8.toInt32))))] := hD
  refine lv_iinc (k := 0) (v := 0) hx hb d_TX_put_69 hl rfl (by decide) (by decide) rfl (fun ls hl => ?_)
  have hl : lv_has ls 5 [(4, .int 0), (0, .ref h0), (1, .long x), (3, .int 8)] := hl
  refine lv_goto (tgt := 38) hx hb d_TX_put_72 (by decide) ?_
  refine lv_iload hx hb d_TX_put_38 (lv_at hl 0 rfl) ?_
  refine lv_if_lt (tgt := 75) hx hb d_TX_put_40 (by decide) (fun h9 => absurd h9 (by decide)) (fun _ => ?_)
  refine lv_aload_n hx hb d_TX_put_43 rfl (lv_at hl 1 rfl) ?_
  refine va_get (D := (dC, dI)) (ci := 1) (v := .ref t0) (C := R_TX) (T := T_TX) (N := 2) hx hb hts in_TX hown hK hP 0 rfl rfl 0 (by decide) (hts _ k_36) (fun _ h9 => h9) rfl d_TX_put_44 ?_
  refine lv_aload_n hx hb d_TX_put_47 rfl (lv_at hl 1 rfl) ?_
  refine va_get (D := (dC, dI)) (ci := 1) (v := .int 7) (C := R_TX) (T := T_TX) (N := 2) hx hb hts in_TX hown hK hP 0 rfl rfl 1 (by decide) (hts _ k_37) (fun _ h9 => h9) rfl d_TX_put_48 ?_
  refine lv_lload_n hx hb d_TX_put_51 rfl (lv_at hl 2 rfl) ?_
  refine lv_iload hx hb d_TX_put_52 (lv_at hl 0 rfl) ?_
  refine va_calli (va_runS (As := [.long x, .int 0]) (rest := [.int 7, .ref t0]) ⟨hx, hb, hml, hown, hts⟩ (c_TX_byteOf l dC dI (x) (0)) (wd_S 2 hts k_351 k_2 k_349 k_350 rfl rfl (by decide +kernel) ⟨Nat.le_of_ble_eq_true rfl, Nat.le_of_ble_eq_true rfl⟩) ⟨fun a U g mk q => by obtain ⟨q0, qP, qK, qN⟩ := q; exact ⟨q0, qP, va_K.moved (u := U) (U := U.calling g mk a) (Vm.Alike.refl U.vm) qK, nw_ok.same (s := U) (U := U.calling g mk a) rfl qN⟩, fun U hU hW => ⟨rfl, by rw [hU]; exact hP.sub (ws' := []) [] rfl, va_K.moved hW.alike (hK.sub (tys' := []) [] rfl), nw_ok.warm hW hN⟩⟩ rfl rfl hl.1 rfl (lv_room (Nat.le_of_ble_eq_true rfl)) d_TX_put_54 ⟨Nat.le_of_ble_eq_true rfl, Nat.le_of_ble_eq_true rfl⟩) hS (fun q _ h => h.elim) (fun q h => h.elim) (fun r9 u t H23 locs ht hvm hr9 hB hz1 hk1 hS => ?_)
  try dsimp only at hr9
  subst hr9
  have hP : va_P (dC, dI) cls [(h0, .inr (1, [.ref t0, .int 7])), (t0, .inl (cT, 300, .inl (upd (upd (upd (upd (upd (upd (upd (fun _ => (0 : Int32)) (0 : Int32).toNatClampNeg (vp_nar .byte (bc x 7).toInt8.toInt32)) (1 : Int32).toNatClampNeg (vp_nar .byte (bc x 6).toInt8.toInt32)) (2 : Int32).toNatClampNeg (vp_nar .byte (bc x 5).toInt8.toInt32)) (3 : Int32).toNatClampNeg (vp_nar .byte (bc x 4).toInt8.toInt32)) (4 : Int32).toNatClampNeg (vp_nar .byte (bc x 3).toInt8.toInt32)) (5 : Int32).toNatClampNeg (vp_nar .byte (bc x 2).toInt8.toInt32)) (6 : Int32).toNatClampNeg (vp_nar .byte (bc x 1).toInt8.toInt32))))] H23 := hP.kept (fun k q hq => hk1 q.1 (hP k q hq).lt id)
  have hP : va_P (dC, dI) cls [(h0, .inr (1, [.ref t0, .int 7])), (t0, .inl (cT, 300, .inl (upd (upd (upd (upd (upd (upd (upd (fun _ => (0 : Int32)) (0 : Int32).toNatClampNeg (vp_nar .byte (bc x 7).toInt8.toInt32)) (1 : Int32).toNatClampNeg (vp_nar .byte (bc x 6).toInt8.toInt32)) (2 : Int32).toNatClampNeg (vp_nar .byte (bc x 5).toInt8.toInt32)) (3 : Int32).toNatClampNeg (vp_nar .byte (bc x 4).toInt8.toInt32)) (4 : Int32).toNatClampNeg (vp_nar .byte (bc x 3).toInt8.toInt32)) (5 : Int32).toNatClampNeg (vp_nar .byte (bc x 2).toInt8.toInt32)) (6 : Int32).toNatClampNeg (vp_nar .byte (bc x 1).toInt8.toInt32))))] H23 := hP
  have hD : va_D A [(h0, .inr (1, [.ref t0, .int 7])), (t0, .inl (cT, 300, .inl (upd (upd (upd (upd (upd (upd (upd (fun _ => (0 : Int32)) (0 : Int32).toNatClampNeg (vp_nar .byte (bc x 7).toInt8.toInt32)) (1 : Int32).toNatClampNeg (vp_nar .byte (bc x 6).toInt8.toInt32)) (2 : Int32).toNatClampNeg (vp_nar .byte (bc x 5).toInt8.toInt32)) (3 : Int32).toNatClampNeg (vp_nar .byte (bc x 4).toInt8.toInt32)) (4 : Int32).toNatClampNeg (vp_nar .byte (bc x 3).toInt8.toInt32)) (5 : Int32).toNatClampNeg (vp_nar .byte (bc x 2).toInt8.toInt32)) (6 : Int32).toNatClampNeg (vp_nar .byte (bc x 1).toInt8.toInt32))))] := hD
  refine lv_i2b (v := (bc x 0).toInt8.toInt32) hx hb d_TX_put_57 rfl ?_
  refine va_bast hx hb hK hP hD hS 1 0 rfl rfl (show ¬ ((7 : Int32) < 0 ∨ 300 ≤ (7 : Int32).toNatClampNeg) from by decide) d_TX_put_58 (fun H24 locs hP hD hS => ?_)
  have hP : va_P (dC, dI) cls [(h0, .inr (1, [.ref t0, .int 7])), (t0, .inl (cT, 300, .inl (upd (upd (upd (upd (upd (upd (upd (upd (fun _ => (0 : Int32)) (0 : Int32).toNatClampNeg (vp_nar .byte (bc x 7).toInt8.toInt32)) (1 : Int32).toNatClampNeg (vp_nar .byte (bc x 6).toInt8.toInt32)) (2 : Int32).toNatClampNeg (vp_nar .byte (bc x 5).toInt8.toInt32)) (3 : Int32).toNatClampNeg (vp_nar .byte (bc x 4).toInt8.toInt32)) (4 : Int32).toNatClampNeg (vp_nar .byte (bc x 3).toInt8.toInt32)) (5 : Int32).toNatClampNeg (vp_nar .byte (bc x 2).toInt8.toInt32)) (6 : Int32).toNatClampNeg (vp_nar .byte (bc x 1).toInt8.toInt32)) (7 : Int32).toNatClampNeg (vp_nar .byte (bc x 0).toInt8.toInt32))))] H24 := hP
  have hD : va_D A [(h0, .inr (1, [.ref t0, .int 7])), (t0, .inl (cT, 300, .inl (upd (upd (upd (upd (upd (upd (upd (upd (fun _ => (0 : Int32)) (0 : Int32).toNatClampNeg (vp_nar .byte (bc x 7).toInt8.toInt32)) (1 : Int32).toNatClampNeg (vp_nar .byte (bc x 6).toInt8.toInt32)) (2 : Int32).toNatClampNeg (vp_nar .byte (bc x 5).toInt8.toInt32)) (3 : Int32).toNatClampNeg (vp_nar .byte (bc x 4).toInt8.toInt32)) (4 : Int32).toNatClampNeg (vp_nar .byte (bc x 3).toInt8.toInt32)) (5 : Int32).toNatClampNeg (vp_nar .byte (bc x 2).toInt8.toInt32)) (6 : Int32).toNatClampNeg (vp_nar .byte (bc x 1).toInt8.toInt32)) (7 : Int32).toNatClampNeg (vp_nar .byte (bc x 0).toInt8.toInt32))))] := hD
  refine lv_aload_n hx hb d_TX_put_59 rfl (lv_at hl 1 rfl) ?_
  refine lv_dup hx hb d_TX_put_60 rfl ?_
  refine va_get (D := (dC, dI)) (ci := 1) (v := .int 7) (C := R_TX) (T := T_TX) (N := 2) hx hb hts in_TX hown hK hP 0 rfl rfl 1 (by decide) (hts _ k_37) (fun _ h9 => h9) rfl d_TX_put_61 ?_
  refine lv_iconst (v := 1) hx hb d_TX_put_64 (by decide) ?_
  refine lv_iadd hx hb d_TX_put_65 ?_
  refine W.eq (g2 := F0 m 66 ls [.int 8, .ref h0]) rfl ?_
  refine va_put (D := (dC, dI)) (ci := 1) (v := .int 8) (ty := .int) (C := R_TX) (T := T_TX) (N := 2) hx hb hts in_TX t_TX t_TX_ok n_TX hown hK hP hD hS 0 rfl rfl 1 (by decide) (hts _ k_37) (fun _ h9 => h9) rfl (by decide +kernel) rfl rfl (Nat.le_of_ble_eq_true rfl) d_TX_put_66 (fun H25 locs hP hD hS => ?_)
  have hP : va_P (dC, dI) cls [(h0, .inr (1, [.ref t0, .int 8])), (t0, .inl (cT, 300, .inl (upd (upd (upd (upd (upd (upd (upd (upd (fun _ => (0 : Int32)) (0 : Int32).toNatClampNeg (vp_nar .byte (bc x 7).toInt8.toInt32)) (1 : Int32).toNatClampNeg (vp_nar .byte (bc x 6).toInt8.toInt32)) (2 : Int32).toNatClampNeg (vp_nar .byte (bc x 5).toInt8.toInt32)) (3 : Int32).toNatClampNeg (vp_nar .byte (bc x 4).toInt8.toInt32)) (4 : Int32).toNatClampNeg (vp_nar .byte (bc x 3).toInt8.toInt32)) (5 : Int32).toNatClampNeg (vp_nar .byte (bc x 2).toInt8.toInt32)) (6 : Int32).toNatClampNeg (vp_nar .byte (bc x 1).toInt8.toInt32)) (7 : Int32).toNatClampNeg (vp_nar .byte (bc x 0).toInt8.toInt32))))] H25 := hP
  have hD : va_D A [(h0, .inr (1, [.ref t0, .int 8])), (t0, .inl (cT, 300, .inl (upd (upd (upd (upd (upd (upd (upd (upd (fun _ => (0 : Int32)) (0 : Int32).toNatClampNeg (vp_nar .byte (bc x 7).toInt8.toInt32)) (1 : Int32).toNatClampNeg (vp_nar .byte (bc x 6).toInt8.toInt32)) (2 : Int32).toNatClampNeg (vp_nar .byte (bc x 5).toInt8.toInt32)) (3 : Int32).toNatClampNeg (vp_nar .byte (bc x 4).toInt8.toInt32)) (4 : Int32).toNatClampNeg (vp_nar .byte (bc x 3).toInt8.toInt32)) (5 : Int32).toNatClampNeg (vp_nar .byte (bc x 2).toInt8.toInt32)) (6 : Int32).toNatClampNeg (vp_nar .byte (bc x 1).toInt8.toInt32)) (7 : Int32).toNatClampNeg (vp_nar .byte (bc x 0).toInt8.toInt32))))] := hD
  refine lv_iinc (k := 0) (v := (-1)) hx hb d_TX_put_69 hl rfl (by decide) (by decide) rfl (fun ls hl => ?_)
  have hl : lv_has ls 5 [(4, .int (-1)), (0, .ref h0), (1, .long x), (3, .int 8)] := hl
  refine lv_goto (tgt := 38) hx hb d_TX_put_72 (by decide) ?_
  refine lv_iload hx hb d_TX_put_38 (lv_at hl 0 rfl) ?_
  refine lv_if_lt (tgt := 75) hx hb d_TX_put_40 (by decide) (fun _ => ?_) (fun h9 => absurd (by decide) h9)
  refine lv_iconst (v := 1) hx hb d_TX_put_75 (by decide) ?_
  have hP9 := hP.sub (ws' := [(h0, .inr (1, [.ref t0, .int 8]))]) [0] rfl
  have hD9 := hD.sub (ws' := [(h0, .inr (1, [.ref t0, .int 8]))]) [0] (by decide) rfl
  have hK9 := hK.sub (tys' := [(cT, .byte)]) [0] rfl
  exact W.zret (v := 1) (ty := .boolean) hx hb hr (by decide +kernel) (fun t ht hW => ⟨⟨1, (), rfl, rfl, by rw [ht]; exact hP9, va_K.moved hW.alike hK9, hD9⟩, hS.F ht⟩) hS.2.2 d_TX_put_76

set_option maxHeartbeats 4000000 in
set_option maxRecDepth 100000 in
theorem c_LS_type_s (l : Launch) (dC : Nat → ClassId) (dI : Nat → Nat → Nat) (h0 : Nat) (aT : Nat) (aW : Nat) (aB : Nat) (aL : Nat) (aS : Nat) (aV : Nat) (aC : Nat) (a7 : Nat) (a8 : Nat) (a9 : Nat) (a10 : Nat) (aE : Nat) (t0 : Nat) (x : Int64) (n : Int32) (g0 : n < 1 ∨ 8 < n) : Met l y_LS_type (Cond.code y_LS_type b_LS_type 4 (Option.some Jvm.ClassFile.FieldType.int) :: wd) { frames := 1, cells := 0, slots := 0, locals := 24 } (va_Pc [.ref h0, .long x, .int n] (fun U => va_P (dC, dI) cls [(h0, .inr (0, [.ref aT, .ref aW, .ref aB, .ref aL, .ref aS, .ref aV, .ref aC, .ref a7, .ref a8, .ref a9, .ref a10, .ref aE, .int 0, .int 0, .int 0, .int (-1)])), (aT, .inr (1, [.ref t0, .int 0]))] U.heap ∧ va_K (dC, dI) cls [] U ∧ nw_ok U)) (va_Qi (fun r (_ : Unit) => r = (-1)) (fun _ _ => True) (fun _ => False)) 0 0 (fun _ => False) := by
  refine Met.ofW (cc := b_LS_type) (maxL := 4) (ret := (Option.some Jvm.ClassFile.FieldType.int)) (by decide) rfl ?_
  intro p e s m args below meth c s₁ B hml hv
  obtain ⟨rfl, hP, hK, hN⟩ := hv
  have hx := B.exec
  have hb := B.bytes
  have hr := B.returns
  have hlocks := B.notSynchronized
  have hts : ∀ w ∈ wd, w.before ([.ref h0, .long x, .int n] : List Value).toArray s = true := fun w hw => atoms_spec (ws := (Cond.code y_LS_type b_LS_type 4 (Option.some Jvm.ClassFile.FieldType.int) :: wd)) B.pre w (List.mem_cons_of_mem _ hw)
  have hown : s.vm.findClass "LeastSolutions" = some m.cls := findClass_of_methodNamed B.named
  have hS : va_S (fun _ => False) s.heap s.heap [] := va_S.rf
  have hl := lv_entry ([.ref h0, .long x, .int n]) (n := 4) (Nat.le_of_ble_eq_true rfl)
  rw [lg_entry_eq]
  generalize (lg_sl ([.ref h0, .long x, .int n]) ++ List.replicate (4 - (lg_sl ([.ref h0, .long x, .int n])).length) Slot.unset).toArray = ls at hl ⊢
  have hl : lv_has ls 4 [(0, .ref h0), (1, .long x), (3, .int n)] := hl
  refine lv_aload_n hx hb d_LS_type_0 rfl (lv_at hl 0 rfl) ?_
  refine va_get (D := (dC, dI)) (ci := 0) (v := .ref aT) (C := R_LS) (T := T_LS) (N := 16) hx hb hts in_LS hown hK hP 0 rfl rfl 0 (by decide) (hts _ k_289) (fun _ h9 => h9) rfl d_LS_type_1 ?_
  refine lv_lload_n hx hb d_LS_type_4 rfl (lv_at hl 1 rfl) ?_
  refine lv_iload_n hx hb d_LS_type_5 rfl (lv_at hl 2 rfl) ?_
  refine pu_calli (va_runV (As := [.long x, .int n]) (rest := []) ⟨hx, hb, hml, hown, hts⟩ (c_TX_put_s l dC dI (aT) (t0) (x) (n) (g0)) (wd_V (C := "LeastSolutions$Text") 2 hts k_345 k_2 k_342 k_343 k_344 rfl rfl (by decide +kernel) ⟨Nat.le_of_ble_eq_true rfl, Nat.le_of_ble_eq_true rfl⟩) ⟨fun a U g mk q => by obtain ⟨q0, qP, qK, qN⟩ := q; exact ⟨q0, qP, va_K.moved (u := U) (U := U.calling g mk a) (Vm.Alike.refl U.vm) qK, nw_ok.same (s := U) (U := U.calling g mk a) rfl qN⟩, va_recv (ci := 1) (q0 := 1) hK hP rfl rfl, fun U hU hW => ⟨rfl, by rw [hU]; exact hP.sub (ws' := [(aT, .inr (1, [.ref t0, .int 0]))]) [1] rfl, va_K.moved hW.alike (hK.sub (tys' := []) [] rfl), nw_ok.warm hW hN⟩⟩ rfl rfl hl.1 rfl (lv_room (Nat.le_of_ble_eq_true rfl)) d_LS_type_6 ⟨Nat.le_of_ble_eq_true rfl, Nat.le_of_ble_eq_true rfl⟩) (fun r1 hr1 => ?_)
  try dsimp only at hr1
  subst hr1
  refine lv_if_eq (tgt := 22) hx hb d_LS_type_9 (by decide) (fun _ => ?_) (fun h9 => absurd (by decide) h9)
  refine lv_iconst (v := (-1)) hx hb d_LS_type_22 (by decide) ?_
  exact W.iret (v := (-1)) hx hb hr (fun t ht hW => ⟨⟨(-1), (), rfl, rfl, trivial⟩, hS.F ht⟩) hS.2.2 d_LS_type_23

set_option maxHeartbeats 4000000 in
set_option maxRecDepth 100000 in
theorem c_LS_type_1n (l : Launch) (dC : Nat → ClassId) (dI : Nat → Nat → Nat) (h0 : Nat) (aT : Nat) (aW : Nat) (aB : Nat) (aL : Nat) (aS : Nat) (aV : Nat) (aC : Nat) (a7 : Nat) (a8 : Nat) (a9 : Nat) (a10 : Nat) (aE : Nat) (t0 : Nat) (x : Int64) (g : ¬ (ok x 0)) : Met l y_LS_type (Cond.code y_LS_type b_LS_type 4 (Option.some Jvm.ClassFile.FieldType.int) :: wd) { frames := 3, cells := 0, slots := 0, locals := 70 } (va_Pc [.ref h0, .long x, .int 1] (fun U => va_P (dC, dI) cls [(h0, .inr (0, [.ref aT, .ref aW, .ref aB, .ref aL, .ref aS, .ref aV, .ref aC, .ref a7, .ref a8, .ref a9, .ref a10, .ref aE, .int 0, .int 0, .int 0, .int (-1)])), (aT, .inr (1, [.ref t0, .int 0]))] U.heap ∧ va_K (dC, dI) cls [] U ∧ nw_ok U)) (va_Qi (fun r (_ : Unit) => r = (-1)) (fun _ _ => True) (fun _ => False)) 0 0 (fun _ => False) := by
  refine Met.ofW (cc := b_LS_type) (maxL := 4) (ret := (Option.some Jvm.ClassFile.FieldType.int)) (by decide) rfl ?_
  intro p e s m args below meth c s₁ B hml hv
  obtain ⟨rfl, hP, hK, hN⟩ := hv
  have hx := B.exec
  have hb := B.bytes
  have hr := B.returns
  have hlocks := B.notSynchronized
  have hts : ∀ w ∈ wd, w.before ([.ref h0, .long x, .int 1] : List Value).toArray s = true := fun w hw => atoms_spec (ws := (Cond.code y_LS_type b_LS_type 4 (Option.some Jvm.ClassFile.FieldType.int) :: wd)) B.pre w (List.mem_cons_of_mem _ hw)
  have hown : s.vm.findClass "LeastSolutions" = some m.cls := findClass_of_methodNamed B.named
  have hS : va_S (fun _ => False) s.heap s.heap [] := va_S.rf
  have hl := lv_entry ([.ref h0, .long x, .int 1]) (n := 4) (Nat.le_of_ble_eq_true rfl)
  rw [lg_entry_eq]
  generalize (lg_sl ([.ref h0, .long x, .int 1]) ++ List.replicate (4 - (lg_sl ([.ref h0, .long x, .int 1])).length) Slot.unset).toArray = ls at hl ⊢
  have hl : lv_has ls 4 [(0, .ref h0), (1, .long x), (3, .int 1)] := hl
  refine lv_aload_n hx hb d_LS_type_0 rfl (lv_at hl 0 rfl) ?_
  refine va_get (D := (dC, dI)) (ci := 0) (v := .ref aT) (C := R_LS) (T := T_LS) (N := 16) hx hb hts in_LS hown hK hP 0 rfl rfl 0 (by decide) (hts _ k_289) (fun _ h9 => h9) rfl d_LS_type_1 ?_
  refine lv_lload_n hx hb d_LS_type_4 rfl (lv_at hl 1 rfl) ?_
  refine lv_iload_n hx hb d_LS_type_5 rfl (lv_at hl 2 rfl) ?_
  refine pu_calli (va_runV (As := [.long x, .int 1]) (rest := []) ⟨hx, hb, hml, hown, hts⟩ (c_TX_put_1n l dC dI (aT) (t0) (x) (g)) (wd_V (C := "LeastSolutions$Text") 2 hts k_345 k_2 k_342 k_343 k_344 rfl rfl (by decide +kernel) ⟨Nat.le_of_ble_eq_true rfl, Nat.le_of_ble_eq_true rfl⟩) ⟨fun a U g mk q => by obtain ⟨q0, qP, qK, qN⟩ := q; exact ⟨q0, qP, va_K.moved (u := U) (U := U.calling g mk a) (Vm.Alike.refl U.vm) qK, nw_ok.same (s := U) (U := U.calling g mk a) rfl qN⟩, va_recv (ci := 1) (q0 := 1) hK hP rfl rfl, fun U hU hW => ⟨rfl, by rw [hU]; exact hP.sub (ws' := [(aT, .inr (1, [.ref t0, .int 0]))]) [1] rfl, va_K.moved hW.alike (hK.sub (tys' := []) [] rfl), nw_ok.warm hW hN⟩⟩ rfl rfl hl.1 rfl (lv_room (Nat.le_of_ble_eq_true rfl)) d_LS_type_6 ⟨Nat.le_of_ble_eq_true rfl, Nat.le_of_ble_eq_true rfl⟩) (fun r1 hr1 => ?_)
  try dsimp only at hr1
  subst hr1
  refine lv_if_eq (tgt := 22) hx hb d_LS_type_9 (by decide) (fun _ => ?_) (fun h9 => absurd (by decide) h9)
  refine lv_iconst (v := (-1)) hx hb d_LS_type_22 (by decide) ?_
  exact W.iret (v := (-1)) hx hb hr (fun t ht hW => ⟨⟨(-1), (), rfl, rfl, trivial⟩, hS.F ht⟩) hS.2.2 d_LS_type_23

set_option maxHeartbeats 4000000 in
set_option maxRecDepth 100000 in
theorem c_LS_type_1y (l : Launch) (dC : Nat → ClassId) (dI : Nat → Nat → Nat) (h0 : Nat) (aT : Nat) (aW : Nat) (aB : Nat) (aL : Nat) (aS : Nat) (aV : Nat) (aC : Nat) (a7 : Nat) (a8 : Nat) (a9 : Nat) (a10 : Nat) (aE : Nat) (t0 : Nat) (cT : ClassId) (x : Int64) (sz : Nat) (g : ok x 0) : Met l y_LS_type (Cond.code y_LS_type b_LS_type 4 (Option.some Jvm.ClassFile.FieldType.int) :: wd) { frames := 3, cells := 0, slots := 0, locals := 70 } (va_Pc [.ref h0, .long x, .int 1] (fun U => U.heap.size = sz ∧ va_P (dC, dI) cls [(h0, .inr (0, [.ref aT, .ref aW, .ref aB, .ref aL, .ref aS, .ref aV, .ref aC, .ref a7, .ref a8, .ref a9, .ref a10, .ref aE, .int 0, .int 0, .int 0, .int (-1)])), (aT, .inr (1, [.ref t0, .int 0])), (t0, .inl (cT, 300, .inl (fun _ => (0 : Int32))))] U.heap ∧ va_K (dC, dI) cls [(cT, .byte)] U ∧ va_D (fun _ => True) [(h0, .inr (0, [.ref aT, .ref aW, .ref aB, .ref aL, .ref aS, .ref aV, .ref aC, .ref a7, .ref a8, .ref a9, .ref a10, .ref aE, .int 0, .int 0, .int 0, .int (-1)])), (aT, .inr (1, [.ref t0, .int 0])), (t0, .inl (cT, 300, .inl (fun _ => (0 : Int32))))] ∧ nw_ok U)) (va_Qi (fun r (_ : Unit) => r = 1) (fun (_ : Unit) t => va_P (dC, dI) cls [(h0, .inr (0, [.ref aT, .ref aW, .ref aB, .ref aL, .ref aS, .ref aV, .ref aC, .ref a7, .ref a8, .ref a9, .ref a10, .ref aE, .int 0, .int 0, .int 0, .int (-1)]))] t.heap ∧ va_K (dC, dI) cls [(cT, .byte)] t ∧ va_D (va_A [(h0, .inr (0, [.ref aT, .ref aW, .ref aB, .ref aL, .ref aS, .ref aV, .ref aC, .ref a7, .ref a8, .ref a9, .ref a10, .ref aE, .int 0, .int 0, .int 0, .int (-1)])), (aT, .inr (1, [.ref t0, .int 0])), (t0, .inl (cT, 300, .inl (fun _ => (0 : Int32))))] sz) [(h0, .inr (0, [.ref aT, .ref aW, .ref aB, .ref aL, .ref aS, .ref aV, .ref aC, .ref a7, .ref a8, .ref a9, .ref a10, .ref aE, .int 0, .int 0, .int 0, .int (-1)]))]) (va_A [(h0, .inr (0, [.ref aT, .ref aW, .ref aB, .ref aL, .ref aS, .ref aV, .ref aC, .ref a7, .ref a8, .ref a9, .ref a10, .ref aE, .int 0, .int 0, .int 0, .int (-1)])), (aT, .inr (1, [.ref t0, .int 0])), (t0, .inl (cT, 300, .inl (fun _ => (0 : Int32))))] sz)) 0 0 (va_A [(h0, .inr (0, [.ref aT, .ref aW, .ref aB, .ref aL, .ref aS, .ref aV, .ref aC, .ref a7, .ref a8, .ref a9, .ref a10, .ref aE, .int 0, .int 0, .int 0, .int (-1)])), (aT, .inr (1, [.ref t0, .int 0])), (t0, .inl (cT, 300, .inl (fun _ => (0 : Int32))))] sz) := by
  refine Met.ofW (cc := b_LS_type) (maxL := 4) (ret := (Option.some Jvm.ClassFile.FieldType.int)) (by decide) rfl ?_
  intro p e s m args below meth c s₁ B hml hv
  obtain ⟨rfl, hsz, hP, hK, hD0, hN⟩ := hv
  have hx := B.exec
  have hb := B.bytes
  have hr := B.returns
  have hlocks := B.notSynchronized
  have hts : ∀ w ∈ wd, w.before ([.ref h0, .long x, .int 1] : List Value).toArray s = true := fun w hw => atoms_spec (ws := (Cond.code y_LS_type b_LS_type 4 (Option.some Jvm.ClassFile.FieldType.int) :: wd)) B.pre w (List.mem_cons_of_mem _ hw)
  have hown : s.vm.findClass "LeastSolutions" = some m.cls := findClass_of_methodNamed B.named
  subst hsz
  have hD := hD0.self (sz := s.heap.size)
  generalize hAe : va_A [(h0, .inr (0, [.ref aT, .ref aW, .ref aB, .ref aL, .ref aS, .ref aV, .ref aC, .ref a7, .ref a8, .ref a9, .ref a10, .ref aE, .int 0, .int 0, .int 0, .int (-1)])), (aT, .inr (1, [.ref t0, .int 0])), (t0, .inl (cT, 300, .inl (fun _ => (0 : Int32))))] s.heap.size = A at hD ⊢
  have hA : ∀ q : Nat, s.heap.size ≤ q → A q := fun q h => by rw [← hAe]; exact Or.inr h
  have hS : va_S A s.heap s.heap [] := va_S.rf
  have hl := lv_entry ([.ref h0, .long x, .int 1]) (n := 4) (Nat.le_of_ble_eq_true rfl)
  rw [lg_entry_eq]
  generalize (lg_sl ([.ref h0, .long x, .int 1]) ++ List.replicate (4 - (lg_sl ([.ref h0, .long x, .int 1])).length) Slot.unset).toArray = ls at hl ⊢
  have hl : lv_has ls 4 [(0, .ref h0), (1, .long x), (3, .int 1)] := hl
  refine lv_aload_n hx hb d_LS_type_0 rfl (lv_at hl 0 rfl) ?_
  refine va_get (D := (dC, dI)) (ci := 0) (v := .ref aT) (C := R_LS) (T := T_LS) (N := 16) hx hb hts in_LS hown hK hP 0 rfl rfl 0 (by decide) (hts _ k_289) (fun _ h9 => h9) rfl d_LS_type_1 ?_
  refine lv_lload_n hx hb d_LS_type_4 rfl (lv_at hl 1 rfl) ?_
  refine lv_iload_n hx hb d_LS_type_5 rfl (lv_at hl 2 rfl) ?_
  have hPc := hP.sub (ws' := [(aT, .inr (1, [.ref t0, .int 0])), (t0, .inl (cT, 300, .inl (fun _ => (0 : Int32))))]) [1, 2] rfl
  have hDc := hD.sub (ws' := [(aT, .inr (1, [.ref t0, .int 0])), (t0, .inl (cT, 300, .inl (fun _ => (0 : Int32))))]) [1, 2] (by decide) rfl
  have hKc := hK.sub (tys' := [(cT, .byte)]) [0] rfl
  have hFc := va_free (wc := [(aT, .inr (1, [.ref t0, .int 0])), (t0, .inl (cT, 300, .inl (fun _ => (0 : Int32))))]) hD hS hA [1, 2] rfl
  refine va_calli (va_runV (As := [.long x, .int 1]) (rest := []) ⟨hx, hb, hml, hown, hts⟩ (c_TX_put_1y l dC dI (aT) (t0) (cT) (x) s.heap.size (g)) (wd_V (C := "LeastSolutions$Text") 2 hts k_345 k_2 k_342 k_343 k_344 rfl rfl (by decide +kernel) ⟨Nat.le_of_ble_eq_true rfl, Nat.le_of_ble_eq_true rfl⟩) ⟨fun a U g mk q => by obtain ⟨q0, q1, qP, qK, qD, qN⟩ := q; exact ⟨q0, q1, qP, va_K.moved (u := U) (U := U.calling g mk a) (Vm.Alike.refl U.vm) qK, qD, nw_ok.same (s := U) (U := U.calling g mk a) rfl qN⟩, va_recv (ci := 1) (q0 := 1) hK hP rfl rfl, fun U hU hW => ⟨rfl, by rw [hU], by rw [hU]; exact hPc, va_K.moved hW.alike hKc, hDc.weaken (fun _ _ _ _ => trivial), nw_ok.warm hW hN⟩⟩ rfl rfl hl.1 rfl (lv_room (Nat.le_of_ble_eq_true rfl)) d_LS_type_6 ⟨Nat.le_of_ble_eq_true rfl, Nat.le_of_ble_eq_true rfl⟩) hS (fun q _ h => hFc q h) hFc (fun r1 u t H1 locs ht hvm hr1 hB hz1 hk1 hS => ?_)
  try dsimp only at hr1
  subst hr1
  obtain ⟨hP1, hK1, hD1⟩ := hB
  rw [ht] at hP1
  have hK1 := va_K.moved hvm.symm hK1
  obtain ⟨hP, hD⟩ := va_join (wr := [(h0, .inr (0, [.ref aT, .ref aW, .ref aB, .ref aL, .ref aS, .ref aV, .ref aC, .ref a7, .ref a8, .ref a9, .ref a10, .ref aE, .int 0, .int 0, .int 0, .int (-1)]))]) (w1 := [(aT, .inr (1, [.ref t0, .int 1]))]) hP hD [1, 2] [0] rfl rfl (by decide) (by decide) hk1 hFc hP1 hD1
  have hK := (hK.sub (tys' := []) [] rfl).app hK1
  have hK : va_K (dC, dI) cls [(cT, .byte)] s := hK
  have hP : va_P (dC, dI) cls [(h0, .inr (0, [.ref aT, .ref aW, .ref aB, .ref aL, .ref aS, .ref aV, .ref aC, .ref a7, .ref a8, .ref a9, .ref a10, .ref aE, .int 0, .int 0, .int 0, .int (-1)])), (aT, .inr (1, [.ref t0, .int 1]))] H1 := hP
  have hD : va_D A [(h0, .inr (0, [.ref aT, .ref aW, .ref aB, .ref aL, .ref aS, .ref aV, .ref aC, .ref a7, .ref a8, .ref a9, .ref a10, .ref aE, .int 0, .int 0, .int 0, .int (-1)])), (aT, .inr (1, [.ref t0, .int 1]))] := hD
  refine lv_if_eq (tgt := 22) hx hb d_LS_type_9 (by decide) (fun h9 => absurd h9 (by decide)) (fun _ => ?_)
  refine lv_aload_n hx hb d_LS_type_12 rfl (lv_at hl 0 rfl) ?_
  refine va_get (D := (dC, dI)) (ci := 0) (v := .ref aT) (C := R_LS) (T := T_LS) (N := 16) hx hb hts in_LS hown hK hP 0 rfl rfl 0 (by decide) (hts _ k_289) (fun _ h9 => h9) rfl d_LS_type_13 ?_
  refine va_getN (D := (dC, dI)) (ci := 1) (v := .int 1) (C := R_TX) (T := T_TX) (N := 2) hx hb hts in_TX hown hK hP 1 rfl rfl 1 (by decide) (va_Nw.use rfl (hN.1 (Jvm.Cond.fieldLinkNest "LeastSolutions" (96 : Nat) "LeastSolutions$Text" "length" "I" "LeastSolutions") nw_1)) (fun _ h9 => h9) rfl d_LS_type_16 ?_
  refine lv_goto (tgt := 23) hx hb d_LS_type_19 (by decide) ?_
  have hP9 := hP.sub (ws' := [(h0, .inr (0, [.ref aT, .ref aW, .ref aB, .ref aL, .ref aS, .ref aV, .ref aC, .ref a7, .ref a8, .ref a9, .ref a10, .ref aE, .int 0, .int 0, .int 0, .int (-1)]))]) [0] rfl
  have hD9 := hD.sub (ws' := [(h0, .inr (0, [.ref aT, .ref aW, .ref aB, .ref aL, .ref aS, .ref aV, .ref aC, .ref a7, .ref a8, .ref a9, .ref a10, .ref aE, .int 0, .int 0, .int 0, .int (-1)]))]) [0] (by decide) rfl
  have hK9 := hK.sub (tys' := [(cT, .byte)]) [0] rfl
  exact W.iret (v := 1) hx hb hr (fun t ht hW => ⟨⟨1, (), rfl, rfl, by rw [ht]; exact hP9, va_K.moved hW.alike hK9, hD9⟩, hS.F ht⟩) hS.2.2 d_LS_type_23

set_option maxHeartbeats 4000000 in
set_option maxRecDepth 100000 in
theorem c_LS_type_2n (l : Launch) (dC : Nat → ClassId) (dI : Nat → Nat → Nat) (h0 : Nat) (aT : Nat) (aW : Nat) (aB : Nat) (aL : Nat) (aS : Nat) (aV : Nat) (aC : Nat) (a7 : Nat) (a8 : Nat) (a9 : Nat) (a10 : Nat) (aE : Nat) (t0 : Nat) (x : Int64) (g : ¬ (ok x 0 ∧ ok x 8)) : Met l y_LS_type (Cond.code y_LS_type b_LS_type 4 (Option.some Jvm.ClassFile.FieldType.int) :: wd) { frames := 3, cells := 0, slots := 0, locals := 70 } (va_Pc [.ref h0, .long x, .int 2] (fun U => va_P (dC, dI) cls [(h0, .inr (0, [.ref aT, .ref aW, .ref aB, .ref aL, .ref aS, .ref aV, .ref aC, .ref a7, .ref a8, .ref a9, .ref a10, .ref aE, .int 0, .int 0, .int 0, .int (-1)])), (aT, .inr (1, [.ref t0, .int 0]))] U.heap ∧ va_K (dC, dI) cls [] U ∧ nw_ok U)) (va_Qi (fun r (_ : Unit) => r = (-1)) (fun _ _ => True) (fun _ => False)) 0 0 (fun _ => False) := by
  refine Met.ofW (cc := b_LS_type) (maxL := 4) (ret := (Option.some Jvm.ClassFile.FieldType.int)) (by decide) rfl ?_
  intro p e s m args below meth c s₁ B hml hv
  obtain ⟨rfl, hP, hK, hN⟩ := hv
  have hx := B.exec
  have hb := B.bytes
  have hr := B.returns
  have hlocks := B.notSynchronized
  have hts : ∀ w ∈ wd, w.before ([.ref h0, .long x, .int 2] : List Value).toArray s = true := fun w hw => atoms_spec (ws := (Cond.code y_LS_type b_LS_type 4 (Option.some Jvm.ClassFile.FieldType.int) :: wd)) B.pre w (List.mem_cons_of_mem _ hw)
  have hown : s.vm.findClass "LeastSolutions" = some m.cls := findClass_of_methodNamed B.named
  have hS : va_S (fun _ => False) s.heap s.heap [] := va_S.rf
  have hl := lv_entry ([.ref h0, .long x, .int 2]) (n := 4) (Nat.le_of_ble_eq_true rfl)
  rw [lg_entry_eq]
  generalize (lg_sl ([.ref h0, .long x, .int 2]) ++ List.replicate (4 - (lg_sl ([.ref h0, .long x, .int 2])).length) Slot.unset).toArray = ls at hl ⊢
  have hl : lv_has ls 4 [(0, .ref h0), (1, .long x), (3, .int 2)] := hl
  refine lv_aload_n hx hb d_LS_type_0 rfl (lv_at hl 0 rfl) ?_
  refine va_get (D := (dC, dI)) (ci := 0) (v := .ref aT) (C := R_LS) (T := T_LS) (N := 16) hx hb hts in_LS hown hK hP 0 rfl rfl 0 (by decide) (hts _ k_289) (fun _ h9 => h9) rfl d_LS_type_1 ?_
  refine lv_lload_n hx hb d_LS_type_4 rfl (lv_at hl 1 rfl) ?_
  refine lv_iload_n hx hb d_LS_type_5 rfl (lv_at hl 2 rfl) ?_
  refine pu_calli (va_runV (As := [.long x, .int 2]) (rest := []) ⟨hx, hb, hml, hown, hts⟩ (c_TX_put_2n l dC dI (aT) (t0) (x) (g)) (wd_V (C := "LeastSolutions$Text") 2 hts k_345 k_2 k_342 k_343 k_344 rfl rfl (by decide +kernel) ⟨Nat.le_of_ble_eq_true rfl, Nat.le_of_ble_eq_true rfl⟩) ⟨fun a U g mk q => by obtain ⟨q0, qP, qK, qN⟩ := q; exact ⟨q0, qP, va_K.moved (u := U) (U := U.calling g mk a) (Vm.Alike.refl U.vm) qK, nw_ok.same (s := U) (U := U.calling g mk a) rfl qN⟩, va_recv (ci := 1) (q0 := 1) hK hP rfl rfl, fun U hU hW => ⟨rfl, by rw [hU]; exact hP.sub (ws' := [(aT, .inr (1, [.ref t0, .int 0]))]) [1] rfl, va_K.moved hW.alike (hK.sub (tys' := []) [] rfl), nw_ok.warm hW hN⟩⟩ rfl rfl hl.1 rfl (lv_room (Nat.le_of_ble_eq_true rfl)) d_LS_type_6 ⟨Nat.le_of_ble_eq_true rfl, Nat.le_of_ble_eq_true rfl⟩) (fun r1 hr1 => ?_)
  try dsimp only at hr1
  subst hr1
  refine lv_if_eq (tgt := 22) hx hb d_LS_type_9 (by decide) (fun _ => ?_) (fun h9 => absurd (by decide) h9)
  refine lv_iconst (v := (-1)) hx hb d_LS_type_22 (by decide) ?_
  exact W.iret (v := (-1)) hx hb hr (fun t ht hW => ⟨⟨(-1), (), rfl, rfl, trivial⟩, hS.F ht⟩) hS.2.2 d_LS_type_23

set_option maxHeartbeats 4000000 in
set_option maxRecDepth 100000 in
theorem c_LS_type_2y (l : Launch) (dC : Nat → ClassId) (dI : Nat → Nat → Nat) (h0 : Nat) (aT : Nat) (aW : Nat) (aB : Nat) (aL : Nat) (aS : Nat) (aV : Nat) (aC : Nat) (a7 : Nat) (a8 : Nat) (a9 : Nat) (a10 : Nat) (aE : Nat) (t0 : Nat) (cT : ClassId) (x : Int64) (sz : Nat) (g : ok x 0 ∧ ok x 8) : Met l y_LS_type (Cond.code y_LS_type b_LS_type 4 (Option.some Jvm.ClassFile.FieldType.int) :: wd) { frames := 3, cells := 0, slots := 0, locals := 70 } (va_Pc [.ref h0, .long x, .int 2] (fun U => U.heap.size = sz ∧ va_P (dC, dI) cls [(h0, .inr (0, [.ref aT, .ref aW, .ref aB, .ref aL, .ref aS, .ref aV, .ref aC, .ref a7, .ref a8, .ref a9, .ref a10, .ref aE, .int 0, .int 0, .int 0, .int (-1)])), (aT, .inr (1, [.ref t0, .int 0])), (t0, .inl (cT, 300, .inl (fun _ => (0 : Int32))))] U.heap ∧ va_K (dC, dI) cls [(cT, .byte)] U ∧ va_D (fun _ => True) [(h0, .inr (0, [.ref aT, .ref aW, .ref aB, .ref aL, .ref aS, .ref aV, .ref aC, .ref a7, .ref a8, .ref a9, .ref a10, .ref aE, .int 0, .int 0, .int 0, .int (-1)])), (aT, .inr (1, [.ref t0, .int 0])), (t0, .inl (cT, 300, .inl (fun _ => (0 : Int32))))] ∧ nw_ok U)) (va_Qi (fun r (_ : Unit) => r = 2) (fun (_ : Unit) t => va_P (dC, dI) cls [(h0, .inr (0, [.ref aT, .ref aW, .ref aB, .ref aL, .ref aS, .ref aV, .ref aC, .ref a7, .ref a8, .ref a9, .ref a10, .ref aE, .int 0, .int 0, .int 0, .int (-1)]))] t.heap ∧ va_K (dC, dI) cls [(cT, .byte)] t ∧ va_D (va_A [(h0, .inr (0, [.ref aT, .ref aW, .ref aB, .ref aL, .ref aS, .ref aV, .ref aC, .ref a7, .ref a8, .ref a9, .ref a10, .ref aE, .int 0, .int 0, .int 0, .int (-1)])), (aT, .inr (1, [.ref t0, .int 0])), (t0, .inl (cT, 300, .inl (fun _ => (0 : Int32))))] sz) [(h0, .inr (0, [.ref aT, .ref aW, .ref aB, .ref aL, .ref aS, .ref aV, .ref aC, .ref a7, .ref a8, .ref a9, .ref a10, .ref aE, .int 0, .int 0, .int 0, .int (-1)]))]) (va_A [(h0, .inr (0, [.ref aT, .ref aW, .ref aB, .ref aL, .ref aS, .ref aV, .ref aC, .ref a7, .ref a8, .ref a9, .ref a10, .ref aE, .int 0, .int 0, .int 0, .int (-1)])), (aT, .inr (1, [.ref t0, .int 0])), (t0, .inl (cT, 300, .inl (fun _ => (0 : Int32))))] sz)) 0 0 (va_A [(h0, .inr (0, [.ref aT, .ref aW, .ref aB, .ref aL, .ref aS, .ref aV, .ref aC, .ref a7, .ref a8, .ref a9, .ref a10, .ref aE, .int 0, .int 0, .int 0, .int (-1)])), (aT, .inr (1, [.ref t0, .int 0])), (t0, .inl (cT, 300, .inl (fun _ => (0 : Int32))))] sz) := by
  refine Met.ofW (cc := b_LS_type) (maxL := 4) (ret := (Option.some Jvm.ClassFile.FieldType.int)) (by decide) rfl ?_
  intro p e s m args below meth c s₁ B hml hv
  obtain ⟨rfl, hsz, hP, hK, hD0, hN⟩ := hv
  have hx := B.exec
  have hb := B.bytes
  have hr := B.returns
  have hlocks := B.notSynchronized
  have hts : ∀ w ∈ wd, w.before ([.ref h0, .long x, .int 2] : List Value).toArray s = true := fun w hw => atoms_spec (ws := (Cond.code y_LS_type b_LS_type 4 (Option.some Jvm.ClassFile.FieldType.int) :: wd)) B.pre w (List.mem_cons_of_mem _ hw)
  have hown : s.vm.findClass "LeastSolutions" = some m.cls := findClass_of_methodNamed B.named
  subst hsz
  have hD := hD0.self (sz := s.heap.size)
  generalize hAe : va_A [(h0, .inr (0, [.ref aT, .ref aW, .ref aB, .ref aL, .ref aS, .ref aV, .ref aC, .ref a7, .ref a8, .ref a9, .ref a10, .ref aE, .int 0, .int 0, .int 0, .int (-1)])), (aT, .inr (1, [.ref t0, .int 0])), (t0, .inl (cT, 300, .inl (fun _ => (0 : Int32))))] s.heap.size = A at hD ⊢
  have hA : ∀ q : Nat, s.heap.size ≤ q → A q := fun q h => by rw [← hAe]; exact Or.inr h
  have hS : va_S A s.heap s.heap [] := va_S.rf
  have hl := lv_entry ([.ref h0, .long x, .int 2]) (n := 4) (Nat.le_of_ble_eq_true rfl)
  rw [lg_entry_eq]
  generalize (lg_sl ([.ref h0, .long x, .int 2]) ++ List.replicate (4 - (lg_sl ([.ref h0, .long x, .int 2])).length) Slot.unset).toArray = ls at hl ⊢
  have hl : lv_has ls 4 [(0, .ref h0), (1, .long x), (3, .int 2)] := hl
  refine lv_aload_n hx hb d_LS_type_0 rfl (lv_at hl 0 rfl) ?_
  refine va_get (D := (dC, dI)) (ci := 0) (v := .ref aT) (C := R_LS) (T := T_LS) (N := 16) hx hb hts in_LS hown hK hP 0 rfl rfl 0 (by decide) (hts _ k_289) (fun _ h9 => h9) rfl d_LS_type_1 ?_
  refine lv_lload_n hx hb d_LS_type_4 rfl (lv_at hl 1 rfl) ?_
  refine lv_iload_n hx hb d_LS_type_5 rfl (lv_at hl 2 rfl) ?_
  have hPc := hP.sub (ws' := [(aT, .inr (1, [.ref t0, .int 0])), (t0, .inl (cT, 300, .inl (fun _ => (0 : Int32))))]) [1, 2] rfl
  have hDc := hD.sub (ws' := [(aT, .inr (1, [.ref t0, .int 0])), (t0, .inl (cT, 300, .inl (fun _ => (0 : Int32))))]) [1, 2] (by decide) rfl
  have hKc := hK.sub (tys' := [(cT, .byte)]) [0] rfl
  have hFc := va_free (wc := [(aT, .inr (1, [.ref t0, .int 0])), (t0, .inl (cT, 300, .inl (fun _ => (0 : Int32))))]) hD hS hA [1, 2] rfl
  refine va_calli (va_runV (As := [.long x, .int 2]) (rest := []) ⟨hx, hb, hml, hown, hts⟩ (c_TX_put_2y l dC dI (aT) (t0) (cT) (x) s.heap.size (g)) (wd_V (C := "LeastSolutions$Text") 2 hts k_345 k_2 k_342 k_343 k_344 rfl rfl (by decide +kernel) ⟨Nat.le_of_ble_eq_true rfl, Nat.le_of_ble_eq_true rfl⟩) ⟨fun a U g mk q => by obtain ⟨q0, q1, qP, qK, qD, qN⟩ := q; exact ⟨q0, q1, qP, va_K.moved (u := U) (U := U.calling g mk a) (Vm.Alike.refl U.vm) qK, qD, nw_ok.same (s := U) (U := U.calling g mk a) rfl qN⟩, va_recv (ci := 1) (q0 := 1) hK hP rfl rfl, fun U hU hW => ⟨rfl, by rw [hU], by rw [hU]; exact hPc, va_K.moved hW.alike hKc, hDc.weaken (fun _ _ _ _ => trivial), nw_ok.warm hW hN⟩⟩ rfl rfl hl.1 rfl (lv_room (Nat.le_of_ble_eq_true rfl)) d_LS_type_6 ⟨Nat.le_of_ble_eq_true rfl, Nat.le_of_ble_eq_true rfl⟩) hS (fun q _ h => hFc q h) hFc (fun r1 u t H1 locs ht hvm hr1 hB hz1 hk1 hS => ?_)
  try dsimp only at hr1
  subst hr1
  obtain ⟨hP1, hK1, hD1⟩ := hB
  rw [ht] at hP1
  have hK1 := va_K.moved hvm.symm hK1
  obtain ⟨hP, hD⟩ := va_join (wr := [(h0, .inr (0, [.ref aT, .ref aW, .ref aB, .ref aL, .ref aS, .ref aV, .ref aC, .ref a7, .ref a8, .ref a9, .ref a10, .ref aE, .int 0, .int 0, .int 0, .int (-1)]))]) (w1 := [(aT, .inr (1, [.ref t0, .int 2]))]) hP hD [1, 2] [0] rfl rfl (by decide) (by decide) hk1 hFc hP1 hD1
  have hK := (hK.sub (tys' := []) [] rfl).app hK1
  have hK : va_K (dC, dI) cls [(cT, .byte)] s := hK
  have hP : va_P (dC, dI) cls [(h0, .inr (0, [.ref aT, .ref aW, .ref aB, .ref aL, .ref aS, .ref aV, .ref aC, .ref a7, .ref a8, .ref a9, .ref a10, .ref aE, .int 0, .int 0, .int 0, .int (-1)])), (aT, .inr (1, [.ref t0, .int 2]))] H1 := hP
  have hD : va_D A [(h0, .inr (0, [.ref aT, .ref aW, .ref aB, .ref aL, .ref aS, .ref aV, .ref aC, .ref a7, .ref a8, .ref a9, .ref a10, .ref aE, .int 0, .int 0, .int 0, .int (-1)])), (aT, .inr (1, [.ref t0, .int 2]))] := hD
  refine lv_if_eq (tgt := 22) hx hb d_LS_type_9 (by decide) (fun h9 => absurd h9 (by decide)) (fun _ => ?_)
  refine lv_aload_n hx hb d_LS_type_12 rfl (lv_at hl 0 rfl) ?_
  refine va_get (D := (dC, dI)) (ci := 0) (v := .ref aT) (C := R_LS) (T := T_LS) (N := 16) hx hb hts in_LS hown hK hP 0 rfl rfl 0 (by decide) (hts _ k_289) (fun _ h9 => h9) rfl d_LS_type_13 ?_
  refine va_getN (D := (dC, dI)) (ci := 1) (v := .int 2) (C := R_TX) (T := T_TX) (N := 2) hx hb hts in_TX hown hK hP 1 rfl rfl 1 (by decide) (va_Nw.use rfl (hN.1 (Jvm.Cond.fieldLinkNest "LeastSolutions" (96 : Nat) "LeastSolutions$Text" "length" "I" "LeastSolutions") nw_1)) (fun _ h9 => h9) rfl d_LS_type_16 ?_
  refine lv_goto (tgt := 23) hx hb d_LS_type_19 (by decide) ?_
  have hP9 := hP.sub (ws' := [(h0, .inr (0, [.ref aT, .ref aW, .ref aB, .ref aL, .ref aS, .ref aV, .ref aC, .ref a7, .ref a8, .ref a9, .ref a10, .ref aE, .int 0, .int 0, .int 0, .int (-1)]))]) [0] rfl
  have hD9 := hD.sub (ws' := [(h0, .inr (0, [.ref aT, .ref aW, .ref aB, .ref aL, .ref aS, .ref aV, .ref aC, .ref a7, .ref a8, .ref a9, .ref a10, .ref aE, .int 0, .int 0, .int 0, .int (-1)]))]) [0] (by decide) rfl
  have hK9 := hK.sub (tys' := [(cT, .byte)]) [0] rfl
  exact W.iret (v := 2) hx hb hr (fun t ht hW => ⟨⟨2, (), rfl, rfl, by rw [ht]; exact hP9, va_K.moved hW.alike hK9, hD9⟩, hS.F ht⟩) hS.2.2 d_LS_type_23

set_option maxHeartbeats 4000000 in
set_option maxRecDepth 100000 in
theorem c_LS_type_3n (l : Launch) (dC : Nat → ClassId) (dI : Nat → Nat → Nat) (h0 : Nat) (aT : Nat) (aW : Nat) (aB : Nat) (aL : Nat) (aS : Nat) (aV : Nat) (aC : Nat) (a7 : Nat) (a8 : Nat) (a9 : Nat) (a10 : Nat) (aE : Nat) (t0 : Nat) (x : Int64) (g : ¬ (ok x 0 ∧ ok x 8 ∧ ok x 16)) : Met l y_LS_type (Cond.code y_LS_type b_LS_type 4 (Option.some Jvm.ClassFile.FieldType.int) :: wd) { frames := 3, cells := 0, slots := 0, locals := 70 } (va_Pc [.ref h0, .long x, .int 3] (fun U => va_P (dC, dI) cls [(h0, .inr (0, [.ref aT, .ref aW, .ref aB, .ref aL, .ref aS, .ref aV, .ref aC, .ref a7, .ref a8, .ref a9, .ref a10, .ref aE, .int 0, .int 0, .int 0, .int (-1)])), (aT, .inr (1, [.ref t0, .int 0]))] U.heap ∧ va_K (dC, dI) cls [] U ∧ nw_ok U)) (va_Qi (fun r (_ : Unit) => r = (-1)) (fun _ _ => True) (fun _ => False)) 0 0 (fun _ => False) := by
  refine Met.ofW (cc := b_LS_type) (maxL := 4) (ret := (Option.some Jvm.ClassFile.FieldType.int)) (by decide) rfl ?_
  intro p e s m args below meth c s₁ B hml hv
  obtain ⟨rfl, hP, hK, hN⟩ := hv
  have hx := B.exec
  have hb := B.bytes
  have hr := B.returns
  have hlocks := B.notSynchronized
  have hts : ∀ w ∈ wd, w.before ([.ref h0, .long x, .int 3] : List Value).toArray s = true := fun w hw => atoms_spec (ws := (Cond.code y_LS_type b_LS_type 4 (Option.some Jvm.ClassFile.FieldType.int) :: wd)) B.pre w (List.mem_cons_of_mem _ hw)
  have hown : s.vm.findClass "LeastSolutions" = some m.cls := findClass_of_methodNamed B.named
  have hS : va_S (fun _ => False) s.heap s.heap [] := va_S.rf
  have hl := lv_entry ([.ref h0, .long x, .int 3]) (n := 4) (Nat.le_of_ble_eq_true rfl)
  rw [lg_entry_eq]
  generalize (lg_sl ([.ref h0, .long x, .int 3]) ++ List.replicate (4 - (lg_sl ([.ref h0, .long x, .int 3])).length) Slot.unset).toArray = ls at hl ⊢
  have hl : lv_has ls 4 [(0, .ref h0), (1, .long x), (3, .int 3)] := hl
  refine lv_aload_n hx hb d_LS_type_0 rfl (lv_at hl 0 rfl) ?_
  refine va_get (D := (dC, dI)) (ci := 0) (v := .ref aT) (C := R_LS) (T := T_LS) (N := 16) hx hb hts in_LS hown hK hP 0 rfl rfl 0 (by decide) (hts _ k_289) (fun _ h9 => h9) rfl d_LS_type_1 ?_
  refine lv_lload_n hx hb d_LS_type_4 rfl (lv_at hl 1 rfl) ?_
  refine lv_iload_n hx hb d_LS_type_5 rfl (lv_at hl 2 rfl) ?_
  refine pu_calli (va_runV (As := [.long x, .int 3]) (rest := []) ⟨hx, hb, hml, hown, hts⟩ (c_TX_put_3n l dC dI (aT) (t0) (x) (g)) (wd_V (C := "LeastSolutions$Text") 2 hts k_345 k_2 k_342 k_343 k_344 rfl rfl (by decide +kernel) ⟨Nat.le_of_ble_eq_true rfl, Nat.le_of_ble_eq_true rfl⟩) ⟨fun a U g mk q => by obtain ⟨q0, qP, qK, qN⟩ := q; exact ⟨q0, qP, va_K.moved (u := U) (U := U.calling g mk a) (Vm.Alike.refl U.vm) qK, nw_ok.same (s := U) (U := U.calling g mk a) rfl qN⟩, va_recv (ci := 1) (q0 := 1) hK hP rfl rfl, fun U hU hW => ⟨rfl, by rw [hU]; exact hP.sub (ws' := [(aT, .inr (1, [.ref t0, .int 0]))]) [1] rfl, va_K.moved hW.alike (hK.sub (tys' := []) [] rfl), nw_ok.warm hW hN⟩⟩ rfl rfl hl.1 rfl (lv_room (Nat.le_of_ble_eq_true rfl)) d_LS_type_6 ⟨Nat.le_of_ble_eq_true rfl, Nat.le_of_ble_eq_true rfl⟩) (fun r1 hr1 => ?_)
  try dsimp only at hr1
  subst hr1
  refine lv_if_eq (tgt := 22) hx hb d_LS_type_9 (by decide) (fun _ => ?_) (fun h9 => absurd (by decide) h9)
  refine lv_iconst (v := (-1)) hx hb d_LS_type_22 (by decide) ?_
  exact W.iret (v := (-1)) hx hb hr (fun t ht hW => ⟨⟨(-1), (), rfl, rfl, trivial⟩, hS.F ht⟩) hS.2.2 d_LS_type_23

set_option maxHeartbeats 4000000 in
set_option maxRecDepth 100000 in
theorem c_LS_type_3y (l : Launch) (dC : Nat → ClassId) (dI : Nat → Nat → Nat) (h0 : Nat) (aT : Nat) (aW : Nat) (aB : Nat) (aL : Nat) (aS : Nat) (aV : Nat) (aC : Nat) (a7 : Nat) (a8 : Nat) (a9 : Nat) (a10 : Nat) (aE : Nat) (t0 : Nat) (cT : ClassId) (x : Int64) (sz : Nat) (g : ok x 0 ∧ ok x 8 ∧ ok x 16) : Met l y_LS_type (Cond.code y_LS_type b_LS_type 4 (Option.some Jvm.ClassFile.FieldType.int) :: wd) { frames := 3, cells := 0, slots := 0, locals := 70 } (va_Pc [.ref h0, .long x, .int 3] (fun U => U.heap.size = sz ∧ va_P (dC, dI) cls [(h0, .inr (0, [.ref aT, .ref aW, .ref aB, .ref aL, .ref aS, .ref aV, .ref aC, .ref a7, .ref a8, .ref a9, .ref a10, .ref aE, .int 0, .int 0, .int 0, .int (-1)])), (aT, .inr (1, [.ref t0, .int 0])), (t0, .inl (cT, 300, .inl (fun _ => (0 : Int32))))] U.heap ∧ va_K (dC, dI) cls [(cT, .byte)] U ∧ va_D (fun _ => True) [(h0, .inr (0, [.ref aT, .ref aW, .ref aB, .ref aL, .ref aS, .ref aV, .ref aC, .ref a7, .ref a8, .ref a9, .ref a10, .ref aE, .int 0, .int 0, .int 0, .int (-1)])), (aT, .inr (1, [.ref t0, .int 0])), (t0, .inl (cT, 300, .inl (fun _ => (0 : Int32))))] ∧ nw_ok U)) (va_Qi (fun r (_ : Unit) => r = 3) (fun (_ : Unit) t => va_P (dC, dI) cls [(h0, .inr (0, [.ref aT, .ref aW, .ref aB, .ref aL, .ref aS, .ref aV, .ref aC, .ref a7, .ref a8, .ref a9, .ref a10, .ref aE, .int 0, .int 0, .int 0, .int (-1)]))] t.heap ∧ va_K (dC, dI) cls [(cT, .byte)] t ∧ va_D (va_A [(h0, .inr (0, [.ref aT, .ref aW, .ref aB, .ref aL, .ref aS, .ref aV, .ref aC, .ref a7, .ref a8, .ref a9, .ref a10, .ref aE, .int 0, .int 0, .int 0, .int (-1)])), (aT, .inr (1, [.ref t0, .int 0])), (t0, .inl (cT, 300, .inl (fun _ => (0 : Int32))))] sz) [(h0, .inr (0, [.ref aT, .ref aW, .ref aB, .ref aL, .ref aS, .ref aV, .ref aC, .ref a7, .ref a8, .ref a9, .ref a10, .ref aE, .int 0, .int 0, .int 0, .int (-1)]))]) (va_A [(h0, .inr (0, [.ref aT, .ref aW, .ref aB, .ref aL, .ref aS, .ref aV, .ref aC, .ref a7, .ref a8, .ref a9, .ref a10, .ref aE, .int 0, .int 0, .int 0, .int (-1)])), (aT, .inr (1, [.ref t0, .int 0])), (t0, .inl (cT, 300, .inl (fun _ => (0 : Int32))))] sz)) 0 0 (va_A [(h0, .inr (0, [.ref aT, .ref aW, .ref aB, .ref aL, .ref aS, .ref aV, .ref aC, .ref a7, .ref a8, .ref a9, .ref a10, .ref aE, .int 0, .int 0, .int 0, .int (-1)])), (aT, .inr (1, [.ref t0, .int 0])), (t0, .inl (cT, 300, .inl (fun _ => (0 : Int32))))] sz) := by
  refine Met.ofW (cc := b_LS_type) (maxL := 4) (ret := (Option.some Jvm.ClassFile.FieldType.int)) (by decide) rfl ?_
  intro p e s m args below meth c s₁ B hml hv
  obtain ⟨rfl, hsz, hP, hK, hD0, hN⟩ := hv
  have hx := B.exec
  have hb := B.bytes
  have hr := B.returns
  have hlocks := B.notSynchronized
  have hts : ∀ w ∈ wd, w.before ([.ref h0, .long x, .int 3] : List Value).toArray s = true := fun w hw => atoms_spec (ws := (Cond.code y_LS_type b_LS_type 4 (Option.some Jvm.ClassFile.FieldType.int) :: wd)) B.pre w (List.mem_cons_of_mem _ hw)
  have hown : s.vm.findClass "LeastSolutions" = some m.cls := findClass_of_methodNamed B.named
  subst hsz
  have hD := hD0.self (sz := s.heap.size)
  generalize hAe : va_A [(h0, .inr (0, [.ref aT, .ref aW, .ref aB, .ref aL, .ref aS, .ref aV, .ref aC, .ref a7, .ref a8, .ref a9, .ref a10, .ref aE, .int 0, .int 0, .int 0, .int (-1)])), (aT, .inr (1, [.ref t0, .int 0])), (t0, .inl (cT, 300, .inl (fun _ => (0 : Int32))))] s.heap.size = A at hD ⊢
  have hA : ∀ q : Nat, s.heap.size ≤ q → A q := fun q h => by rw [← hAe]; exact Or.inr h
  have hS : va_S A s.heap s.heap [] := va_S.rf
  have hl := lv_entry ([.ref h0, .long x, .int 3]) (n := 4) (Nat.le_of_ble_eq_true rfl)
  rw [lg_entry_eq]
  generalize (lg_sl ([.ref h0, .long x, .int 3]) ++ List.replicate (4 - (lg_sl ([.ref h0, .long x, .int 3])).length) Slot.unset).toArray = ls at hl ⊢
  have hl : lv_has ls 4 [(0, .ref h0), (1, .long x), (3, .int 3)] := hl
  refine lv_aload_n hx hb d_LS_type_0 rfl (lv_at hl 0 rfl) ?_
  refine va_get (D := (dC, dI)) (ci := 0) (v := .ref aT) (C := R_LS) (T := T_LS) (N := 16) hx hb hts in_LS hown hK hP 0 rfl rfl 0 (by decide) (hts _ k_289) (fun _ h9 => h9) rfl d_LS_type_1 ?_
  refine lv_lload_n hx hb d_LS_type_4 rfl (lv_at hl 1 rfl) ?_
  refine lv_iload_n hx hb d_LS_type_5 rfl (lv_at hl 2 rfl) ?_
  have hPc := hP.sub (ws' := [(aT, .inr (1, [.ref t0, .int 0])), (t0, .inl (cT, 300, .inl (fun _ => (0 : Int32))))]) [1, 2] rfl
  have hDc := hD.sub (ws' := [(aT, .inr (1, [.ref t0, .int 0])), (t0, .inl (cT, 300, .inl (fun _ => (0 : Int32))))]) [1, 2] (by decide) rfl
  have hKc := hK.sub (tys' := [(cT, .byte)]) [0] rfl
  have hFc := va_free (wc := [(aT, .inr (1, [.ref t0, .int 0])), (t0, .inl (cT, 300, .inl (fun _ => (0 : Int32))))]) hD hS hA [1, 2] rfl
  refine va_calli (va_runV (As := [.long x, .int 3]) (rest := []) ⟨hx, hb, hml, hown, hts⟩ (c_TX_put_3y l dC dI (aT) (t0) (cT) (x) s.heap.size (g)) (wd_V (C := "LeastSolutions$Text") 2 hts k_345 k_2 k_342 k_343 k_344 rfl rfl (by decide +kernel) ⟨Nat.le_of_ble_eq_true rfl, Nat.le_of_ble_eq_true rfl⟩) ⟨fun a U g mk q => by obtain ⟨q0, q1, qP, qK, qD, qN⟩ := q; exact ⟨q0, q1, qP, va_K.moved (u := U) (U := U.calling g mk a) (Vm.Alike.refl U.vm) qK, qD, nw_ok.same (s := U) (U := U.calling g mk a) rfl qN⟩, va_recv (ci := 1) (q0 := 1) hK hP rfl rfl, fun U hU hW => ⟨rfl, by rw [hU], by rw [hU]; exact hPc, va_K.moved hW.alike hKc, hDc.weaken (fun _ _ _ _ => trivial), nw_ok.warm hW hN⟩⟩ rfl rfl hl.1 rfl (lv_room (Nat.le_of_ble_eq_true rfl)) d_LS_type_6 ⟨Nat.le_of_ble_eq_true rfl, Nat.le_of_ble_eq_true rfl⟩) hS (fun q _ h => hFc q h) hFc (fun r1 u t H1 locs ht hvm hr1 hB hz1 hk1 hS => ?_)
  try dsimp only at hr1
  subst hr1
  obtain ⟨hP1, hK1, hD1⟩ := hB
  rw [ht] at hP1
  have hK1 := va_K.moved hvm.symm hK1
  obtain ⟨hP, hD⟩ := va_join (wr := [(h0, .inr (0, [.ref aT, .ref aW, .ref aB, .ref aL, .ref aS, .ref aV, .ref aC, .ref a7, .ref a8, .ref a9, .ref a10, .ref aE, .int 0, .int 0, .int 0, .int (-1)]))]) (w1 := [(aT, .inr (1, [.ref t0, .int 3]))]) hP hD [1, 2] [0] rfl rfl (by decide) (by decide) hk1 hFc hP1 hD1
  have hK := (hK.sub (tys' := []) [] rfl).app hK1
  have hK : va_K (dC, dI) cls [(cT, .byte)] s := hK
  have hP : va_P (dC, dI) cls [(h0, .inr (0, [.ref aT, .ref aW, .ref aB, .ref aL, .ref aS, .ref aV, .ref aC, .ref a7, .ref a8, .ref a9, .ref a10, .ref aE, .int 0, .int 0, .int 0, .int (-1)])), (aT, .inr (1, [.ref t0, .int 3]))] H1 := hP
  have hD : va_D A [(h0, .inr (0, [.ref aT, .ref aW, .ref aB, .ref aL, .ref aS, .ref aV, .ref aC, .ref a7, .ref a8, .ref a9, .ref a10, .ref aE, .int 0, .int 0, .int 0, .int (-1)])), (aT, .inr (1, [.ref t0, .int 3]))] := hD
  refine lv_if_eq (tgt := 22) hx hb d_LS_type_9 (by decide) (fun h9 => absurd h9 (by decide)) (fun _ => ?_)
  refine lv_aload_n hx hb d_LS_type_12 rfl (lv_at hl 0 rfl) ?_
  refine va_get (D := (dC, dI)) (ci := 0) (v := .ref aT) (C := R_LS) (T := T_LS) (N := 16) hx hb hts in_LS hown hK hP 0 rfl rfl 0 (by decide) (hts _ k_289) (fun _ h9 => h9) rfl d_LS_type_13 ?_
  refine va_getN (D := (dC, dI)) (ci := 1) (v := .int 3) (C := R_TX) (T := T_TX) (N := 2) hx hb hts in_TX hown hK hP 1 rfl rfl 1 (by decide) (va_Nw.use rfl (hN.1 (Jvm.Cond.fieldLinkNest "LeastSolutions" (96 : Nat) "LeastSolutions$Text" "length" "I" "LeastSolutions") nw_1)) (fun _ h9 => h9) rfl d_LS_type_16 ?_
  refine lv_goto (tgt := 23) hx hb d_LS_type_19 (by decide) ?_
  have hP9 := hP.sub (ws' := [(h0, .inr (0, [.ref aT, .ref aW, .ref aB, .ref aL, .ref aS, .ref aV, .ref aC, .ref a7, .ref a8, .ref a9, .ref a10, .ref aE, .int 0, .int 0, .int 0, .int (-1)]))]) [0] rfl
  have hD9 := hD.sub (ws' := [(h0, .inr (0, [.ref aT, .ref aW, .ref aB, .ref aL, .ref aS, .ref aV, .ref aC, .ref a7, .ref a8, .ref a9, .ref a10, .ref aE, .int 0, .int 0, .int 0, .int (-1)]))]) [0] (by decide) rfl
  have hK9 := hK.sub (tys' := [(cT, .byte)]) [0] rfl
  exact W.iret (v := 3) hx hb hr (fun t ht hW => ⟨⟨3, (), rfl, rfl, by rw [ht]; exact hP9, va_K.moved hW.alike hK9, hD9⟩, hS.F ht⟩) hS.2.2 d_LS_type_23

set_option maxHeartbeats 4000000 in
set_option maxRecDepth 100000 in
theorem c_LS_type_4n (l : Launch) (dC : Nat → ClassId) (dI : Nat → Nat → Nat) (h0 : Nat) (aT : Nat) (aW : Nat) (aB : Nat) (aL : Nat) (aS : Nat) (aV : Nat) (aC : Nat) (a7 : Nat) (a8 : Nat) (a9 : Nat) (a10 : Nat) (aE : Nat) (t0 : Nat) (x : Int64) (g : ¬ (ok x 0 ∧ ok x 8 ∧ ok x 16 ∧ ok x 24)) : Met l y_LS_type (Cond.code y_LS_type b_LS_type 4 (Option.some Jvm.ClassFile.FieldType.int) :: wd) { frames := 3, cells := 0, slots := 0, locals := 70 } (va_Pc [.ref h0, .long x, .int 4] (fun U => va_P (dC, dI) cls [(h0, .inr (0, [.ref aT, .ref aW, .ref aB, .ref aL, .ref aS, .ref aV, .ref aC, .ref a7, .ref a8, .ref a9, .ref a10, .ref aE, .int 0, .int 0, .int 0, .int (-1)])), (aT, .inr (1, [.ref t0, .int 0]))] U.heap ∧ va_K (dC, dI) cls [] U ∧ nw_ok U)) (va_Qi (fun r (_ : Unit) => r = (-1)) (fun _ _ => True) (fun _ => False)) 0 0 (fun _ => False) := by
  refine Met.ofW (cc := b_LS_type) (maxL := 4) (ret := (Option.some Jvm.ClassFile.FieldType.int)) (by decide) rfl ?_
  intro p e s m args below meth c s₁ B hml hv
  obtain ⟨rfl, hP, hK, hN⟩ := hv
  have hx := B.exec
  have hb := B.bytes
  have hr := B.returns
  have hlocks := B.notSynchronized
  have hts : ∀ w ∈ wd, w.before ([.ref h0, .long x, .int 4] : List Value).toArray s = true := fun w hw => atoms_spec (ws := (Cond.code y_LS_type b_LS_type 4 (Option.some Jvm.ClassFile.FieldType.int) :: wd)) B.pre w (List.mem_cons_of_mem _ hw)
  have hown : s.vm.findClass "LeastSolutions" = some m.cls := findClass_of_methodNamed B.named
  have hS : va_S (fun _ => False) s.heap s.heap [] := va_S.rf
  have hl := lv_entry ([.ref h0, .long x, .int 4]) (n := 4) (Nat.le_of_ble_eq_true rfl)
  rw [lg_entry_eq]
  generalize (lg_sl ([.ref h0, .long x, .int 4]) ++ List.replicate (4 - (lg_sl ([.ref h0, .long x, .int 4])).length) Slot.unset).toArray = ls at hl ⊢
  have hl : lv_has ls 4 [(0, .ref h0), (1, .long x), (3, .int 4)] := hl
  refine lv_aload_n hx hb d_LS_type_0 rfl (lv_at hl 0 rfl) ?_
  refine va_get (D := (dC, dI)) (ci := 0) (v := .ref aT) (C := R_LS) (T := T_LS) (N := 16) hx hb hts in_LS hown hK hP 0 rfl rfl 0 (by decide) (hts _ k_289) (fun _ h9 => h9) rfl d_LS_type_1 ?_
  refine lv_lload_n hx hb d_LS_type_4 rfl (lv_at hl 1 rfl) ?_
  refine lv_iload_n hx hb d_LS_type_5 rfl (lv_at hl 2 rfl) ?_
  refine pu_calli (va_runV (As := [.long x, .int 4]) (rest := []) ⟨hx, hb, hml, hown, hts⟩ (c_TX_put_4n l dC dI (aT) (t0) (x) (g)) (wd_V (C := "LeastSolutions$Text") 2 hts k_345 k_2 k_342 k_343 k_344 rfl rfl (by decide +kernel) ⟨Nat.le_of_ble_eq_true rfl, Nat.le_of_ble_eq_true rfl⟩) ⟨fun a U g mk q => by obtain ⟨q0, qP, qK, qN⟩ := q; exact ⟨q0, qP, va_K.moved (u := U) (U := U.calling g mk a) (Vm.Alike.refl U.vm) qK, nw_ok.same (s := U) (U := U.calling g mk a) rfl qN⟩, va_recv (ci := 1) (q0 := 1) hK hP rfl rfl, fun U hU hW => ⟨rfl, by rw [hU]; exact hP.sub (ws' := [(aT, .inr (1, [.ref t0, .int 0]))]) [1] rfl, va_K.moved hW.alike (hK.sub (tys' := []) [] rfl), nw_ok.warm hW hN⟩⟩ rfl rfl hl.1 rfl (lv_room (Nat.le_of_ble_eq_true rfl)) d_LS_type_6 ⟨Nat.le_of_ble_eq_true rfl, Nat.le_of_ble_eq_true rfl⟩) (fun r1 hr1 => ?_)
  try dsimp only at hr1
  subst hr1
  refine lv_if_eq (tgt := 22) hx hb d_LS_type_9 (by decide) (fun _ => ?_) (fun h9 => absurd (by decide) h9)
  refine lv_iconst (v := (-1)) hx hb d_LS_type_22 (by decide) ?_
  exact W.iret (v := (-1)) hx hb hr (fun t ht hW => ⟨⟨(-1), (), rfl, rfl, trivial⟩, hS.F ht⟩) hS.2.2 d_LS_type_23

set_option maxHeartbeats 4000000 in
set_option maxRecDepth 100000 in
theorem c_LS_type_4y (l : Launch) (dC : Nat → ClassId) (dI : Nat → Nat → Nat) (h0 : Nat) (aT : Nat) (aW : Nat) (aB : Nat) (aL : Nat) (aS : Nat) (aV : Nat) (aC : Nat) (a7 : Nat) (a8 : Nat) (a9 : Nat) (a10 : Nat) (aE : Nat) (t0 : Nat) (cT : ClassId) (x : Int64) (sz : Nat) (g : ok x 0 ∧ ok x 8 ∧ ok x 16 ∧ ok x 24) : Met l y_LS_type (Cond.code y_LS_type b_LS_type 4 (Option.some Jvm.ClassFile.FieldType.int) :: wd) { frames := 3, cells := 0, slots := 0, locals := 70 } (va_Pc [.ref h0, .long x, .int 4] (fun U => U.heap.size = sz ∧ va_P (dC, dI) cls [(h0, .inr (0, [.ref aT, .ref aW, .ref aB, .ref aL, .ref aS, .ref aV, .ref aC, .ref a7, .ref a8, .ref a9, .ref a10, .ref aE, .int 0, .int 0, .int 0, .int (-1)])), (aT, .inr (1, [.ref t0, .int 0])), (t0, .inl (cT, 300, .inl (fun _ => (0 : Int32))))] U.heap ∧ va_K (dC, dI) cls [(cT, .byte)] U ∧ va_D (fun _ => True) [(h0, .inr (0, [.ref aT, .ref aW, .ref aB, .ref aL, .ref aS, .ref aV, .ref aC, .ref a7, .ref a8, .ref a9, .ref a10, .ref aE, .int 0, .int 0, .int 0, .int (-1)])), (aT, .inr (1, [.ref t0, .int 0])), (t0, .inl (cT, 300, .inl (fun _ => (0 : Int32))))] ∧ nw_ok U)) (va_Qi (fun r (_ : Unit) => r = 4) (fun (_ : Unit) t => va_P (dC, dI) cls [(h0, .inr (0, [.ref aT, .ref aW, .ref aB, .ref aL, .ref aS, .ref aV, .ref aC, .ref a7, .ref a8, .ref a9, .ref a10, .ref aE, .int 0, .int 0, .int 0, .int (-1)]))] t.heap ∧ va_K (dC, dI) cls [(cT, .byte)] t ∧ va_D (va_A [(h0, .inr (0, [.ref aT, .ref aW, .ref aB, .ref aL, .ref aS, .ref aV, .ref aC, .ref a7, .ref a8, .ref a9, .ref a10, .ref aE, .int 0, .int 0, .int 0, .int (-1)])), (aT, .inr (1, [.ref t0, .int 0])), (t0, .inl (cT, 300, .inl (fun _ => (0 : Int32))))] sz) [(h0, .inr (0, [.ref aT, .ref aW, .ref aB, .ref aL, .ref aS, .ref aV, .ref aC, .ref a7, .ref a8, .ref a9, .ref a10, .ref aE, .int 0, .int 0, .int 0, .int (-1)]))]) (va_A [(h0, .inr (0, [.ref aT, .ref aW, .ref aB, .ref aL, .ref aS, .ref aV, .ref aC, .ref a7, .ref a8, .ref a9, .ref a10, .ref aE, .int 0, .int 0, .int 0, .int (-1)])), (aT, .inr (1, [.ref t0, .int 0])), (t0, .inl (cT, 300, .inl (fun _ => (0 : Int32))))] sz)) 0 0 (va_A [(h0, .inr (0, [.ref aT, .ref aW, .ref aB, .ref aL, .ref aS, .ref aV, .ref aC, .ref a7, .ref a8, .ref a9, .ref a10, .ref aE, .int 0, .int 0, .int 0, .int (-1)])), (aT, .inr (1, [.ref t0, .int 0])), (t0, .inl (cT, 300, .inl (fun _ => (0 : Int32))))] sz) := by
  refine Met.ofW (cc := b_LS_type) (maxL := 4) (ret := (Option.some Jvm.ClassFile.FieldType.int)) (by decide) rfl ?_
  intro p e s m args below meth c s₁ B hml hv
  obtain ⟨rfl, hsz, hP, hK, hD0, hN⟩ := hv
  have hx := B.exec
  have hb := B.bytes
  have hr := B.returns
  have hlocks := B.notSynchronized
  have hts : ∀ w ∈ wd, w.before ([.ref h0, .long x, .int 4] : List Value).toArray s = true := fun w hw => atoms_spec (ws := (Cond.code y_LS_type b_LS_type 4 (Option.some Jvm.ClassFile.FieldType.int) :: wd)) B.pre w (List.mem_cons_of_mem _ hw)
  have hown : s.vm.findClass "LeastSolutions" = some m.cls := findClass_of_methodNamed B.named
  subst hsz
  have hD := hD0.self (sz := s.heap.size)
  generalize hAe : va_A [(h0, .inr (0, [.ref aT, .ref aW, .ref aB, .ref aL, .ref aS, .ref aV, .ref aC, .ref a7, .ref a8, .ref a9, .ref a10, .ref aE, .int 0, .int 0, .int 0, .int (-1)])), (aT, .inr (1, [.ref t0, .int 0])), (t0, .inl (cT, 300, .inl (fun _ => (0 : Int32))))] s.heap.size = A at hD ⊢
  have hA : ∀ q : Nat, s.heap.size ≤ q → A q := fun q h => by rw [← hAe]; exact Or.inr h
  have hS : va_S A s.heap s.heap [] := va_S.rf
  have hl := lv_entry ([.ref h0, .long x, .int 4]) (n := 4) (Nat.le_of_ble_eq_true rfl)
  rw [lg_entry_eq]
  generalize (lg_sl ([.ref h0, .long x, .int 4]) ++ List.replicate (4 - (lg_sl ([.ref h0, .long x, .int 4])).length) Slot.unset).toArray = ls at hl ⊢
  have hl : lv_has ls 4 [(0, .ref h0), (1, .long x), (3, .int 4)] := hl
  refine lv_aload_n hx hb d_LS_type_0 rfl (lv_at hl 0 rfl) ?_
  refine va_get (D := (dC, dI)) (ci := 0) (v := .ref aT) (C := R_LS) (T := T_LS) (N := 16) hx hb hts in_LS hown hK hP 0 rfl rfl 0 (by decide) (hts _ k_289) (fun _ h9 => h9) rfl d_LS_type_1 ?_
  refine lv_lload_n hx hb d_LS_type_4 rfl (lv_at hl 1 rfl) ?_
  refine lv_iload_n hx hb d_LS_type_5 rfl (lv_at hl 2 rfl) ?_
  have hPc := hP.sub (ws' := [(aT, .inr (1, [.ref t0, .int 0])), (t0, .inl (cT, 300, .inl (fun _ => (0 : Int32))))]) [1, 2] rfl
  have hDc := hD.sub (ws' := [(aT, .inr (1, [.ref t0, .int 0])), (t0, .inl (cT, 300, .inl (fun _ => (0 : Int32))))]) [1, 2] (by decide) rfl
  have hKc := hK.sub (tys' := [(cT, .byte)]) [0] rfl
  have hFc := va_free (wc := [(aT, .inr (1, [.ref t0, .int 0])), (t0, .inl (cT, 300, .inl (fun _ => (0 : Int32))))]) hD hS hA [1, 2] rfl
  refine va_calli (va_runV (As := [.long x, .int 4]) (rest := []) ⟨hx, hb, hml, hown, hts⟩ (c_TX_put_4y l dC dI (aT) (t0) (cT) (x) s.heap.size (g)) (wd_V (C := "LeastSolutions$Text") 2 hts k_345 k_2 k_342 k_343 k_344 rfl rfl (by decide +kernel) ⟨Nat.le_of_ble_eq_true rfl, Nat.le_of_ble_eq_true rfl⟩) ⟨fun a U g mk q => by obtain ⟨q0, q1, qP, qK, qD, qN⟩ := q; exact ⟨q0, q1, qP, va_K.moved (u := U) (U := U.calling g mk a) (Vm.Alike.refl U.vm) qK, qD, nw_ok.same (s := U) (U := U.calling g mk a) rfl qN⟩, va_recv (ci := 1) (q0 := 1) hK hP rfl rfl, fun U hU hW => ⟨rfl, by rw [hU], by rw [hU]; exact hPc, va_K.moved hW.alike hKc, hDc.weaken (fun _ _ _ _ => trivial), nw_ok.warm hW hN⟩⟩ rfl rfl hl.1 rfl (lv_room (Nat.le_of_ble_eq_true rfl)) d_LS_type_6 ⟨Nat.le_of_ble_eq_true rfl, Nat.le_of_ble_eq_true rfl⟩) hS (fun q _ h => hFc q h) hFc (fun r1 u t H1 locs ht hvm hr1 hB hz1 hk1 hS => ?_)
  try dsimp only at hr1
  subst hr1
  obtain ⟨hP1, hK1, hD1⟩ := hB
  rw [ht] at hP1
  have hK1 := va_K.moved hvm.symm hK1
  obtain ⟨hP, hD⟩ := va_join (wr := [(h0, .inr (0, [.ref aT, .ref aW, .ref aB, .ref aL, .ref aS, .ref aV, .ref aC, .ref a7, .ref a8, .ref a9, .ref a10, .ref aE, .int 0, .int 0, .int 0, .int (-1)]))]) (w1 := [(aT, .inr (1, [.ref t0, .int 4]))]) hP hD [1, 2] [0] rfl rfl (by decide) (by decide) hk1 hFc hP1 hD1
  have hK := (hK.sub (tys' := []) [] rfl).app hK1
  have hK : va_K (dC, dI) cls [(cT, .byte)] s := hK
  have hP : va_P (dC, dI) cls [(h0, .inr (0, [.ref aT, .ref aW, .ref aB, .ref aL, .ref aS, .ref aV, .ref aC, .ref a7, .ref a8, .ref a9, .ref a10, .ref aE, .int 0, .int 0, .int 0, .int (-1)])), (aT, .inr (1, [.ref t0, .int 4]))] H1 := hP
  have hD : va_D A [(h0, .inr (0, [.ref aT, .ref aW, .ref aB, .ref aL, .ref aS, .ref aV, .ref aC, .ref a7, .ref a8, .ref a9, .ref a10, .ref aE, .int 0, .int 0, .int 0, .int (-1)])), (aT, .inr (1, [.ref t0, .int 4]))] := hD
  refine lv_if_eq (tgt := 22) hx hb d_LS_type_9 (by decide) (fun h9 => absurd h9 (by decide)) (fun _ => ?_)
  refine lv_aload_n hx hb d_LS_type_12 rfl (lv_at hl 0 rfl) ?_
  refine va_get (D := (dC, dI)) (ci := 0) (v := .ref aT) (C := R_LS) (T := T_LS) (N := 16) hx hb hts in_LS hown hK hP 0 rfl rfl 0 (by decide) (hts _ k_289) (fun _ h9 => h9) rfl d_LS_type_13 ?_
  refine va_getN (D := (dC, dI)) (ci := 1) (v := .int 4) (C := R_TX) (T := T_TX) (N := 2) hx hb hts in_TX hown hK hP 1 rfl rfl 1 (by decide) (va_Nw.use rfl (hN.1 (Jvm.Cond.fieldLinkNest "LeastSolutions" (96 : Nat) "LeastSolutions$Text" "length" "I" "LeastSolutions") nw_1)) (fun _ h9 => h9) rfl d_LS_type_16 ?_
  refine lv_goto (tgt := 23) hx hb d_LS_type_19 (by decide) ?_
  have hP9 := hP.sub (ws' := [(h0, .inr (0, [.ref aT, .ref aW, .ref aB, .ref aL, .ref aS, .ref aV, .ref aC, .ref a7, .ref a8, .ref a9, .ref a10, .ref aE, .int 0, .int 0, .int 0, .int (-1)]))]) [0] rfl
  have hD9 := hD.sub (ws' := [(h0, .inr (0, [.ref aT, .ref aW, .ref aB, .ref aL, .ref aS, .ref aV, .ref aC, .ref a7, .ref a8, .ref a9, .ref a10, .ref aE, .int 0, .int 0, .int 0, .int (-1)]))]) [0] (by decide) rfl
  have hK9 := hK.sub (tys' := [(cT, .byte)]) [0] rfl
  exact W.iret (v := 4) hx hb hr (fun t ht hW => ⟨⟨4, (), rfl, rfl, by rw [ht]; exact hP9, va_K.moved hW.alike hK9, hD9⟩, hS.F ht⟩) hS.2.2 d_LS_type_23

set_option maxHeartbeats 4000000 in
set_option maxRecDepth 100000 in
theorem c_LS_type_5n (l : Launch) (dC : Nat → ClassId) (dI : Nat → Nat → Nat) (h0 : Nat) (aT : Nat) (aW : Nat) (aB : Nat) (aL : Nat) (aS : Nat) (aV : Nat) (aC : Nat) (a7 : Nat) (a8 : Nat) (a9 : Nat) (a10 : Nat) (aE : Nat) (t0 : Nat) (x : Int64) (g : ¬ (ok x 0 ∧ ok x 8 ∧ ok x 16 ∧ ok x 24 ∧ ok x 32)) : Met l y_LS_type (Cond.code y_LS_type b_LS_type 4 (Option.some Jvm.ClassFile.FieldType.int) :: wd) { frames := 3, cells := 0, slots := 0, locals := 70 } (va_Pc [.ref h0, .long x, .int 5] (fun U => va_P (dC, dI) cls [(h0, .inr (0, [.ref aT, .ref aW, .ref aB, .ref aL, .ref aS, .ref aV, .ref aC, .ref a7, .ref a8, .ref a9, .ref a10, .ref aE, .int 0, .int 0, .int 0, .int (-1)])), (aT, .inr (1, [.ref t0, .int 0]))] U.heap ∧ va_K (dC, dI) cls [] U ∧ nw_ok U)) (va_Qi (fun r (_ : Unit) => r = (-1)) (fun _ _ => True) (fun _ => False)) 0 0 (fun _ => False) := by
  refine Met.ofW (cc := b_LS_type) (maxL := 4) (ret := (Option.some Jvm.ClassFile.FieldType.int)) (by decide) rfl ?_
  intro p e s m args below meth c s₁ B hml hv
  obtain ⟨rfl, hP, hK, hN⟩ := hv
  have hx := B.exec
  have hb := B.bytes
  have hr := B.returns
  have hlocks := B.notSynchronized
  have hts : ∀ w ∈ wd, w.before ([.ref h0, .long x, .int 5] : List Value).toArray s = true := fun w hw => atoms_spec (ws := (Cond.code y_LS_type b_LS_type 4 (Option.some Jvm.ClassFile.FieldType.int) :: wd)) B.pre w (List.mem_cons_of_mem _ hw)
  have hown : s.vm.findClass "LeastSolutions" = some m.cls := findClass_of_methodNamed B.named
  have hS : va_S (fun _ => False) s.heap s.heap [] := va_S.rf
  have hl := lv_entry ([.ref h0, .long x, .int 5]) (n := 4) (Nat.le_of_ble_eq_true rfl)
  rw [lg_entry_eq]
  generalize (lg_sl ([.ref h0, .long x, .int 5]) ++ List.replicate (4 - (lg_sl ([.ref h0, .long x, .int 5])).length) Slot.unset).toArray = ls at hl ⊢
  have hl : lv_has ls 4 [(0, .ref h0), (1, .long x), (3, .int 5)] := hl
  refine lv_aload_n hx hb d_LS_type_0 rfl (lv_at hl 0 rfl) ?_
  refine va_get (D := (dC, dI)) (ci := 0) (v := .ref aT) (C := R_LS) (T := T_LS) (N := 16) hx hb hts in_LS hown hK hP 0 rfl rfl 0 (by decide) (hts _ k_289) (fun _ h9 => h9) rfl d_LS_type_1 ?_
  refine lv_lload_n hx hb d_LS_type_4 rfl (lv_at hl 1 rfl) ?_
  refine lv_iload_n hx hb d_LS_type_5 rfl (lv_at hl 2 rfl) ?_
  refine pu_calli (va_runV (As := [.long x, .int 5]) (rest := []) ⟨hx, hb, hml, hown, hts⟩ (c_TX_put_5n l dC dI (aT) (t0) (x) (g)) (wd_V (C := "LeastSolutions$Text") 2 hts k_345 k_2 k_342 k_343 k_344 rfl rfl (by decide +kernel) ⟨Nat.le_of_ble_eq_true rfl, Nat.le_of_ble_eq_true rfl⟩) ⟨fun a U g mk q => by obtain ⟨q0, qP, qK, qN⟩ := q; exact ⟨q0, qP, va_K.moved (u := U) (U := U.calling g mk a) (Vm.Alike.refl U.vm) qK, nw_ok.same (s := U) (U := U.calling g mk a) rfl qN⟩, va_recv (ci := 1) (q0 := 1) hK hP rfl rfl, fun U hU hW => ⟨rfl, by rw [hU]; exact hP.sub (ws' := [(aT, .inr (1, [.ref t0, .int 0]))]) [1] rfl, va_K.moved hW.alike (hK.sub (tys' := []) [] rfl), nw_ok.warm hW hN⟩⟩ rfl rfl hl.1 rfl (lv_room (Nat.le_of_ble_eq_true rfl)) d_LS_type_6 ⟨Nat.le_of_ble_eq_true rfl, Nat.le_of_ble_eq_true rfl⟩) (fun r1 hr1 => ?_)
  try dsimp only at hr1
  subst hr1
  refine lv_if_eq (tgt := 22) hx hb d_LS_type_9 (by decide) (fun _ => ?_) (fun h9 => absurd (by decide) h9)
  refine lv_iconst (v := (-1)) hx hb d_LS_type_22 (by decide) ?_
  exact W.iret (v := (-1)) hx hb hr (fun t ht hW => ⟨⟨(-1), (), rfl, rfl, trivial⟩, hS.F ht⟩) hS.2.2 d_LS_type_23

set_option maxHeartbeats 4000000 in
set_option maxRecDepth 100000 in
theorem c_LS_type_5y (l : Launch) (dC : Nat → ClassId) (dI : Nat → Nat → Nat) (h0 : Nat) (aT : Nat) (aW : Nat) (aB : Nat) (aL : Nat) (aS : Nat) (aV : Nat) (aC : Nat) (a7 : Nat) (a8 : Nat) (a9 : Nat) (a10 : Nat) (aE : Nat) (t0 : Nat) (cT : ClassId) (x : Int64) (sz : Nat) (g : ok x 0 ∧ ok x 8 ∧ ok x 16 ∧ ok x 24 ∧ ok x 32) : Met l y_LS_type (Cond.code y_LS_type b_LS_type 4 (Option.some Jvm.ClassFile.FieldType.int) :: wd) { frames := 3, cells := 0, slots := 0, locals := 70 } (va_Pc [.ref h0, .long x, .int 5] (fun U => U.heap.size = sz ∧ va_P (dC, dI) cls [(h0, .inr (0, [.ref aT, .ref aW, .ref aB, .ref aL, .ref aS, .ref aV, .ref aC, .ref a7, .ref a8, .ref a9, .ref a10, .ref aE, .int 0, .int 0, .int 0, .int (-1)])), (aT, .inr (1, [.ref t0, .int 0])), (t0, .inl (cT, 300, .inl (fun _ => (0 : Int32))))] U.heap ∧ va_K (dC, dI) cls [(cT, .byte)] U ∧ va_D (fun _ => True) [(h0, .inr (0, [.ref aT, .ref aW, .ref aB, .ref aL, .ref aS, .ref aV, .ref aC, .ref a7, .ref a8, .ref a9, .ref a10, .ref aE, .int 0, .int 0, .int 0, .int (-1)])), (aT, .inr (1, [.ref t0, .int 0])), (t0, .inl (cT, 300, .inl (fun _ => (0 : Int32))))] ∧ nw_ok U)) (va_Qi (fun r (_ : Unit) => r = 5) (fun (_ : Unit) t => va_P (dC, dI) cls [(h0, .inr (0, [.ref aT, .ref aW, .ref aB, .ref aL, .ref aS, .ref aV, .ref aC, .ref a7, .ref a8, .ref a9, .ref a10, .ref aE, .int 0, .int 0, .int 0, .int (-1)]))] t.heap ∧ va_K (dC, dI) cls [(cT, .byte)] t ∧ va_D (va_A [(h0, .inr (0, [.ref aT, .ref aW, .ref aB, .ref aL, .ref aS, .ref aV, .ref aC, .ref a7, .ref a8, .ref a9, .ref a10, .ref aE, .int 0, .int 0, .int 0, .int (-1)])), (aT, .inr (1, [.ref t0, .int 0])), (t0, .inl (cT, 300, .inl (fun _ => (0 : Int32))))] sz) [(h0, .inr (0, [.ref aT, .ref aW, .ref aB, .ref aL, .ref aS, .ref aV, .ref aC, .ref a7, .ref a8, .ref a9, .ref a10, .ref aE, .int 0, .int 0, .int 0, .int (-1)]))]) (va_A [(h0, .inr (0, [.ref aT, .ref aW, .ref aB, .ref aL, .ref aS, .ref aV, .ref aC, .ref a7, .ref a8, .ref a9, .ref a10, .ref aE, .int 0, .int 0, .int 0, .int (-1)])), (aT, .inr (1, [.ref t0, .int 0])), (t0, .inl (cT, 300, .inl (fun _ => (0 : Int32))))] sz)) 0 0 (va_A [(h0, .inr (0, [.ref aT, .ref aW, .ref aB, .ref aL, .ref aS, .ref aV, .ref aC, .ref a7, .ref a8, .ref a9, .ref a10, .ref aE, .int 0, .int 0, .int 0, .int (-1)])), (aT, .inr (1, [.ref t0, .int 0])), (t0, .inl (cT, 300, .inl (fun _ => (0 : Int32))))] sz) := by
  refine Met.ofW (cc := b_LS_type) (maxL := 4) (ret := (Option.some Jvm.ClassFile.FieldType.int)) (by decide) rfl ?_
  intro p e s m args below meth c s₁ B hml hv
  obtain ⟨rfl, hsz, hP, hK, hD0, hN⟩ := hv
  have hx := B.exec
  have hb := B.bytes
  have hr := B.returns
  have hlocks := B.notSynchronized
  have hts : ∀ w ∈ wd, w.before ([.ref h0, .long x, .int 5] : List Value).toArray s = true := fun w hw => atoms_spec (ws := (Cond.code y_LS_type b_LS_type 4 (Option.some Jvm.ClassFile.FieldType.int) :: wd)) B.pre w (List.mem_cons_of_mem _ hw)
  have hown : s.vm.findClass "LeastSolutions" = some m.cls := findClass_of_methodNamed B.named
  subst hsz
  have hD := hD0.self (sz := s.heap.size)
  generalize hAe : va_A [(h0, .inr (0, [.ref aT, .ref aW, .ref aB, .ref aL, .ref aS, .ref aV, .ref aC, .ref a7, .ref a8, .ref a9, .ref a10, .ref aE, .int 0, .int 0, .int 0, .int (-1)])), (aT, .inr (1, [.ref t0, .int 0])), (t0, .inl (cT, 300, .inl (fun _ => (0 : Int32))))] s.heap.size = A at hD ⊢
  have hA : ∀ q : Nat, s.heap.size ≤ q → A q := fun q h => by rw [← hAe]; exact Or.inr h
  have hS : va_S A s.heap s.heap [] := va_S.rf
  have hl := lv_entry ([.ref h0, .long x, .int 5]) (n := 4) (Nat.le_of_ble_eq_true rfl)
  rw [lg_entry_eq]
  generalize (lg_sl ([.ref h0, .long x, .int 5]) ++ List.replicate (4 - (lg_sl ([.ref h0, .long x, .int 5])).length) Slot.unset).toArray = ls at hl ⊢
  have hl : lv_has ls 4 [(0, .ref h0), (1, .long x), (3, .int 5)] := hl
  refine lv_aload_n hx hb d_LS_type_0 rfl (lv_at hl 0 rfl) ?_
  refine va_get (D := (dC, dI)) (ci := 0) (v := .ref aT) (C := R_LS) (T := T_LS) (N := 16) hx hb hts in_LS hown hK hP 0 rfl rfl 0 (by decide) (hts _ k_289) (fun _ h9 => h9) rfl d_LS_type_1 ?_
  refine lv_lload_n hx hb d_LS_type_4 rfl (lv_at hl 1 rfl) ?_
  refine lv_iload_n hx hb d_LS_type_5 rfl (lv_at hl 2 rfl) ?_
  have hPc := hP.sub (ws' := [(aT, .inr (1, [.ref t0, .int 0])), (t0, .inl (cT, 300, .inl (fun _ => (0 : Int32))))]) [1, 2] rfl
  have hDc := hD.sub (ws' := [(aT, .inr (1, [.ref t0, .int 0])), (t0, .inl (cT, 300, .inl (fun _ => (0 : Int32))))]) [1, 2] (by decide) rfl
  have hKc := hK.sub (tys' := [(cT, .byte)]) [0] rfl
  have hFc := va_free (wc := [(aT, .inr (1, [.ref t0, .int 0])), (t0, .inl (cT, 300, .inl (fun _ => (0 : Int32))))]) hD hS hA [1, 2] rfl
  refine va_calli (va_runV (As := [.long x, .int 5]) (rest := []) ⟨hx, hb, hml, hown, hts⟩ (c_TX_put_5y l dC dI (aT) (t0) (cT) (x) s.heap.size (g)) (wd_V (C := "LeastSolutions$Text") 2 hts k_345 k_2 k_342 k_343 k_344 rfl rfl (by decide +kernel) ⟨Nat.le_of_ble_eq_true rfl, Nat.le_of_ble_eq_true rfl⟩) ⟨fun a U g mk q => by obtain ⟨q0, q1, qP, qK, qD, qN⟩ := q; exact ⟨q0, q1, qP, va_K.moved (u := U) (U := U.calling g mk a) (Vm.Alike.refl U.vm) qK, qD, nw_ok.same (s := U) (U := U.calling g mk a) rfl qN⟩, va_recv (ci := 1) (q0 := 1) hK hP rfl rfl, fun U hU hW => ⟨rfl, by rw [hU], by rw [hU]; exact hPc, va_K.moved hW.alike hKc, hDc.weaken (fun _ _ _ _ => trivial), nw_ok.warm hW hN⟩⟩ rfl rfl hl.1 rfl (lv_room (Nat.le_of_ble_eq_true rfl)) d_LS_type_6 ⟨Nat.le_of_ble_eq_true rfl, Nat.le_of_ble_eq_true rfl⟩) hS (fun q _ h => hFc q h) hFc (fun r1 u t H1 locs ht hvm hr1 hB hz1 hk1 hS => ?_)
  try dsimp only at hr1
  subst hr1
  obtain ⟨hP1, hK1, hD1⟩ := hB
  rw [ht] at hP1
  have hK1 := va_K.moved hvm.symm hK1
  obtain ⟨hP, hD⟩ := va_join (wr := [(h0, .inr (0, [.ref aT, .ref aW, .ref aB, .ref aL, .ref aS, .ref aV, .ref aC, .ref a7, .ref a8, .ref a9, .ref a10, .ref aE, .int 0, .int 0, .int 0, .int (-1)]))]) (w1 := [(aT, .inr (1, [.ref t0, .int 5]))]) hP hD [1, 2] [0] rfl rfl (by decide) (by decide) hk1 hFc hP1 hD1
  have hK := (hK.sub (tys' := []) [] rfl).app hK1
  have hK : va_K (dC, dI) cls [(cT, .byte)] s := hK
  have hP : va_P (dC, dI) cls [(h0, .inr (0, [.ref aT, .ref aW, .ref aB, .ref aL, .ref aS, .ref aV, .ref aC, .ref a7, .ref a8, .ref a9, .ref a10, .ref aE, .int 0, .int 0, .int 0, .int (-1)])), (aT, .inr (1, [.ref t0, .int 5]))] H1 := hP
  have hD : va_D A [(h0, .inr (0, [.ref aT, .ref aW, .ref aB, .ref aL, .ref aS, .ref aV, .ref aC, .ref a7, .ref a8, .ref a9, .ref a10, .ref aE, .int 0, .int 0, .int 0, .int (-1)])), (aT, .inr (1, [.ref t0, .int 5]))] := hD
  refine lv_if_eq (tgt := 22) hx hb d_LS_type_9 (by decide) (fun h9 => absurd h9 (by decide)) (fun _ => ?_)
  refine lv_aload_n hx hb d_LS_type_12 rfl (lv_at hl 0 rfl) ?_
  refine va_get (D := (dC, dI)) (ci := 0) (v := .ref aT) (C := R_LS) (T := T_LS) (N := 16) hx hb hts in_LS hown hK hP 0 rfl rfl 0 (by decide) (hts _ k_289) (fun _ h9 => h9) rfl d_LS_type_13 ?_
  refine va_getN (D := (dC, dI)) (ci := 1) (v := .int 5) (C := R_TX) (T := T_TX) (N := 2) hx hb hts in_TX hown hK hP 1 rfl rfl 1 (by decide) (va_Nw.use rfl (hN.1 (Jvm.Cond.fieldLinkNest "LeastSolutions" (96 : Nat) "LeastSolutions$Text" "length" "I" "LeastSolutions") nw_1)) (fun _ h9 => h9) rfl d_LS_type_16 ?_
  refine lv_goto (tgt := 23) hx hb d_LS_type_19 (by decide) ?_
  have hP9 := hP.sub (ws' := [(h0, .inr (0, [.ref aT, .ref aW, .ref aB, .ref aL, .ref aS, .ref aV, .ref aC, .ref a7, .ref a8, .ref a9, .ref a10, .ref aE, .int 0, .int 0, .int 0, .int (-1)]))]) [0] rfl
  have hD9 := hD.sub (ws' := [(h0, .inr (0, [.ref aT, .ref aW, .ref aB, .ref aL, .ref aS, .ref aV, .ref aC, .ref a7, .ref a8, .ref a9, .ref a10, .ref aE, .int 0, .int 0, .int 0, .int (-1)]))]) [0] (by decide) rfl
  have hK9 := hK.sub (tys' := [(cT, .byte)]) [0] rfl
  exact W.iret (v := 5) hx hb hr (fun t ht hW => ⟨⟨5, (), rfl, rfl, by rw [ht]; exact hP9, va_K.moved hW.alike hK9, hD9⟩, hS.F ht⟩) hS.2.2 d_LS_type_23

set_option maxHeartbeats 4000000 in
set_option maxRecDepth 100000 in
theorem c_LS_type_6n (l : Launch) (dC : Nat → ClassId) (dI : Nat → Nat → Nat) (h0 : Nat) (aT : Nat) (aW : Nat) (aB : Nat) (aL : Nat) (aS : Nat) (aV : Nat) (aC : Nat) (a7 : Nat) (a8 : Nat) (a9 : Nat) (a10 : Nat) (aE : Nat) (t0 : Nat) (x : Int64) (g : ¬ (ok x 0 ∧ ok x 8 ∧ ok x 16 ∧ ok x 24 ∧ ok x 32 ∧ ok x 40)) : Met l y_LS_type (Cond.code y_LS_type b_LS_type 4 (Option.some Jvm.ClassFile.FieldType.int) :: wd) { frames := 3, cells := 0, slots := 0, locals := 70 } (va_Pc [.ref h0, .long x, .int 6] (fun U => va_P (dC, dI) cls [(h0, .inr (0, [.ref aT, .ref aW, .ref aB, .ref aL, .ref aS, .ref aV, .ref aC, .ref a7, .ref a8, .ref a9, .ref a10, .ref aE, .int 0, .int 0, .int 0, .int (-1)])), (aT, .inr (1, [.ref t0, .int 0]))] U.heap ∧ va_K (dC, dI) cls [] U ∧ nw_ok U)) (va_Qi (fun r (_ : Unit) => r = (-1)) (fun _ _ => True) (fun _ => False)) 0 0 (fun _ => False) := by
  refine Met.ofW (cc := b_LS_type) (maxL := 4) (ret := (Option.some Jvm.ClassFile.FieldType.int)) (by decide) rfl ?_
  intro p e s m args below meth c s₁ B hml hv
  obtain ⟨rfl, hP, hK, hN⟩ := hv
  have hx := B.exec
  have hb := B.bytes
  have hr := B.returns
  have hlocks := B.notSynchronized
  have hts : ∀ w ∈ wd, w.before ([.ref h0, .long x, .int 6] : List Value).toArray s = true := fun w hw => atoms_spec (ws := (Cond.code y_LS_type b_LS_type 4 (Option.some Jvm.ClassFile.FieldType.int) :: wd)) B.pre w (List.mem_cons_of_mem _ hw)
  have hown : s.vm.findClass "LeastSolutions" = some m.cls := findClass_of_methodNamed B.named
  have hS : va_S (fun _ => False) s.heap s.heap [] := va_S.rf
  have hl := lv_entry ([.ref h0, .long x, .int 6]) (n := 4) (Nat.le_of_ble_eq_true rfl)
  rw [lg_entry_eq]
  generalize (lg_sl ([.ref h0, .long x, .int 6]) ++ List.replicate (4 - (lg_sl ([.ref h0, .long x, .int 6])).length) Slot.unset).toArray = ls at hl ⊢
  have hl : lv_has ls 4 [(0, .ref h0), (1, .long x), (3, .int 6)] := hl
  refine lv_aload_n hx hb d_LS_type_0 rfl (lv_at hl 0 rfl) ?_
  refine va_get (D := (dC, dI)) (ci := 0) (v := .ref aT) (C := R_LS) (T := T_LS) (N := 16) hx hb hts in_LS hown hK hP 0 rfl rfl 0 (by decide) (hts _ k_289) (fun _ h9 => h9) rfl d_LS_type_1 ?_
  refine lv_lload_n hx hb d_LS_type_4 rfl (lv_at hl 1 rfl) ?_
  refine lv_iload_n hx hb d_LS_type_5 rfl (lv_at hl 2 rfl) ?_
  refine pu_calli (va_runV (As := [.long x, .int 6]) (rest := []) ⟨hx, hb, hml, hown, hts⟩ (c_TX_put_6n l dC dI (aT) (t0) (x) (g)) (wd_V (C := "LeastSolutions$Text") 2 hts k_345 k_2 k_342 k_343 k_344 rfl rfl (by decide +kernel) ⟨Nat.le_of_ble_eq_true rfl, Nat.le_of_ble_eq_true rfl⟩) ⟨fun a U g mk q => by obtain ⟨q0, qP, qK, qN⟩ := q; exact ⟨q0, qP, va_K.moved (u := U) (U := U.calling g mk a) (Vm.Alike.refl U.vm) qK, nw_ok.same (s := U) (U := U.calling g mk a) rfl qN⟩, va_recv (ci := 1) (q0 := 1) hK hP rfl rfl, fun U hU hW => ⟨rfl, by rw [hU]; exact hP.sub (ws' := [(aT, .inr (1, [.ref t0, .int 0]))]) [1] rfl, va_K.moved hW.alike (hK.sub (tys' := []) [] rfl), nw_ok.warm hW hN⟩⟩ rfl rfl hl.1 rfl (lv_room (Nat.le_of_ble_eq_true rfl)) d_LS_type_6 ⟨Nat.le_of_ble_eq_true rfl, Nat.le_of_ble_eq_true rfl⟩) (fun r1 hr1 => ?_)
  try dsimp only at hr1
  subst hr1
  refine lv_if_eq (tgt := 22) hx hb d_LS_type_9 (by decide) (fun _ => ?_) (fun h9 => absurd (by decide) h9)
  refine lv_iconst (v := (-1)) hx hb d_LS_type_22 (by decide) ?_
  exact W.iret (v := (-1)) hx hb hr (fun t ht hW => ⟨⟨(-1), (), rfl, rfl, trivial⟩, hS.F ht⟩) hS.2.2 d_LS_type_23

set_option maxHeartbeats 4000000 in
set_option maxRecDepth 100000 in
theorem c_LS_type_6y (l : Launch) (dC : Nat → ClassId) (dI : Nat → Nat → Nat) (h0 : Nat) (aT : Nat) (aW : Nat) (aB : Nat) (aL : Nat) (aS : Nat) (aV : Nat) (aC : Nat) (a7 : Nat) (a8 : Nat) (a9 : Nat) (a10 : Nat) (aE : Nat) (t0 : Nat) (cT : ClassId) (x : Int64) (sz : Nat) (g : ok x 0 ∧ ok x 8 ∧ ok x 16 ∧ ok x 24 ∧ ok x 32 ∧ ok x 40) : Met l y_LS_type (Cond.code y_LS_type b_LS_type 4 (Option.some Jvm.ClassFile.FieldType.int) :: wd) { frames := 3, cells := 0, slots := 0, locals := 70 } (va_Pc [.ref h0, .long x, .int 6] (fun U => U.heap.size = sz ∧ va_P (dC, dI) cls [(h0, .inr (0, [.ref aT, .ref aW, .ref aB, .ref aL, .ref aS, .ref aV, .ref aC, .ref a7, .ref a8, .ref a9, .ref a10, .ref aE, .int 0, .int 0, .int 0, .int (-1)])), (aT, .inr (1, [.ref t0, .int 0])), (t0, .inl (cT, 300, .inl (fun _ => (0 : Int32))))] U.heap ∧ va_K (dC, dI) cls [(cT, .byte)] U ∧ va_D (fun _ => True) [(h0, .inr (0, [.ref aT, .ref aW, .ref aB, .ref aL, .ref aS, .ref aV, .ref aC, .ref a7, .ref a8, .ref a9, .ref a10, .ref aE, .int 0, .int 0, .int 0, .int (-1)])), (aT, .inr (1, [.ref t0, .int 0])), (t0, .inl (cT, 300, .inl (fun _ => (0 : Int32))))] ∧ nw_ok U)) (va_Qi (fun r (_ : Unit) => r = 6) (fun (_ : Unit) t => va_P (dC, dI) cls [(h0, .inr (0, [.ref aT, .ref aW, .ref aB, .ref aL, .ref aS, .ref aV, .ref aC, .ref a7, .ref a8, .ref a9, .ref a10, .ref aE, .int 0, .int 0, .int 0, .int (-1)]))] t.heap ∧ va_K (dC, dI) cls [(cT, .byte)] t ∧ va_D (va_A [(h0, .inr (0, [.ref aT, .ref aW, .ref aB, .ref aL, .ref aS, .ref aV, .ref aC, .ref a7, .ref a8, .ref a9, .ref a10, .ref aE, .int 0, .int 0, .int 0, .int (-1)])), (aT, .inr (1, [.ref t0, .int 0])), (t0, .inl (cT, 300, .inl (fun _ => (0 : Int32))))] sz) [(h0, .inr (0, [.ref aT, .ref aW, .ref aB, .ref aL, .ref aS, .ref aV, .ref aC, .ref a7, .ref a8, .ref a9, .ref a10, .ref aE, .int 0, .int 0, .int 0, .int (-1)]))]) (va_A [(h0, .inr (0, [.ref aT, .ref aW, .ref aB, .ref aL, .ref aS, .ref aV, .ref aC, .ref a7, .ref a8, .ref a9, .ref a10, .ref aE, .int 0, .int 0, .int 0, .int (-1)])), (aT, .inr (1, [.ref t0, .int 0])), (t0, .inl (cT, 300, .inl (fun _ => (0 : Int32))))] sz)) 0 0 (va_A [(h0, .inr (0, [.ref aT, .ref aW, .ref aB, .ref aL, .ref aS, .ref aV, .ref aC, .ref a7, .ref a8, .ref a9, .ref a10, .ref aE, .int 0, .int 0, .int 0, .int (-1)])), (aT, .inr (1, [.ref t0, .int 0])), (t0, .inl (cT, 300, .inl (fun _ => (0 : Int32))))] sz) := by
  refine Met.ofW (cc := b_LS_type) (maxL := 4) (ret := (Option.some Jvm.ClassFile.FieldType.int)) (by decide) rfl ?_
  intro p e s m args below meth c s₁ B hml hv
  obtain ⟨rfl, hsz, hP, hK, hD0, hN⟩ := hv
  have hx := B.exec
  have hb := B.bytes
  have hr := B.returns
  have hlocks := B.notSynchronized
  have hts : ∀ w ∈ wd, w.before ([.ref h0, .long x, .int 6] : List Value).toArray s = true := fun w hw => atoms_spec (ws := (Cond.code y_LS_type b_LS_type 4 (Option.some Jvm.ClassFile.FieldType.int) :: wd)) B.pre w (List.mem_cons_of_mem _ hw)
  have hown : s.vm.findClass "LeastSolutions" = some m.cls := findClass_of_methodNamed B.named
  subst hsz
  have hD := hD0.self (sz := s.heap.size)
  generalize hAe : va_A [(h0, .inr (0, [.ref aT, .ref aW, .ref aB, .ref aL, .ref aS, .ref aV, .ref aC, .ref a7, .ref a8, .ref a9, .ref a10, .ref aE, .int 0, .int 0, .int 0, .int (-1)])), (aT, .inr (1, [.ref t0, .int 0])), (t0, .inl (cT, 300, .inl (fun _ => (0 : Int32))))] s.heap.size = A at hD ⊢
  have hA : ∀ q : Nat, s.heap.size ≤ q → A q := fun q h => by rw [← hAe]; exact Or.inr h
  have hS : va_S A s.heap s.heap [] := va_S.rf
  have hl := lv_entry ([.ref h0, .long x, .int 6]) (n := 4) (Nat.le_of_ble_eq_true rfl)
  rw [lg_entry_eq]
  generalize (lg_sl ([.ref h0, .long x, .int 6]) ++ List.replicate (4 - (lg_sl ([.ref h0, .long x, .int 6])).length) Slot.unset).toArray = ls at hl ⊢
  have hl : lv_has ls 4 [(0, .ref h0), (1, .long x), (3, .int 6)] := hl
  refine lv_aload_n hx hb d_LS_type_0 rfl (lv_at hl 0 rfl) ?_
  refine va_get (D := (dC, dI)) (ci := 0) (v := .ref aT) (C := R_LS) (T := T_LS) (N := 16) hx hb hts in_LS hown hK hP 0 rfl rfl 0 (by decide) (hts _ k_289) (fun _ h9 => h9) rfl d_LS_type_1 ?_
  refine lv_lload_n hx hb d_LS_type_4 rfl (lv_at hl 1 rfl) ?_
  refine lv_iload_n hx hb d_LS_type_5 rfl (lv_at hl 2 rfl) ?_
  have hPc := hP.sub (ws' := [(aT, .inr (1, [.ref t0, .int 0])), (t0, .inl (cT, 300, .inl (fun _ => (0 : Int32))))]) [1, 2] rfl
  have hDc := hD.sub (ws' := [(aT, .inr (1, [.ref t0, .int 0])), (t0, .inl (cT, 300, .inl (fun _ => (0 : Int32))))]) [1, 2] (by decide) rfl
  have hKc := hK.sub (tys' := [(cT, .byte)]) [0] rfl
  have hFc := va_free (wc := [(aT, .inr (1, [.ref t0, .int 0])), (t0, .inl (cT, 300, .inl (fun _ => (0 : Int32))))]) hD hS hA [1, 2] rfl
  refine va_calli (va_runV (As := [.long x, .int 6]) (rest := []) ⟨hx, hb, hml, hown, hts⟩ (c_TX_put_6y l dC dI (aT) (t0) (cT) (x) s.heap.size (g)) (wd_V (C := "LeastSolutions$Text") 2 hts k_345 k_2 k_342 k_343 k_344 rfl rfl (by decide +kernel) ⟨Nat.le_of_ble_eq_true rfl, Nat.le_of_ble_eq_true rfl⟩) ⟨fun a U g mk q => by obtain ⟨q0, q1, qP, qK, qD, qN⟩ := q; exact ⟨q0, q1, qP, va_K.moved (u := U) (U := U.calling g mk a) (Vm.Alike.refl U.vm) qK, qD, nw_ok.same (s := U) (U := U.calling g mk a) rfl qN⟩, va_recv (ci := 1) (q0 := 1) hK hP rfl rfl, fun U hU hW => ⟨rfl, by rw [hU], by rw [hU]; exact hPc, va_K.moved hW.alike hKc, hDc.weaken (fun _ _ _ _ => trivial), nw_ok.warm hW hN⟩⟩ rfl rfl hl.1 rfl (lv_room (Nat.le_of_ble_eq_true rfl)) d_LS_type_6 ⟨Nat.le_of_ble_eq_true rfl, Nat.le_of_ble_eq_true rfl⟩) hS (fun q _ h => hFc q h) hFc (fun r1 u t H1 locs ht hvm hr1 hB hz1 hk1 hS => ?_)
  try dsimp only at hr1
  subst hr1
  obtain ⟨hP1, hK1, hD1⟩ := hB
  rw [ht] at hP1
  have hK1 := va_K.moved hvm.symm hK1
  obtain ⟨hP, hD⟩ := va_join (wr := [(h0, .inr (0, [.ref aT, .ref aW, .ref aB, .ref aL, .ref aS, .ref aV, .ref aC, .ref a7, .ref a8, .ref a9, .ref a10, .ref aE, .int 0, .int 0, .int 0, .int (-1)]))]) (w1 := [(aT, .inr (1, [.ref t0, .int 6]))]) hP hD [1, 2] [0] rfl rfl (by decide) (by decide) hk1 hFc hP1 hD1
  have hK := (hK.sub (tys' := []) [] rfl).app hK1
  have hK : va_K (dC, dI) cls [(cT, .byte)] s := hK
  have hP : va_P (dC, dI) cls [(h0, .inr (0, [.ref aT, .ref aW, .ref aB, .ref aL, .ref aS, .ref aV, .ref aC, .ref a7, .ref a8, .ref a9, .ref a10, .ref aE, .int 0, .int 0, .int 0, .int (-1)])), (aT, .inr (1, [.ref t0, .int 6]))] H1 := hP
  have hD : va_D A [(h0, .inr (0, [.ref aT, .ref aW, .ref aB, .ref aL, .ref aS, .ref aV, .ref aC, .ref a7, .ref a8, .ref a9, .ref a10, .ref aE, .int 0, .int 0, .int 0, .int (-1)])), (aT, .inr (1, [.ref t0, .int 6]))] := hD
  refine lv_if_eq (tgt := 22) hx hb d_LS_type_9 (by decide) (fun h9 => absurd h9 (by decide)) (fun _ => ?_)
  refine lv_aload_n hx hb d_LS_type_12 rfl (lv_at hl 0 rfl) ?_
  refine va_get (D := (dC, dI)) (ci := 0) (v := .ref aT) (C := R_LS) (T := T_LS) (N := 16) hx hb hts in_LS hown hK hP 0 rfl rfl 0 (by decide) (hts _ k_289) (fun _ h9 => h9) rfl d_LS_type_13 ?_
  refine va_getN (D := (dC, dI)) (ci := 1) (v := .int 6) (C := R_TX) (T := T_TX) (N := 2) hx hb hts in_TX hown hK hP 1 rfl rfl 1 (by decide) (va_Nw.use rfl (hN.1 (Jvm.Cond.fieldLinkNest "LeastSolutions" (96 : Nat) "LeastSolutions$Text" "length" "I" "LeastSolutions") nw_1)) (fun _ h9 => h9) rfl d_LS_type_16 ?_
  refine lv_goto (tgt := 23) hx hb d_LS_type_19 (by decide) ?_
  have hP9 := hP.sub (ws' := [(h0, .inr (0, [.ref aT, .ref aW, .ref aB, .ref aL, .ref aS, .ref aV, .ref aC, .ref a7, .ref a8, .ref a9, .ref a10, .ref aE, .int 0, .int 0, .int 0, .int (-1)]))]) [0] rfl
  have hD9 := hD.sub (ws' := [(h0, .inr (0, [.ref aT, .ref aW, .ref aB, .ref aL, .ref aS, .ref aV, .ref aC, .ref a7, .ref a8, .ref a9, .ref a10, .ref aE, .int 0, .int 0, .int 0, .int (-1)]))]) [0] (by decide) rfl
  have hK9 := hK.sub (tys' := [(cT, .byte)]) [0] rfl
  exact W.iret (v := 6) hx hb hr (fun t ht hW => ⟨⟨6, (), rfl, rfl, by rw [ht]; exact hP9, va_K.moved hW.alike hK9, hD9⟩, hS.F ht⟩) hS.2.2 d_LS_type_23

set_option maxHeartbeats 4000000 in
set_option maxRecDepth 100000 in
theorem c_LS_type_7n (l : Launch) (dC : Nat → ClassId) (dI : Nat → Nat → Nat) (h0 : Nat) (aT : Nat) (aW : Nat) (aB : Nat) (aL : Nat) (aS : Nat) (aV : Nat) (aC : Nat) (a7 : Nat) (a8 : Nat) (a9 : Nat) (a10 : Nat) (aE : Nat) (t0 : Nat) (x : Int64) (g : ¬ (ok x 0 ∧ ok x 8 ∧ ok x 16 ∧ ok x 24 ∧ ok x 32 ∧ ok x 40 ∧ ok x 48)) : Met l y_LS_type (Cond.code y_LS_type b_LS_type 4 (Option.some Jvm.ClassFile.FieldType.int) :: wd) { frames := 3, cells := 0, slots := 0, locals := 70 } (va_Pc [.ref h0, .long x, .int 7] (fun U => va_P (dC, dI) cls [(h0, .inr (0, [.ref aT, .ref aW, .ref aB, .ref aL, .ref aS, .ref aV, .ref aC, .ref a7, .ref a8, .ref a9, .ref a10, .ref aE, .int 0, .int 0, .int 0, .int (-1)])), (aT, .inr (1, [.ref t0, .int 0]))] U.heap ∧ va_K (dC, dI) cls [] U ∧ nw_ok U)) (va_Qi (fun r (_ : Unit) => r = (-1)) (fun _ _ => True) (fun _ => False)) 0 0 (fun _ => False) := by
  refine Met.ofW (cc := b_LS_type) (maxL := 4) (ret := (Option.some Jvm.ClassFile.FieldType.int)) (by decide) rfl ?_
  intro p e s m args below meth c s₁ B hml hv
  obtain ⟨rfl, hP, hK, hN⟩ := hv
  have hx := B.exec
  have hb := B.bytes
  have hr := B.returns
  have hlocks := B.notSynchronized
  have hts : ∀ w ∈ wd, w.before ([.ref h0, .long x, .int 7] : List Value).toArray s = true := fun w hw => atoms_spec (ws := (Cond.code y_LS_type b_LS_type 4 (Option.some Jvm.ClassFile.FieldType.int) :: wd)) B.pre w (List.mem_cons_of_mem _ hw)
  have hown : s.vm.findClass "LeastSolutions" = some m.cls := findClass_of_methodNamed B.named
  have hS : va_S (fun _ => False) s.heap s.heap [] := va_S.rf
  have hl := lv_entry ([.ref h0, .long x, .int 7]) (n := 4) (Nat.le_of_ble_eq_true rfl)
  rw [lg_entry_eq]
  generalize (lg_sl ([.ref h0, .long x, .int 7]) ++ List.replicate (4 - (lg_sl ([.ref h0, .long x, .int 7])).length) Slot.unset).toArray = ls at hl ⊢
  have hl : lv_has ls 4 [(0, .ref h0), (1, .long x), (3, .int 7)] := hl
  refine lv_aload_n hx hb d_LS_type_0 rfl (lv_at hl 0 rfl) ?_
  refine va_get (D := (dC, dI)) (ci := 0) (v := .ref aT) (C := R_LS) (T := T_LS) (N := 16) hx hb hts in_LS hown hK hP 0 rfl rfl 0 (by decide) (hts _ k_289) (fun _ h9 => h9) rfl d_LS_type_1 ?_
  refine lv_lload_n hx hb d_LS_type_4 rfl (lv_at hl 1 rfl) ?_
  refine lv_iload_n hx hb d_LS_type_5 rfl (lv_at hl 2 rfl) ?_
  refine pu_calli (va_runV (As := [.long x, .int 7]) (rest := []) ⟨hx, hb, hml, hown, hts⟩ (c_TX_put_7n l dC dI (aT) (t0) (x) (g)) (wd_V (C := "LeastSolutions$Text") 2 hts k_345 k_2 k_342 k_343 k_344 rfl rfl (by decide +kernel) ⟨Nat.le_of_ble_eq_true rfl, Nat.le_of_ble_eq_true rfl⟩) ⟨fun a U g mk q => by obtain ⟨q0, qP, qK, qN⟩ := q; exact ⟨q0, qP, va_K.moved (u := U) (U := U.calling g mk a) (Vm.Alike.refl U.vm) qK, nw_ok.same (s := U) (U := U.calling g mk a) rfl qN⟩, va_recv (ci := 1) (q0 := 1) hK hP rfl rfl, fun U hU hW => ⟨rfl, by rw [hU]; exact hP.sub (ws' := [(aT, .inr (1, [.ref t0, .int 0]))]) [1] rfl, va_K.moved hW.alike (hK.sub (tys' := []) [] rfl), nw_ok.warm hW hN⟩⟩ rfl rfl hl.1 rfl (lv_room (Nat.le_of_ble_eq_true rfl)) d_LS_type_6 ⟨Nat.le_of_ble_eq_true rfl, Nat.le_of_ble_eq_true rfl⟩) (fun r1 hr1 => ?_)
  try dsimp only at hr1
  subst hr1
  refine lv_if_eq (tgt := 22) hx hb d_LS_type_9 (by decide) (fun _ => ?_) (fun h9 => absurd (by decide) h9)
  refine lv_iconst (v := (-1)) hx hb d_LS_type_22 (by decide) ?_
  exact W.iret (v := (-1)) hx hb hr (fun t ht hW => ⟨⟨(-1), (), rfl, rfl, trivial⟩, hS.F ht⟩) hS.2.2 d_LS_type_23

set_option maxHeartbeats 4000000 in
set_option maxRecDepth 100000 in
theorem c_LS_type_7y (l : Launch) (dC : Nat → ClassId) (dI : Nat → Nat → Nat) (h0 : Nat) (aT : Nat) (aW : Nat) (aB : Nat) (aL : Nat) (aS : Nat) (aV : Nat) (aC : Nat) (a7 : Nat) (a8 : Nat) (a9 : Nat) (a10 : Nat) (aE : Nat) (t0 : Nat) (cT : ClassId) (x : Int64) (sz : Nat) (g : ok x 0 ∧ ok x 8 ∧ ok x 16 ∧ ok x 24 ∧ ok x 32 ∧ ok x 40 ∧ ok x 48) : Met l y_LS_type (Cond.code y_LS_type b_LS_type 4 (Option.some Jvm.ClassFile.FieldType.int) :: wd) { frames := 3, cells := 0, slots := 0, locals := 70 } (va_Pc [.ref h0, .long x, .int 7] (fun U => U.heap.size = sz ∧ va_P (dC, dI) cls [(h0, .inr (0, [.ref aT, .ref aW, .ref aB, .ref aL, .ref aS, .ref aV, .ref aC, .ref a7, .ref a8, .ref a9, .ref a10, .ref aE, .int 0, .int 0, .int 0, .int (-1)])), (aT, .inr (1, [.ref t0, .int 0])), (t0, .inl (cT, 300, .inl (fun _ => (0 : Int32))))] U.heap ∧ va_K (dC, dI) cls [(cT, .byte)] U ∧ va_D (fun _ => True) [(h0, .inr (0, [.ref aT, .ref aW, .ref aB, .ref aL, .ref aS, .ref aV, .ref aC, .ref a7, .ref a8, .ref a9, .ref a10, .ref aE, .int 0, .int 0, .int 0, .int (-1)])), (aT, .inr (1, [.ref t0, .int 0])), (t0, .inl (cT, 300, .inl (fun _ => (0 : Int32))))] ∧ nw_ok U)) (va_Qi (fun r (_ : Unit) => r = 7) (fun (_ : Unit) t => va_P (dC, dI) cls [(h0, .inr (0, [.ref aT, .ref aW, .ref aB, .ref aL, .ref aS, .ref aV, .ref aC, .ref a7, .ref a8, .ref a9, .ref a10, .ref aE, .int 0, .int 0, .int 0, .int (-1)]))] t.heap ∧ va_K (dC, dI) cls [(cT, .byte)] t ∧ va_D (va_A [(h0, .inr (0, [.ref aT, .ref aW, .ref aB, .ref aL, .ref aS, .ref aV, .ref aC, .ref a7, .ref a8, .ref a9, .ref a10, .ref aE, .int 0, .int 0, .int 0, .int (-1)])), (aT, .inr (1, [.ref t0, .int 0])), (t0, .inl (cT, 300, .inl (fun _ => (0 : Int32))))] sz) [(h0, .inr (0, [.ref aT, .ref aW, .ref aB, .ref aL, .ref aS, .ref aV, .ref aC, .ref a7, .ref a8, .ref a9, .ref a10, .ref aE, .int 0, .int 0, .int 0, .int (-1)]))]) (va_A [(h0, .inr (0, [.ref aT, .ref aW, .ref aB, .ref aL, .ref aS, .ref aV, .ref aC, .ref a7, .ref a8, .ref a9, .ref a10, .ref aE, .int 0, .int 0, .int 0, .int (-1)])), (aT, .inr (1, [.ref t0, .int 0])), (t0, .inl (cT, 300, .inl (fun _ => (0 : Int32))))] sz)) 0 0 (va_A [(h0, .inr (0, [.ref aT, .ref aW, .ref aB, .ref aL, .ref aS, .ref aV, .ref aC, .ref a7, .ref a8, .ref a9, .ref a10, .ref aE, .int 0, .int 0, .int 0, .int (-1)])), (aT, .inr (1, [.ref t0, .int 0])), (t0, .inl (cT, 300, .inl (fun _ => (0 : Int32))))] sz) := by
  refine Met.ofW (cc := b_LS_type) (maxL := 4) (ret := (Option.some Jvm.ClassFile.FieldType.int)) (by decide) rfl ?_
  intro p e s m args below meth c s₁ B hml hv
  obtain ⟨rfl, hsz, hP, hK, hD0, hN⟩ := hv
  have hx := B.exec
  have hb := B.bytes
  have hr := B.returns
  have hlocks := B.notSynchronized
  have hts : ∀ w ∈ wd, w.before ([.ref h0, .long x, .int 7] : List Value).toArray s = true := fun w hw => atoms_spec (ws := (Cond.code y_LS_type b_LS_type 4 (Option.some Jvm.ClassFile.FieldType.int) :: wd)) B.pre w (List.mem_cons_of_mem _ hw)
  have hown : s.vm.findClass "LeastSolutions" = some m.cls := findClass_of_methodNamed B.named
  subst hsz
  have hD := hD0.self (sz := s.heap.size)
  generalize hAe : va_A [(h0, .inr (0, [.ref aT, .ref aW, .ref aB, .ref aL, .ref aS, .ref aV, .ref aC, .ref a7, .ref a8, .ref a9, .ref a10, .ref aE, .int 0, .int 0, .int 0, .int (-1)])), (aT, .inr (1, [.ref t0, .int 0])), (t0, .inl (cT, 300, .inl (fun _ => (0 : Int32))))] s.heap.size = A at hD ⊢
  have hA : ∀ q : Nat, s.heap.size ≤ q → A q := fun q h => by rw [← hAe]; exact Or.inr h
  have hS : va_S A s.heap s.heap [] := va_S.rf
  have hl := lv_entry ([.ref h0, .long x, .int 7]) (n := 4) (Nat.le_of_ble_eq_true rfl)
  rw [lg_entry_eq]
  generalize (lg_sl ([.ref h0, .long x, .int 7]) ++ List.replicate (4 - (lg_sl ([.ref h0, .long x, .int 7])).length) Slot.unset).toArray = ls at hl ⊢
  have hl : lv_has ls 4 [(0, .ref h0), (1, .long x), (3, .int 7)] := hl
  refine lv_aload_n hx hb d_LS_type_0 rfl (lv_at hl 0 rfl) ?_
  refine va_get (D := (dC, dI)) (ci := 0) (v := .ref aT) (C := R_LS) (T := T_LS) (N := 16) hx hb hts in_LS hown hK hP 0 rfl rfl 0 (by decide) (hts _ k_289) (fun _ h9 => h9) rfl d_LS_type_1 ?_
  refine lv_lload_n hx hb d_LS_type_4 rfl (lv_at hl 1 rfl) ?_
  refine lv_iload_n hx hb d_LS_type_5 rfl (lv_at hl 2 rfl) ?_
  have hPc := hP.sub (ws' := [(aT, .inr (1, [.ref t0, .int 0])), (t0, .inl (cT, 300, .inl (fun _ => (0 : Int32))))]) [1, 2] rfl
  have hDc := hD.sub (ws' := [(aT, .inr (1, [.ref t0, .int 0])), (t0, .inl (cT, 300, .inl (fun _ => (0 : Int32))))]) [1, 2] (by decide) rfl
  have hKc := hK.sub (tys' := [(cT, .byte)]) [0] rfl
  have hFc := va_free (wc := [(aT, .inr (1, [.ref t0, .int 0])), (t0, .inl (cT, 300, .inl (fun _ => (0 : Int32))))]) hD hS hA [1, 2] rfl
  refine va_calli (va_runV (As := [.long x, .int 7]) (rest := []) ⟨hx, hb, hml, hown, hts⟩ (c_TX_put_7y l dC dI (aT) (t0) (cT) (x) s.heap.size (g)) (wd_V (C := "LeastSolutions$Text") 2 hts k_345 k_2 k_342 k_343 k_344 rfl rfl (by decide +kernel) ⟨Nat.le_of_ble_eq_true rfl, Nat.le_of_ble_eq_true rfl⟩) ⟨fun a U g mk q => by obtain ⟨q0, q1, qP, qK, qD, qN⟩ := q; exact ⟨q0, q1, qP, va_K.moved (u := U) (U := U.calling g mk a) (Vm.Alike.refl U.vm) qK, qD, nw_ok.same (s := U) (U := U.calling g mk a) rfl qN⟩, va_recv (ci := 1) (q0 := 1) hK hP rfl rfl, fun U hU hW => ⟨rfl, by rw [hU], by rw [hU]; exact hPc, va_K.moved hW.alike hKc, hDc.weaken (fun _ _ _ _ => trivial), nw_ok.warm hW hN⟩⟩ rfl rfl hl.1 rfl (lv_room (Nat.le_of_ble_eq_true rfl)) d_LS_type_6 ⟨Nat.le_of_ble_eq_true rfl, Nat.le_of_ble_eq_true rfl⟩) hS (fun q _ h => hFc q h) hFc (fun r1 u t H1 locs ht hvm hr1 hB hz1 hk1 hS => ?_)
  try dsimp only at hr1
  subst hr1
  obtain ⟨hP1, hK1, hD1⟩ := hB
  rw [ht] at hP1
  have hK1 := va_K.moved hvm.symm hK1
  obtain ⟨hP, hD⟩ := va_join (wr := [(h0, .inr (0, [.ref aT, .ref aW, .ref aB, .ref aL, .ref aS, .ref aV, .ref aC, .ref a7, .ref a8, .ref a9, .ref a10, .ref aE, .int 0, .int 0, .int 0, .int (-1)]))]) (w1 := [(aT, .inr (1, [.ref t0, .int 7]))]) hP hD [1, 2] [0] rfl rfl (by decide) (by decide) hk1 hFc hP1 hD1
  have hK := (hK.sub (tys' := []) [] rfl).app hK1
  have hK : va_K (dC, dI) cls [(cT, .byte)] s := hK
  have hP : va_P (dC, dI) cls [(h0, .inr (0, [.ref aT, .ref aW, .ref aB, .ref aL, .ref aS, .ref aV, .ref aC, .ref a7, .ref a8, .ref a9, .ref a10, .ref aE, .int 0, .int 0, .int 0, .int (-1)])), (aT, .inr (1, [.ref t0, .int 7]))] H1 := hP
  have hD : va_D A [(h0, .inr (0, [.ref aT, .ref aW, .ref aB, .ref aL, .ref aS, .ref aV, .ref aC, .ref a7, .ref a8, .ref a9, .ref a10, .ref aE, .int 0, .int 0, .int 0, .int (-1)])), (aT, .inr (1, [.ref t0, .int 7]))] := hD
  refine lv_if_eq (tgt := 22) hx hb d_LS_type_9 (by decide) (fun h9 => absurd h9 (by decide)) (fun _ => ?_)
  refine lv_aload_n hx hb d_LS_type_12 rfl (lv_at hl 0 rfl) ?_
  refine va_get (D := (dC, dI)) (ci := 0) (v := .ref aT) (C := R_LS) (T := T_LS) (N := 16) hx hb hts in_LS hown hK hP 0 rfl rfl 0 (by decide) (hts _ k_289) (fun _ h9 => h9) rfl d_LS_type_13 ?_
  refine va_getN (D := (dC, dI)) (ci := 1) (v := .int 7) (C := R_TX) (T := T_TX) (N := 2) hx hb hts in_TX hown hK hP 1 rfl rfl 1 (by decide) (va_Nw.use rfl (hN.1 (Jvm.Cond.fieldLinkNest "LeastSolutions" (96 : Nat) "LeastSolutions$Text" "length" "I" "LeastSolutions") nw_1)) (fun _ h9 => h9) rfl d_LS_type_16 ?_
  refine lv_goto (tgt := 23) hx hb d_LS_type_19 (by decide) ?_
  have hP9 := hP.sub (ws' := [(h0, .inr (0, [.ref aT, .ref aW, .ref aB, .ref aL, .ref aS, .ref aV, .ref aC, .ref a7, .ref a8, .ref a9, .ref a10, .ref aE, .int 0, .int 0, .int 0, .int (-1)]))]) [0] rfl
  have hD9 := hD.sub (ws' := [(h0, .inr (0, [.ref aT, .ref aW, .ref aB, .ref aL, .ref aS, .ref aV, .ref aC, .ref a7, .ref a8, .ref a9, .ref a10, .ref aE, .int 0, .int 0, .int 0, .int (-1)]))]) [0] (by decide) rfl
  have hK9 := hK.sub (tys' := [(cT, .byte)]) [0] rfl
  exact W.iret (v := 7) hx hb hr (fun t ht hW => ⟨⟨7, (), rfl, rfl, by rw [ht]; exact hP9, va_K.moved hW.alike hK9, hD9⟩, hS.F ht⟩) hS.2.2 d_LS_type_23

set_option maxHeartbeats 4000000 in
set_option maxRecDepth 100000 in
theorem c_LS_type_8n (l : Launch) (dC : Nat → ClassId) (dI : Nat → Nat → Nat) (h0 : Nat) (aT : Nat) (aW : Nat) (aB : Nat) (aL : Nat) (aS : Nat) (aV : Nat) (aC : Nat) (a7 : Nat) (a8 : Nat) (a9 : Nat) (a10 : Nat) (aE : Nat) (t0 : Nat) (x : Int64) (g : ¬ (ok x 0 ∧ ok x 8 ∧ ok x 16 ∧ ok x 24 ∧ ok x 32 ∧ ok x 40 ∧ ok x 48 ∧ ok x 56)) : Met l y_LS_type (Cond.code y_LS_type b_LS_type 4 (Option.some Jvm.ClassFile.FieldType.int) :: wd) { frames := 3, cells := 0, slots := 0, locals := 70 } (va_Pc [.ref h0, .long x, .int 8] (fun U => va_P (dC, dI) cls [(h0, .inr (0, [.ref aT, .ref aW, .ref aB, .ref aL, .ref aS, .ref aV, .ref aC, .ref a7, .ref a8, .ref a9, .ref a10, .ref aE, .int 0, .int 0, .int 0, .int (-1)])), (aT, .inr (1, [.ref t0, .int 0]))] U.heap ∧ va_K (dC, dI) cls [] U ∧ nw_ok U)) (va_Qi (fun r (_ : Unit) => r = (-1)) (fun _ _ => True) (fun _ => False)) 0 0 (fun _ => False) := by
  refine Met.ofW (cc := b_LS_type) (maxL := 4) (ret := (Option.some Jvm.ClassFile.FieldType.int)) (by decide) rfl ?_
  intro p e s m args below meth c s₁ B hml hv
  obtain ⟨rfl, hP, hK, hN⟩ := hv
  have hx := B.exec
  have hb := B.bytes
  have hr := B.returns
  have hlocks := B.notSynchronized
  have hts : ∀ w ∈ wd, w.before ([.ref h0, .long x, .int 8] : List Value).toArray s = true := fun w hw => atoms_spec (ws := (Cond.code y_LS_type b_LS_type 4 (Option.some Jvm.ClassFile.FieldType.int) :: wd)) B.pre w (List.mem_cons_of_mem _ hw)
  have hown : s.vm.findClass "LeastSolutions" = some m.cls := findClass_of_methodNamed B.named
  have hS : va_S (fun _ => False) s.heap s.heap [] := va_S.rf
  have hl := lv_entry ([.ref h0, .long x, .int 8]) (n := 4) (Nat.le_of_ble_eq_true rfl)
  rw [lg_entry_eq]
  generalize (lg_sl ([.ref h0, .long x, .int 8]) ++ List.replicate (4 - (lg_sl ([.ref h0, .long x, .int 8])).length) Slot.unset).toArray = ls at hl ⊢
  have hl : lv_has ls 4 [(0, .ref h0), (1, .long x), (3, .int 8)] := hl
  refine lv_aload_n hx hb d_LS_type_0 rfl (lv_at hl 0 rfl) ?_
  refine va_get (D := (dC, dI)) (ci := 0) (v := .ref aT) (C := R_LS) (T := T_LS) (N := 16) hx hb hts in_LS hown hK hP 0 rfl rfl 0 (by decide) (hts _ k_289) (fun _ h9 => h9) rfl d_LS_type_1 ?_
  refine lv_lload_n hx hb d_LS_type_4 rfl (lv_at hl 1 rfl) ?_
  refine lv_iload_n hx hb d_LS_type_5 rfl (lv_at hl 2 rfl) ?_
  refine pu_calli (va_runV (As := [.long x, .int 8]) (rest := []) ⟨hx, hb, hml, hown, hts⟩ (c_TX_put_8n l dC dI (aT) (t0) (x) (g)) (wd_V (C := "LeastSolutions$Text") 2 hts k_345 k_2 k_342 k_343 k_344 rfl rfl (by decide +kernel) ⟨Nat.le_of_ble_eq_true rfl, Nat.le_of_ble_eq_true rfl⟩) ⟨fun a U g mk q => by obtain ⟨q0, qP, qK, qN⟩ := q; exact ⟨q0, qP, va_K.moved (u := U) (U := U.calling g mk a) (Vm.Alike.refl U.vm) qK, nw_ok.same (s := U) (U := U.calling g mk a) rfl qN⟩, va_recv (ci := 1) (q0 := 1) hK hP rfl rfl, fun U hU hW => ⟨rfl, by rw [hU]; exact hP.sub (ws' := [(aT, .inr (1, [.ref t0, .int 0]))]) [1] rfl, va_K.moved hW.alike (hK.sub (tys' := []) [] rfl), nw_ok.warm hW hN⟩⟩ rfl rfl hl.1 rfl (lv_room (Nat.le_of_ble_eq_true rfl)) d_LS_type_6 ⟨Nat.le_of_ble_eq_true rfl, Nat.le_of_ble_eq_true rfl⟩) (fun r1 hr1 => ?_)
  try dsimp only at hr1
  subst hr1
  refine lv_if_eq (tgt := 22) hx hb d_LS_type_9 (by decide) (fun _ => ?_) (fun h9 => absurd (by decide) h9)
  refine lv_iconst (v := (-1)) hx hb d_LS_type_22 (by decide) ?_
  exact W.iret (v := (-1)) hx hb hr (fun t ht hW => ⟨⟨(-1), (), rfl, rfl, trivial⟩, hS.F ht⟩) hS.2.2 d_LS_type_23

set_option maxHeartbeats 4000000 in
set_option maxRecDepth 100000 in
theorem c_LS_type_8y (l : Launch) (dC : Nat → ClassId) (dI : Nat → Nat → Nat) (h0 : Nat) (aT : Nat) (aW : Nat) (aB : Nat) (aL : Nat) (aS : Nat) (aV : Nat) (aC : Nat) (a7 : Nat) (a8 : Nat) (a9 : Nat) (a10 : Nat) (aE : Nat) (t0 : Nat) (cT : ClassId) (x : Int64) (sz : Nat) (g : ok x 0 ∧ ok x 8 ∧ ok x 16 ∧ ok x 24 ∧ ok x 32 ∧ ok x 40 ∧ ok x 48 ∧ ok x 56) : Met l y_LS_type (Cond.code y_LS_type b_LS_type 4 (Option.some Jvm.ClassFile.FieldType.int) :: wd) { frames := 3, cells := 0, slots := 0, locals := 70 } (va_Pc [.ref h0, .long x, .int 8] (fun U => U.heap.size = sz ∧ va_P (dC, dI) cls [(h0, .inr (0, [.ref aT, .ref aW, .ref aB, .ref aL, .ref aS, .ref aV, .ref aC, .ref a7, .ref a8, .ref a9, .ref a10, .ref aE, .int 0, .int 0, .int 0, .int (-1)])), (aT, .inr (1, [.ref t0, .int 0])), (t0, .inl (cT, 300, .inl (fun _ => (0 : Int32))))] U.heap ∧ va_K (dC, dI) cls [(cT, .byte)] U ∧ va_D (fun _ => True) [(h0, .inr (0, [.ref aT, .ref aW, .ref aB, .ref aL, .ref aS, .ref aV, .ref aC, .ref a7, .ref a8, .ref a9, .ref a10, .ref aE, .int 0, .int 0, .int 0, .int (-1)])), (aT, .inr (1, [.ref t0, .int 0])), (t0, .inl (cT, 300, .inl (fun _ => (0 : Int32))))] ∧ nw_ok U)) (va_Qi (fun r (_ : Unit) => r = 8) (fun (_ : Unit) t => va_P (dC, dI) cls [(h0, .inr (0, [.ref aT, .ref aW, .ref aB, .ref aL, .ref aS, .ref aV, .ref aC, .ref a7, .ref a8, .ref a9, .ref a10, .ref aE, .int 0, .int 0, .int 0, .int (-1)]))] t.heap ∧ va_K (dC, dI) cls [(cT, .byte)] t ∧ va_D (va_A [(h0, .inr (0, [.ref aT, .ref aW, .ref aB, .ref aL, .ref aS, .ref aV, .ref aC, .ref a7, .ref a8, .ref a9, .ref a10, .ref aE, .int 0, .int 0, .int 0, .int (-1)])), (aT, .inr (1, [.ref t0, .int 0])), (t0, .inl (cT, 300, .inl (fun _ => (0 : Int32))))] sz) [(h0, .inr (0, [.ref aT, .ref aW, .ref aB, .ref aL, .ref aS, .ref aV, .ref aC, .ref a7, .ref a8, .ref a9, .ref a10, .ref aE, .int 0, .int 0, .int 0, .int (-1)]))]) (va_A [(h0, .inr (0, [.ref aT, .ref aW, .ref aB, .ref aL, .ref aS, .ref aV, .ref aC, .ref a7, .ref a8, .ref a9, .ref a10, .ref aE, .int 0, .int 0, .int 0, .int (-1)])), (aT, .inr (1, [.ref t0, .int 0])), (t0, .inl (cT, 300, .inl (fun _ => (0 : Int32))))] sz)) 0 0 (va_A [(h0, .inr (0, [.ref aT, .ref aW, .ref aB, .ref aL, .ref aS, .ref aV, .ref aC, .ref a7, .ref a8, .ref a9, .ref a10, .ref aE, .int 0, .int 0, .int 0, .int (-1)])), (aT, .inr (1, [.ref t0, .int 0])), (t0, .inl (cT, 300, .inl (fun _ => (0 : Int32))))] sz) := by
  refine Met.ofW (cc := b_LS_type) (maxL := 4) (ret := (Option.some Jvm.ClassFile.FieldType.int)) (by decide) rfl ?_
  intro p e s m args below meth c s₁ B hml hv
  obtain ⟨rfl, hsz, hP, hK, hD0, hN⟩ := hv
  have hx := B.exec
  have hb := B.bytes
  have hr := B.returns
  have hlocks := B.notSynchronized
  have hts : ∀ w ∈ wd, w.before ([.ref h0, .long x, .int 8] : List Value).toArray s = true := fun w hw => atoms_spec (ws := (Cond.code y_LS_type b_LS_type 4 (Option.some Jvm.ClassFile.FieldType.int) :: wd)) B.pre w (List.mem_cons_of_mem _ hw)
  have hown : s.vm.findClass "LeastSolutions" = some m.cls := findClass_of_methodNamed B.named
  subst hsz
  have hD := hD0.self (sz := s.heap.size)
  generalize hAe : va_A [(h0, .inr (0, [.ref aT, .ref aW, .ref aB, .ref aL, .ref aS, .ref aV, .ref aC, .ref a7, .ref a8, .ref a9, .ref a10, .ref aE, .int 0, .int 0, .int 0, .int (-1)])), (aT, .inr (1, [.ref t0, .int 0])), (t0, .inl (cT, 300, .inl (fun _ => (0 : Int32))))] s.heap.size = A at hD ⊢
  have hA : ∀ q : Nat, s.heap.size ≤ q → A q := fun q h => by rw [← hAe]; exact Or.inr h
  have hS : va_S A s.heap s.heap [] := va_S.rf
  have hl := lv_entry ([.ref h0, .long x, .int 8]) (n := 4) (Nat.le_of_ble_eq_true rfl)
  rw [lg_entry_eq]
  generalize (lg_sl ([.ref h0, .long x, .int 8]) ++ List.replicate (4 - (lg_sl ([.ref h0, .long x, .int 8])).length) Slot.unset).toArray = ls at hl ⊢
  have hl : lv_has ls 4 [(0, .ref h0), (1, .long x), (3, .int 8)] := hl
  refine lv_aload_n hx hb d_LS_type_0 rfl (lv_at hl 0 rfl) ?_
  refine va_get (D := (dC, dI)) (ci := 0) (v := .ref aT) (C := R_LS) (T := T_LS) (N := 16) hx hb hts in_LS hown hK hP 0 rfl rfl 0 (by decide) (hts _ k_289) (fun _ h9 => h9) rfl d_LS_type_1 ?_
  refine lv_lload_n hx hb d_LS_type_4 rfl (lv_at hl 1 rfl) ?_
  refine lv_iload_n hx hb d_LS_type_5 rfl (lv_at hl 2 rfl) ?_
  have hPc := hP.sub (ws' := [(aT, .inr (1, [.ref t0, .int 0])), (t0, .inl (cT, 300, .inl (fun _ => (0 : Int32))))]) [1, 2] rfl
  have hDc := hD.sub (ws' := [(aT, .inr (1, [.ref t0, .int 0])), (t0, .inl (cT, 300, .inl (fun _ => (0 : Int32))))]) [1, 2] (by decide) rfl
  have hKc := hK.sub (tys' := [(cT, .byte)]) [0] rfl
  have hFc := va_free (wc := [(aT, .inr (1, [.ref t0, .int 0])), (t0, .inl (cT, 300, .inl (fun _ => (0 : Int32))))]) hD hS hA [1, 2] rfl
  refine va_calli (va_runV (As := [.long x, .int 8]) (rest := []) ⟨hx, hb, hml, hown, hts⟩ (c_TX_put_8y l dC dI (aT) (t0) (cT) (x) s.heap.size (g)) (wd_V (C := "LeastSolutions$Text") 2 hts k_345 k_2 k_342 k_343 k_344 rfl rfl (by decide +kernel) ⟨Nat.le_of_ble_eq_true rfl, Nat.le_of_ble_eq_true rfl⟩) ⟨fun a U g mk q => by obtain ⟨q0, q1, qP, qK, qD, qN⟩ := q; exact ⟨q0, q1, qP, va_K.moved (u := U) (U := U.calling g mk a) (Vm.Alike.refl U.vm) qK, qD, nw_ok.same (s := U) (U := U.calling g mk a) rfl qN⟩, va_recv (ci := 1) (q0 := 1) hK hP rfl rfl, fun U hU hW => ⟨rfl, by rw [hU], by rw [hU]; exact hPc, va_K.moved hW.alike hKc, hDc.weaken (fun _ _ _ _ => trivial), nw_ok.warm hW hN⟩⟩ rfl rfl hl.1 rfl (lv_room (Nat.le_of_ble_eq_true rfl)) d_LS_type_6 ⟨Nat.le_of_ble_eq_true rfl, Nat.le_of_ble_eq_true rfl⟩) hS (fun q _ h => hFc q h) hFc (fun r1 u t H1 locs ht hvm hr1 hB hz1 hk1 hS => ?_)
  try dsimp only at hr1
  subst hr1
  obtain ⟨hP1, hK1, hD1⟩ := hB
  rw [ht] at hP1
  have hK1 := va_K.moved hvm.symm hK1
  obtain ⟨hP, hD⟩ := va_join (wr := [(h0, .inr (0, [.ref aT, .ref aW, .ref aB, .ref aL, .ref aS, .ref aV, .ref aC, .ref a7, .ref a8, .ref a9, .ref a10, .ref aE, .int 0, .int 0, .int 0, .int (-1)]))]) (w1 := [(aT, .inr (1, [.ref t0, .int 8]))]) hP hD [1, 2] [0] rfl rfl (by decide) (by decide) hk1 hFc hP1 hD1
  have hK := (hK.sub (tys' := []) [] rfl).app hK1
  have hK : va_K (dC, dI) cls [(cT, .byte)] s := hK
  have hP : va_P (dC, dI) cls [(h0, .inr (0, [.ref aT, .ref aW, .ref aB, .ref aL, .ref aS, .ref aV, .ref aC, .ref a7, .ref a8, .ref a9, .ref a10, .ref aE, .int 0, .int 0, .int 0, .int (-1)])), (aT, .inr (1, [.ref t0, .int 8]))] H1 := hP
  have hD : va_D A [(h0, .inr (0, [.ref aT, .ref aW, .ref aB, .ref aL, .ref aS, .ref aV, .ref aC, .ref a7, .ref a8, .ref a9, .ref a10, .ref aE, .int 0, .int 0, .int 0, .int (-1)])), (aT, .inr (1, [.ref t0, .int 8]))] := hD
  refine lv_if_eq (tgt := 22) hx hb d_LS_type_9 (by decide) (fun h9 => absurd h9 (by decide)) (fun _ => ?_)
  refine lv_aload_n hx hb d_LS_type_12 rfl (lv_at hl 0 rfl) ?_
  refine va_get (D := (dC, dI)) (ci := 0) (v := .ref aT) (C := R_LS) (T := T_LS) (N := 16) hx hb hts in_LS hown hK hP 0 rfl rfl 0 (by decide) (hts _ k_289) (fun _ h9 => h9) rfl d_LS_type_13 ?_
  refine va_getN (D := (dC, dI)) (ci := 1) (v := .int 8) (C := R_TX) (T := T_TX) (N := 2) hx hb hts in_TX hown hK hP 1 rfl rfl 1 (by decide) (va_Nw.use rfl (hN.1 (Jvm.Cond.fieldLinkNest "LeastSolutions" (96 : Nat) "LeastSolutions$Text" "length" "I" "LeastSolutions") nw_1)) (fun _ h9 => h9) rfl d_LS_type_16 ?_
  refine lv_goto (tgt := 23) hx hb d_LS_type_19 (by decide) ?_
  have hP9 := hP.sub (ws' := [(h0, .inr (0, [.ref aT, .ref aW, .ref aB, .ref aL, .ref aS, .ref aV, .ref aC, .ref a7, .ref a8, .ref a9, .ref a10, .ref aE, .int 0, .int 0, .int 0, .int (-1)]))]) [0] rfl
  have hD9 := hD.sub (ws' := [(h0, .inr (0, [.ref aT, .ref aW, .ref aB, .ref aL, .ref aS, .ref aV, .ref aC, .ref a7, .ref a8, .ref a9, .ref a10, .ref aE, .int 0, .int 0, .int 0, .int (-1)]))]) [0] (by decide) rfl
  have hK9 := hK.sub (tys' := [(cT, .byte)]) [0] rfl
  exact W.iret (v := 8) hx hb hr (fun t ht hW => ⟨⟨8, (), rfl, rfl, by rw [ht]; exact hP9, va_K.moved hW.alike hK9, hD9⟩, hS.F ht⟩) hS.2.2 d_LS_type_23
