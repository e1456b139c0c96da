/-! arrays of arrays in one instruction (multianewarray of two dimensions) -/
def mk_in (cB : ClassId) (M : Nat) (dv : Value) : Cell := { cls := cB, slots := Array.replicate M dv, vm := .none }
def mk_out (cA : ClassId) (N q : Nat) : Nat → Cell
  | 0 => { cls := cA, slots := Array.replicate N .null, vm := .none }
  | i + 1 => (mk_out cA N q i).setSlot i (.ref (q + 1 + i))
/-- the state when the outer array and i of its rows are there -/
def mk_st (s : State) (cA cB : ClassId) (N M : Nat) (dv : Value) : Nat → State
  | 0 => s.pushCell (mk_out cA N s.heap.size 0)
  | i + 1 => ((mk_st s cA cB N M dv i).pushCell (mk_in cB M dv)).setCell s.heap.size (mk_out cA N s.heap.size (i + 1))
theorem mk_out_is (cA : ClassId) (N q i : Nat) : (mk_out cA N q i).cls = cA ∧ (mk_out cA N q i).vm = .none ∧ (mk_out cA N q i).slots.size = N := by
  induction i with
  | zero => exact ⟨rfl, rfl, by simp [mk_out]⟩
  | succ i ih =>
    obtain ⟨a, b, d⟩ := ih
    exact ⟨by simp [mk_out, Cell.setSlot, a], by simp [mk_out, Cell.setSlot, b], by simp [mk_out, Cell.setSlot, d]⟩
theorem mk_st_is (s : State) (cA cB : ClassId) (N M : Nat) (dv : Value) (i : Nat) : (mk_st s cA cB N M dv i).heap.size = s.heap.size + 1 + i ∧ (mk_st s cA cB N M dv i).heap[s.heap.size]? = some (mk_out cA N s.heap.size i) ∧
    (mk_st s cA cB N M dv i).vm = s.vm ∧ (mk_st s cA cB N M dv i).slotsUsed = s.slotsUsed + N + i * M := by
  induction i with
  | zero => exact ⟨by simp [mk_st], by simp [mk_st], rfl, by simp [mk_st, mk_out]⟩
  | succ i ih =>
    obtain ⟨a, b, d, u⟩ := ih
    have hlt : s.heap.size < (mk_st s cA cB N M dv i).heap.size := by omega
    have hb' : ((mk_st s cA cB N M dv i).pushCell (mk_in cB M dv)).heap[s.heap.size]? = some (mk_out cA N s.heap.size i) := by rw [State.heap_pushCell_of_lt (h := hlt)]; exact b
    refine ⟨?_, State.heap_setCell_self hb', by simp [mk_st, d], ?_⟩
    · simp [mk_st, State.setCell, a]; omega
    · simp [mk_st, u, mk_in, Nat.succ_mul]; omega
theorem mk_st_top (s : State) (f : JFrame) (cA cB : ClassId) (N M : Nat) (dv : Value) (i : Nat) : mk_st (s.setTop f) cA cB N M dv i = (mk_st s cA cB N M dv i).setTop f := by
  induction i with
  | zero => rfl
  | succ i ih => simp only [mk_st, ih, State.heap_setTop, State.pushCell_setTop, State.setCell_setTop]
theorem mk_st_old (s : State) (cA cB : ClassId) (N M : Nat) (dv : Value) {a : Addr} (ha : a < s.heap.size) (i : Nat) : (mk_st s cA cB N M dv i).heap[a]? = s.heap[a]? := by
  induction i with
  | zero => exact State.heap_pushCell_of_lt _ _ ha
  | succ i ih =>
    have f1 := (mk_st_is s cA cB N M dv i).1
    have hlt : a < (mk_st s cA cB N M dv i).heap.size := Nat.lt_of_lt_of_le ha (by rw [f1]; omega)
    show (((mk_st s cA cB N M dv i).pushCell (mk_in cB M dv)).setCell s.heap.size _).heap[a]? = _
    rw [State.heap_setCell_other (Nat.ne_of_gt ha), State.heap_pushCell_of_lt (h := hlt)]
    exact ih
section MK
variable {E : CtlPost} {e : Env} {d : Bool} {acts : List Action} {s : State}
theorem mk_newArray {cA comp : ClassId} {k : Class} {type : FieldType} {len : Nat} {init : Value} (hk : s.vm.classes[cA]? = some k) (hkind : k.kind = .array comp type)
    (hlimit : ¬ len > e.platform.arrayLengthLimit) (hheap : ¬ len * componentBytes type > e.platform.maxHeapBytes) (hfit : fits type init = true) (hdef : init.isDefault = true) {Q : Addr → Pre}
    (h1 : s.heap.size < e.platform.maxCells) (h2 : s.slotsUsed + len ≤ e.platform.maxSlots)
    (hq : Q s.heap.size d acts (s.pushCell { cls := cA, slots := Array.replicate len init, vm := .none })) :
    wp (Jvm.newArray cA len init) Q E e d acts s := by
  have hfits : ∀ i v, (Array.replicate len init)[i]? = some v → s.fitsSlot cA .none i v = true := by
    intro i v hv
    simp only [Array.getElem?_replicate] at hv
    split at hv
    · cases hv
      simp [State.fitsSlot, State.slotType?, hk, hkind, hfit]
    · cases hv
  have hda : allocActs (Array.replicate len init) s.heap.size acts = acts := by
    have hall : ((Array.replicate len init).all (·.isDefault)) = true := by
      rw [Array.all_replicate]
      split <;> simp [hdef]
    unfold allocActs
    rw [if_pos hall]
  simp only [Jvm.newArray, Jvm.arrayFits, wp_bind', W.ask, W.ite, hlimit, if_false, wp_pure', W.theClass, hk, hkind, hheap, W.alloc, W.stop, Option.some.injEq, exists_eq_left', Array.size_replicate, hda]
  rw [if_neg (by omega)]
  exact ⟨h1, h2, hfits, hq⟩
end MK
section MK2
variable {E : CtlPost} {e : Env} {d : Bool} {acts : List Action} {s : State}
theorem mk_refFits {t : FieldType} (h : t.isReference = true) (v : Value) (hv : v = .null ∨ ∃ a, v = .ref a) : fits t v = true := by
  rcases hv with rfl | ⟨a, rfl⟩ <;> cases t <;> simp [FieldType.isReference] at h <;> rfl
theorem mk_row {cB comp : ClassId} {kB : Class} {type : FieldType} {k : Int32} (hkB : s.vm.classes[cB]? = some kB) (hkind : kB.kind = .array comp type) (hk : ¬ k < 0)
    (hl : ¬ k.toNatClampNeg > e.platform.arrayLengthLimit) (hh : ¬ k.toNatClampNeg * componentBytes type > e.platform.maxHeapBytes) (hdf : fits type (defaultValue type) = true) (hdd : (defaultValue type).isDefault = true)
    (h1 : s.heap.size < e.platform.maxCells) (h2 : s.slotsUsed + k.toNatClampNeg ≤ e.platform.maxSlots) {Q : Addr → Pre} (hq : Q s.heap.size d acts (s.pushCell (mk_in cB k.toNatClampNeg (defaultValue type)))) :
    wp (Op.multianewarray.make cB [k]) Q E e d acts s := by
  rw [Op.multianewarray.make]
  simp only [wp_bind', W.ite, hk, if_false, wp_pure', W.theClass, hkB, hkind, Option.some.injEq, exists_eq_left']
  exact mk_newArray hkB hkind hl hh hdf hdd h1 h2 hq
theorem mk_rows {cA cB comp : ClassId} {kA kB : Class} {t0 type : FieldType} {n k : Int32} (hkA : s.vm.classes[cA]? = some kA) (hkindA : kA.kind = .array cB t0) (href : t0.isReference = true)
    (hkB : s.vm.classes[cB]? = some kB) (hkindB : kB.kind = .array comp type) (hn : ¬ n < 0) (hk : ¬ k < 0)
    (hl1 : ¬ n.toNatClampNeg > e.platform.arrayLengthLimit) (hh1 : ¬ n.toNatClampNeg * componentBytes t0 > e.platform.maxHeapBytes)
    (hl2 : ¬ k.toNatClampNeg > e.platform.arrayLengthLimit) (hh2 : ¬ k.toNatClampNeg * componentBytes type > e.platform.maxHeapBytes) (hdf : fits type (defaultValue type) = true) (hdd : (defaultValue type).isDefault = true)
    (hc : s.heap.size + 1 + n.toNatClampNeg ≤ e.platform.maxCells) (hs : s.slotsUsed + n.toNatClampNeg + n.toNatClampNeg * k.toNatClampNeg ≤ e.platform.maxSlots)
    {Q : Addr → Pre} (hq : ∀ d' acts', Q s.heap.size d' acts' (mk_st s cA cB n.toNatClampNeg k.toNatClampNeg (defaultValue type) n.toNatClampNeg)) :
    wp (Op.multianewarray.make cA [n, k]) Q E e d acts s := by
  have hfind : ([k].find? (· < 0)) = none := by simp [hk]
  generalize hN : n.toNatClampNeg = N at *
  generalize hM : k.toNatClampNeg = M at *
  rw [Op.multianewarray.make]
  simp only [wp_bind', W.ite, hn, if_false, wp_pure', W.theClass, hkA, hkindA, Option.some.injEq, exists_eq_left', hN]
  refine mk_newArray hkA hkindA hl1 hh1 (mk_refFits href _ (Or.inl rfl)) rfl (by omega) (by have := Nat.zero_le (N * M); omega) ?_
  simp only [hfind]
  rw [ite_self, wp_bind', Std.Legacy.Range.forIn_eq_forIn_range']
  have hsz : ([:N] : Std.Legacy.Range).size = N := by simp [Std.Legacy.Range.size]
  rw [hsz]
  show wp (forIn (List.range' 0 N 1) PUnit.unit _) _ E e d acts _
  refine wp_forIn_inv (fun rest s' => ∃ i, i ≤ N ∧ rest = List.range' i (N - i) ∧ s' = mk_st s cA cB N M (defaultValue type) i) _ _ ⟨0, Nat.zero_le _, rfl, rfl⟩ ?_ ?_
  · rintro x rest s' d' acts' Q' ⟨i, hi, hl, rfl⟩ hnext
    have hlt : i < N := by
      rcases Nat.lt_or_ge i N with h | h
      · exact h
      · rw [show N - i = 0 from by omega] at hl
        simp at hl
    obtain ⟨rfl, hrest⟩ : x = i ∧ rest = List.range' (i + 1) (N - (i + 1)) := by
      rw [show N - i = (N - (i + 1)) + 1 from by omega, List.range'_succ] at hl
      exact ⟨(List.cons.inj hl).1, (List.cons.inj hl).2⟩
    obtain ⟨f1, f2, f3, f4⟩ := mk_st_is s cA cB N M (defaultValue type) x
    obtain ⟨o1, o2, o3⟩ := mk_out_is cA N s.heap.size x
    have hmul : x * M + M ≤ N * M := by
      have := Nat.mul_le_mul_right M (show x + 1 ≤ N from hlt)
      rw [Nat.succ_mul] at this
      exact this
    simp only [wp_bind']
    refine mk_row (by rw [f3]; exact hkB) hkindB hk (by rw [hM]; exact hl2) (by rw [hM]; exact hh2) hdf hdd (by rw [f1]; omega) (by rw [f4, hM]; omega) ?_
    have hlt0 : s.heap.size < (mk_st s cA cB N M (defaultValue type) x).heap.size := by rw [f1]; omega
    simp only [wp_bind', W.writeLoc, wp_pure', hM]
    refine ⟨mk_out cA N s.heap.size x, by rw [State.heap_pushCell_of_lt (h := hlt0)]; exact f2, by rw [o2]; simp, by rw [o3]; exact hlt, ?_, hnext _ _ _ ⟨x + 1, hlt, hrest, ?_⟩⟩
    · rw [o1, o2]
      simp [State.fitsSlot, State.slotType?, f3, hkA, hkindA, mk_refFits href _ (Or.inr ⟨_, rfl⟩)]
    · rw [f1]
      rfl
  · rintro s' d' acts' ⟨i, hi, hl, rfl⟩
    have hiN : i = N := by
      rcases Nat.lt_or_ge i N with h | h
      · rw [show N - i = (N - (i + 1)) + 1 from by omega, List.range'_succ] at hl
        cases hl
      · omega
    subst hiN
    simp only [wp_pure']
    exact hq _ _
end MK2
section MK3
variable {p : Program} {l : Launch} {e : Env} {R : Room} {s : State} {m : MethodId} {args : Array Value} {below : List Frame} {meth : Method} {c : Code} {H : Heap} {locs : List Loc} {cells slots : Nat} {Q : State → Prop}
theorem mk_stand {T : State} (X : Stand p l e R s m args below meth c T locs cells slots) (cA cB : ClassId) (N M : Nat) (dv : Value) (i : Nat) :
    Stand p l e R s m args below meth c (mk_st T cA cB N M dv i) (locs ++ (List.range i).map fun j => ⟨T.heap.size, j⟩) (cells + 1 + i) (slots + N + i * M) := by
  induction i with
  | zero =>
    have h := X.pushed (mk_out cA N T.heap.size 0)
    rw [(mk_out_is cA N T.heap.size 0).2.2] at h
    simpa [mk_st] using h
  | succ i ih =>
    obtain ⟨f1, f2, f3, f4⟩ := mk_st_is T cA cB N M dv i
    have hlt0 : T.heap.size < (mk_st T cA cB N M dv i).heap.size := by rw [f1]; omega
    have hcell : ((mk_st T cA cB N M dv i).pushCell (mk_in cB M dv)).heap[T.heap.size]? = some (mk_out cA N T.heap.size i) := by rw [State.heap_pushCell_of_lt (h := hlt0)]; exact f2
    have h := (ih.pushed (mk_in cB M dv)).stored hcell i (.ref (T.heap.size + 1 + i))
    have e1 : (mk_in cB M dv).slots.size = M := by simp [mk_in]
    rw [e1] at h
    have e2 : (locs ++ (List.range (i + 1)).map fun j => (⟨T.heap.size, j⟩ : Loc)) = (locs ++ (List.range i).map fun j => (⟨T.heap.size, j⟩ : Loc)) ++ [⟨T.heap.size, i⟩] := by simp [List.range_succ, List.append_assoc]
    have e3 : slots + N + (i + 1) * M = slots + N + i * M + M := by rw [Nat.succ_mul]; omega
    rw [e2, e3]
    exact h
theorem mk_over {t : FieldType} (h : (Cond.arrayOver (.array t)).before args s = true) :
    ∃ cB cA k, s.vm.findClass (FieldType.array t).toString = some cB ∧ s.vm.classes[cA]? = some k ∧ k.kind = .array cB (.array t) ∧ s.vm.findClass ("[" ++ (FieldType.array t).toString) = some cA := by
  simp only [Cond.before, Cond.holds, Cond.value, beq_iff_eq] at h
  cases hc : s.vm.findClass (FieldType.array t).toString with
  | none => simp [hc] at h
  | some cB =>
    simp only [hc, Option.bind_some, Option.bind_eq_some_iff, Option.map_eq_some_iff] at h
    obtain ⟨cA, hi, k, hk, hb⟩ := h
    obtain ⟨hlt, hp, -⟩ := Array.findIdx?_eq_some_iff_getElem.mp hi
    have hkk : s.vm.classes[cA] = k := (Array.getElem?_eq_some_iff.mp hk).2
    rw [hkk] at hp
    cases hkind : k.kind with
    | array component ty =>
      rw [hkind] at hb hp
      simp at hb hp
      exact ⟨cB, cA, k, rfl, hk, by rw [hkind, hp, hb.1], hb.2⟩
    | _ => rw [hkind] at hb; simp at hb
/-- the array classes of two dimensions, as the tables have them -/
def mk_AO (t : FieldType) (U : State) : Prop := ∃ cB cA k, U.vm.findClass (FieldType.array t).toString = some cB ∧ U.vm.classes[cA]? = some k ∧ k.kind = .array cB (.array t) ∧ U.vm.findClass ("[" ++ (FieldType.array t).toString) = some cA
theorem mk_AO.moved {t : FieldType} {u U : State} (hvm : u.vm.Alike U.vm) (h : mk_AO t u) : mk_AO t U := by
  obtain ⟨cB, cA, k, h1, h2, h3, h4⟩ := h
  obtain ⟨k', hk', he⟩ := hvm.2.2 _ _ h2
  exact ⟨cB, cA, k', by rw [hvm.findClass]; exact h1, hk', by rw [he]; exact h3, by rw [hvm.findClass]; exact h4⟩
/-- new T[n][k]: what it holds is not told here, only that all that was there stays -/
theorem mk_new0 {cc : ByteArray} {pc : Nat} {ls : Array Slot} {rest : List Value} {D : va_G} {cl : List vw_C} {A : Nat → Prop} {ws : va_W} {H0 : Heap} (hexec : p.tables.exec = Jvm.exec) (hb : c.code = cc) {own cn : String} {index : Nat} {ty : FieldType}
    (hown : s.vm.findClass own = some m.cls) (hcn : "[" ++ (FieldType.array ty).toString = cn) (hclink : (Cond.classLink own index cn).before args s = true)
    (hover : mk_AO ty s) (harr : (Cond.arrayClass ty).before args s = true) (hP : va_P D cl ws H) (hS : va_S A H0 H locs) (hA : ∀ q, H0.size ≤ q → A q)
    {n k : Int32} {N M : Nat} (hn : ¬ n < 0) (hk : ¬ k < 0) (hN : n.toNatClampNeg = N) (hM : k.toNatClampNeg = M) (hb1 : N * 4 ≤ 536870912) (hb2 : M * componentBytes ty ≤ 536870912) (hb3 : M ≤ 536870912)
    (hdf : fits ty (defaultValue ty) = true) (hdd : (defaultValue ty).isDefault = true) (hcells : cells + (1 + N) ≤ R.cells) (hslots : slots + (N + N * M) ≤ R.slots) (hdg : decode cc pc = .ok (.multianewarray index 2, 4))
    (kk : ∀ (q : Nat) (H1 : Heap) (locs1 : List Loc), va_P D cl ws H1 → va_S A H0 H1 locs1 → W p l e R s m args below meth c H1 locs1 (cells + 1 + N) (slots + N + N * M) Q (F0 m (pc + 4) ls (.ref q :: rest))) :
    W p l e R s m args below meth c H locs cells slots Q (F0 m pc ls (.int k :: .int n :: rest)) := by
  subst hb
  subst hcn
  intro T hT X
  have hpl : e.platform.magicAccessors = ({} : Platform).magicAccessors := by rw [X.admits.platform]
  obtain ⟨cB, cA, kA, hcomp, hkA, hkindA, hnameA⟩ := hover
  obtain ⟨cB', kC, comp, hcomp', hkC, hkindC⟩ := Cond.arrayClass_spec harr
  have ecomp : cB' = cB := Option.some.inj (hcomp'.symm.trans hcomp)
  subst ecomp
  obtain ⟨c0, hfc0, hcl⟩ := Cond.classLink_spec hown hclink e.platform hpl
  cases hnameA.symm.trans hfc0
  obtain ⟨hg₁, hwarm₁, hready₁⟩ := State.classEntry (e := e) X.warmed hcl
  generalize T.vm.noted m.cls index (.cls cA) = vm₁ at hg₁ hwarm₁ hready₁
  have hal : s.vm.Alike vm₁ := hwarm₁.alike
  obtain ⟨kA₁, hkA₁, heA⟩ := hal.2.2 _ _ hkA
  obtain ⟨kC₁, hkC₁, heC⟩ := hal.2.2 _ _ hkC
  have hkindA₁ : kA₁.kind = .array cB' (.array ty) := by rw [heA]; exact hkindA
  have hkindC₁ : kC₁.kind = .array comp ty := by rw [heC]; exact hkindC
  have X₁ := X.noted hwarm₁
  have hr1 := X.cellsAbove hcells
  have hr2 := X.slotsAbove hslots
  subst hN
  subst hM
  have XF := mk_stand X₁ cA cB' n.toNatClampNeg k.toNatClampNeg (defaultValue ty) n.toNatClampNeg
  obtain ⟨f1, f2, f3, f4⟩ := mk_st_is (T.setVm vm₁) cA cB' n.toNatClampNeg k.toNatClampNeg (defaultValue ty) n.toNatClampNeg
  have hold : ∀ x : Nat, x < H.size → (mk_st (T.setVm vm₁) cA cB' n.toNatClampNeg k.toNatClampNeg (defaultValue ty) n.toNatClampNeg).heap[x]? = H[x]? := fun x hx => by
    rw [mk_st_old (T.setVm vm₁) cA cB' _ _ _ (by show x < T.heap.size; rw [hT]; exact hx)]
    show T.heap[x]? = _
    rw [hT]
  have hsz : H.size ≤ (mk_st (T.setVm vm₁) cA cB' n.toNatClampNeg k.toNatClampNeg (defaultValue ty) n.toNatClampNeg).heap.size := by
    rw [f1]; show H.size ≤ T.heap.size + 1 + _; rw [hT]; omega
  obtain ⟨t, a1, b1⟩ := kk T.heap.size _ _ (hP.kept (fun k9 x hx => hold x.1 ((hP k9 x hx).lt))) ⟨Nat.le_trans hS.1 hsz, fun x h1 h2 => (hold x (Nat.lt_of_lt_of_le h1 hS.1)).trans (hS.2.1 x h1 h2), fun q hq => by
    rcases List.mem_append.mp hq with h | h
    · exact hS.2.2 q h
    · obtain ⟨j, -, rfl⟩ := List.mem_map.mp h
      exact hA _ (by show H0.size ≤ T.heap.size; rw [hT]; exact hS.1)⟩ _ rfl XF
  refine ⟨t, ?_, b1⟩
  have hl1 : ¬ n.toNatClampNeg > e.platform.arrayLengthLimit := by rw [Launch.admits_arrayLengthLimit X.admits]; omega
  have hh1 : ¬ n.toNatClampNeg * componentBytes (.array ty) > e.platform.maxHeapBytes := by
    rw [Launch.admits_maxHeapBytes X.admits]; show ¬ n.toNatClampNeg * 4 > 536870912; omega
  have hl2 : ¬ k.toNatClampNeg > e.platform.arrayLengthLimit := by rw [Launch.admits_arrayLengthLimit X.admits]; omega
  have hh2 : ¬ k.toNatClampNeg * componentBytes ty > e.platform.maxHeapBytes := by rw [Launch.admits_maxHeapBytes X.admits]; omega
  jvm_step X.here [hexec, hdg]
  simp only [Op.multianewarray.sem, wp_bind', Jvm.W.resolveClassAt_links (State.method?_setTop (F0 m pc ls (.int k :: .int n :: rest)) X.here.top) hg₁]
  rw [Jvm.W.popN, if_neg (by decide)]
  refine ⟨F0 m pc ls (.int k :: .int n :: rest), State.topJava?_setTop' (s := T.setVm vm₁) _ X.here.top, [.int n, .int k], rest, rfl, rfl, ?_⟩
  simp only [List.mapM_cons, List.mapM_nil, wp_bind', wp_pure']
  refine mk_rows (kA := kA₁) (kB := kC₁) (cB := cB') (comp := comp) (t0 := .array ty) (type := ty) hkA₁ hkindA₁ rfl hkC₁ hkindC₁ hn hk hl1 hh1 hl2 hh2 hdf hdd (by show T.heap.size + 1 + _ ≤ _; omega) (by show T.slotsUsed + _ + _ ≤ _; omega) (fun d' acts' => ?_)
  have eS : ((T.setTop (F0 m pc ls (.int k :: .int n :: rest))).setVm vm₁).setTop { F0 m pc ls (.int k :: .int n :: rest) with stack := rest } = (T.setVm vm₁).setTop { F0 m pc ls (.int k :: .int n :: rest) with stack := rest } := by
    show ((T.setVm vm₁).setTop _).setTop _ = _
    rw [State.setTop_setTop]
  rw [eS, mk_st_top]
  simp only [wp_bind', Jvm.W.mark, Jvm.W.pushRef, State.topJava?_setTop' _ XF.here.top, Option.some.injEq, exists_eq_left', State.setTop_setTop, State.heap_setTop]
  intro acts
  simp [jvm, XF.here.top]
  exact a1
end MK3
