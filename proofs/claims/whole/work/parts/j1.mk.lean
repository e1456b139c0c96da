/-! arrays of arrays, with what they hold -/
theorem mk_st_row (s : State) (cA cB : ClassId) (N M : Nat) (dv : Value) : ∀ (i j : Nat), j < i → (mk_st s cA cB N M dv i).heap[s.heap.size + 1 + j]? = some (mk_in cB M dv) := by
  intro i
  induction i with
  | zero => intro j h; omega
  | succ i ih =>
    intro j h
    have f1 := (mk_st_is s cA cB N M dv i).1
    show (((mk_st s cA cB N M dv i).pushCell (mk_in cB M dv)).setCell s.heap.size _).heap[s.heap.size + 1 + j]? = _
    rw [State.heap_setCell_other (show s.heap.size ≠ s.heap.size + 1 + j by omega)]
    by_cases e : j = i
    · subst e
      rw [← f1]
      exact State.heap_pushCell_size _ _
    · have hlt : s.heap.size + 1 + j < (mk_st s cA cB N M dv i).heap.size := by rw [f1]; omega
      rw [State.heap_pushCell_of_lt (h := hlt)]
      exact ih j (by omega)
theorem mk_outV (cA : ClassId) (N q : Nat) : mk_out cA N q N = arrV cA N (fun j => .ref (q + 1 + j)) := by
  have key : ∀ i, i ≤ N → mk_out cA N q i = arrV cA N (fun j => if j < i then .ref (q + 1 + j) else .null) := by
    intro i
    induction i with
    | zero =>
      intro _
      show ({ cls := cA, slots := Array.replicate N .null, vm := .none } : Cell) = _
      rw [arrV_new]
      exact congrArg (arrV cA N) (funext fun j => by simp)
    | succ i ih =>
      intro h
      show (mk_out cA N q i).setSlot i (.ref (q + 1 + i)) = _
      rw [ih (by omega), arrV_store]
      refine congrArg (arrV cA N) (funext fun j => ?_)
      by_cases e : j = i
      · subst e; simp [updV]
      · by_cases h2 : j < i
        · simp [updV, e, h2, Nat.lt_succ_of_lt h2]
        · simp [updV, e, h2, show ¬ j < i + 1 by omega]
  rw [key N (Nat.le_refl _)]
  unfold arrV
  congr 1
  refine congrArg Array.ofFn (funext fun j => ?_)
  simp
theorem mk_inV (cB : ClassId) (M : Nat) (dv : Value) : mk_in cB M dv = arrV cB M (fun _ => dv) := arrV_new cB M dv
theorem mk_isArr {s : State} {cA comp : ClassId} {k : Class} {ty : FieldType} (hk : s.vm.classes[cA]? = some k) (hkind : k.kind = .array comp ty) (n : Nat) (z : Nat → Value) : s.isArrayOf (arrV cA n z) ty := by
  exact ⟨fun q h => (by cases h), k, hk, comp, hkind⟩
/-- two lists of references that are alike as far as the array goes -/
theorem mk_cg {D : va_G} {cl : List vw_C} {ws : va_W} {H : Heap} {a n p : Nat} {cA : ClassId} {f g : Nat → Option Nat} (hP : va_P D cl ws H) (hp : ws[p]? = some (a, .inl (cA, n, .inr (.inr (.inr (.inr f)))))) (hfg : ∀ j, j < n → f j = g j) : va_P D cl (ws.set p (a, .inl (cA, n, .inr (.inr (.inr (.inr g)))))) H := by
  intro k q hk
  by_cases e : k = p
  · subst e
    rw [List.getElem?_set_self (List.getElem?_eq_some_iff.mp hp).1] at hk
    cases Option.some.inj hk
    have h1 : H[a]? = some (arrV cA n (fun j => va_rf (f j))) := hP k _ hp
    show H[a]? = some (arrV cA n (fun j => va_rf (g j)))
    rw [h1]
    congr 1
    unfold arrV
    congr 1
    exact congrArg Array.ofFn (funext fun j => congrArg va_rf (hfg j.val j.isLt))
  · rw [List.getElem?_set_ne (fun h => e h.symm)] at hk
    exact hP k q hk
def mk_rw (r : Nat → Nat) (N : Nat) (e : va_E) : va_W := (List.range N).map (fun i => (r i, e))
theorem mk_rw_get {r : Nat → Nat} {N k : Nat} {e : va_E} {q : Nat × va_E} (h : (mk_rw r N e)[k]? = some q) : k < N ∧ q = (r k, e) := by
  unfold mk_rw at h
  rw [List.getElem?_map] at h
  cases hk : (List.range N)[k]? with
  | none => rw [hk] at h; cases h
  | some i =>
    rw [hk] at h
    obtain ⟨h1, h2⟩ := List.getElem?_eq_some_iff.mp hk
    rw [List.getElem_range] at h2
    rw [List.length_range] at h1
    subst h2
    exact ⟨h1, (Option.some.inj h).symm⟩
theorem mk_layP {D : va_G} {cl : List vw_C} {ws : va_W} {H H1 : Heap} {q N : Nat} {eo e : va_E} (hP : va_P D cl ws H) (hk : ∀ x : Nat, x < H.size → H1[x]? = H[x]?) (ho : va_at D cl (q, eo) H1) (hr : ∀ i, i < N → va_at D cl (q + 1 + i, e) H1) : va_P D cl (ws ++ ((q, eo) :: mk_rw (fun i => q + 1 + i) N e)) H1 := by
  refine va_P.app (hP.kept (fun k x hx => hk x.1 ((hP k x hx).lt))) (fun k x hx => ?_)
  cases k with
  | zero => cases Option.some.inj hx; exact ho
  | succ k =>
    obtain ⟨h1, rfl⟩ := mk_rw_get (show (mk_rw (fun i => q + 1 + i) N e)[k]? = some x from hx)
    exact hr k h1
theorem mk_layD {D : va_G} {cl : List vw_C} {A : Nat → Prop} {ws : va_W} {H : Heap} {q N : Nat} {eo e : va_E} (hD : va_D A ws) (hP : va_P D cl ws H) (hq : q = H.size) (hA : ∀ x, H.size ≤ x → A x) : va_D A (ws ++ ((q, eo) :: mk_rw (fun i => q + 1 + i) N e)) := by
  have hnew : ∀ (k : Nat) (x : Nat × va_E), ((q, eo) :: mk_rw (fun i => q + 1 + i) N e)[k]? = some x → x.1 = q + k := fun k x hx => by
    cases k with
    | zero => cases Option.some.inj hx; rfl
    | succ k =>
      obtain ⟨h1, rfl⟩ := mk_rw_get (show (mk_rw (fun i => q + 1 + i) N e)[k]? = some x from hx)
      show q + 1 + k = q + (k + 1)
      omega
  refine va_D.app hD ⟨fun i j x y hx hy e9 => ?_, fun k x hx => ?_⟩ (fun i j x y hx hy e9 => ?_)
  · have h1 := hnew i x hx
    have h2 := hnew j y hy
    omega
  · have h1 := hnew k x hx
    exact hA x.1 (by omega)
  · have h1 := hnew j y hy
    have h2 := (hP i x hx).lt
    omega
theorem mk_Kadd {D : va_G} {cl : List vw_C} {tys : List (ClassId × FieldType)} {s : State} {cA cB : ClassId} {t1 t2 : FieldType} (hK : va_K D cl tys s) (h1 : ArrOfT s cA t1 ∧ va_RA s cA t1) (h2 : ArrOfT s cB t2 ∧ va_RA s cB t2) : va_K D cl (tys ++ [(cA, t1), (cB, t2)]) s := by
  refine ⟨hK.1, fun k q hk => ?_⟩
  rcases Nat.lt_or_ge k tys.length with h | h
  · rw [List.getElem?_append_left h] at hk; exact hK.2 k q hk
  · rw [List.getElem?_append_right h] at hk
    rcases (show k - tys.length = 0 ∨ k - tys.length = 1 ∨ 2 ≤ k - tys.length by omega) with e | e | e
    · rw [e] at hk; cases Option.some.inj hk; exact h1
    · rw [e] at hk; cases Option.some.inj hk; exact h2
    · rw [List.getElem?_eq_none (by simpa using e)] at hk; cases hk
section MK4
variable {p : Program} {l : Launch} {e : Env} {R : Room} {s : State} {m : MethodId} {args : Array Value} {below : List Frame} {meth : Method} {c : Code} {H : Heap} {locs : List Loc} {cells slots : Nat} {Q : State → Prop}
/-- new T[n][k]: what it holds -/
theorem mk_new1 {cc : ByteArray} {pc : Nat} {ls : Array Slot} {rest : List Value} {A : Nat → Prop} {H0 : Heap} (hexec : p.tables.exec = Jvm.exec) (hb : c.code = cc) {own cn : String} {index : Nat} {ty : FieldType}
    (hown : s.vm.findClass own = some m.cls) (hcn : "[" ++ (FieldType.array ty).toString = cn) (hclink : (Cond.classLink own index cn).before args s = true)
    (hover : mk_AO ty s) (harr : (Cond.arrayClass ty).before args s = true) (hS : va_S A H0 H locs) (hA : ∀ q, H0.size ≤ q → A q)
    {n k : Int32} {N M : Nat} (hn : ¬ n < 0) (hk : ¬ k < 0) (hN : n.toNatClampNeg = N) (hM : k.toNatClampNeg = M) (hb1 : N * 4 ≤ 536870912) (hb2 : M * componentBytes ty ≤ 536870912) (hb3 : M ≤ 536870912)
    (hdf : fits ty (defaultValue ty) = true) (hdd : (defaultValue ty).isDefault = true) (hcells : cells + (1 + N) ≤ R.cells) (hslots : slots + (N + N * M) ≤ R.slots) (hdg : decode cc pc = .ok (.multianewarray index 2, 4))
    (kk : ∀ (q : Nat) (cA cB : ClassId) (H1 : Heap) (locs1 : List Loc), q = H.size → H1[q]? = some (arrV cA N (fun j => .ref (q + 1 + j))) → (∀ i, i < N → H1[q + 1 + i]? = some (arrV cB M (fun _ => defaultValue ty))) → (∀ x : Nat, x < H.size → H1[x]? = H[x]?) →
      ArrOfT s cA (.array ty) ∧ va_RA s cA (.array ty) → ArrOfT s cB ty ∧ s.vm.findClass ("[" ++ ty.toString) = some cB → va_S A H0 H1 locs1 → W p l e R s m args below meth c H1 locs1 (cells + 1 + N) (slots + N + N * M) Q (F0 m (pc + 4) ls (.ref q :: rest))) :
    W p l e R s m args below meth c H locs cells slots Q (F0 m pc ls (.int k :: .int n :: rest)) := by
  subst hb
  subst hcn
  intro T hT X
  have hpl : e.platform.magicAccessors = ({} : Platform).magicAccessors := by rw [X.admits.platform]
  obtain ⟨cB, cA, kA, hcomp, hkA, hkindA, hnameA⟩ := hover
  obtain ⟨cB', kC, comp, hcomp', hkC, hkindC⟩ := Cond.arrayClass_spec harr
  have ecomp : cB' = cB := Option.some.inj (hcomp'.symm.trans hcomp)
  subst ecomp
  obtain ⟨c0, hfc0, hcl⟩ := Cond.classLink_spec hown hclink e.platform hpl
  cases hnameA.symm.trans hfc0
  obtain ⟨hg₁, hwarm₁, hready₁⟩ := State.classEntry (e := e) X.warmed hcl
  generalize T.vm.noted m.cls index (.cls cA) = vm₁ at hg₁ hwarm₁ hready₁
  have hal : s.vm.Alike vm₁ := hwarm₁.alike
  obtain ⟨kA₁, hkA₁, heA⟩ := hal.2.2 _ _ hkA
  obtain ⟨kC₁, hkC₁, heC⟩ := hal.2.2 _ _ hkC
  have hkindA₁ : kA₁.kind = .array cB' (.array ty) := by rw [heA]; exact hkindA
  have hkindC₁ : kC₁.kind = .array comp ty := by rw [heC]; exact hkindC
  have X₁ := X.noted hwarm₁
  have hr1 := X.cellsAbove hcells
  have hr2 := X.slotsAbove hslots
  subst hN
  subst hM
  have XF := mk_stand X₁ cA cB' n.toNatClampNeg k.toNatClampNeg (defaultValue ty) n.toNatClampNeg
  obtain ⟨f1, f2, f3, f4⟩ := mk_st_is (T.setVm vm₁) cA cB' n.toNatClampNeg k.toNatClampNeg (defaultValue ty) n.toNatClampNeg
  have f2' : (mk_st (T.setVm vm₁) cA cB' n.toNatClampNeg k.toNatClampNeg (defaultValue ty) n.toNatClampNeg).heap[T.heap.size]? = some (mk_out cA n.toNatClampNeg T.heap.size n.toNatClampNeg) := f2
  have hold : ∀ x : Nat, x < H.size → (mk_st (T.setVm vm₁) cA cB' n.toNatClampNeg k.toNatClampNeg (defaultValue ty) n.toNatClampNeg).heap[x]? = H[x]? := fun x hx => by
    rw [mk_st_old (T.setVm vm₁) cA cB' _ _ _ (by show x < T.heap.size; rw [hT]; exact hx)]
    show T.heap[x]? = _
    rw [hT]
  have hsz : H.size ≤ (mk_st (T.setVm vm₁) cA cB' n.toNatClampNeg k.toNatClampNeg (defaultValue ty) n.toNatClampNeg).heap.size := by
    rw [f1]; show H.size ≤ T.heap.size + 1 + _; rw [hT]; omega
  obtain ⟨t, a1, b1⟩ := kk T.heap.size cA cB' _ _ (by rw [hT]) (by rw [f2', mk_outV]) (fun i hi => (mk_st_row (T.setVm vm₁) cA cB' _ _ _ _ i hi).trans (congrArg some (mk_inV _ _ _))) hold ⟨fun n9 z9 => mk_isArr hkA hkindA n9 z9, hnameA⟩ ⟨fun n9 z9 => mk_isArr hkC hkindC n9 z9, hcomp⟩ ⟨Nat.le_trans hS.1 hsz, fun x h1 h2 => (hold x (Nat.lt_of_lt_of_le h1 hS.1)).trans (hS.2.1 x h1 h2), fun q hq => by
    rcases List.mem_append.mp hq with h | h
    · exact hS.2.2 q h
    · obtain ⟨j, -, rfl⟩ := List.mem_map.mp h
      exact hA _ (by show H0.size ≤ T.heap.size; rw [hT]; exact hS.1)⟩ _ rfl XF
  refine ⟨t, ?_, b1⟩
  have hl1 : ¬ n.toNatClampNeg > e.platform.arrayLengthLimit := by rw [Launch.admits_arrayLengthLimit X.admits]; omega
  have hh1 : ¬ n.toNatClampNeg * componentBytes (.array ty) > e.platform.maxHeapBytes := by
    rw [Launch.admits_maxHeapBytes X.admits]; show ¬ n.toNatClampNeg * 4 > 536870912; omega
  have hl2 : ¬ k.toNatClampNeg > e.platform.arrayLengthLimit := by rw [Launch.admits_arrayLengthLimit X.admits]; omega
  have hh2 : ¬ k.toNatClampNeg * componentBytes ty > e.platform.maxHeapBytes := by rw [Launch.admits_maxHeapBytes X.admits]; omega
  jvm_step X.here [hexec, hdg]
  simp only [Op.multianewarray.sem, wp_bind', Jvm.W.resolveClassAt_links (State.method?_setTop (F0 m pc ls (.int k :: .int n :: rest)) X.here.top) hg₁]
  rw [Jvm.W.popN, if_neg (by decide)]
  refine ⟨F0 m pc ls (.int k :: .int n :: rest), State.topJava?_setTop' (s := T.setVm vm₁) _ X.here.top, [.int n, .int k], rest, rfl, rfl, ?_⟩
  simp only [List.mapM_cons, List.mapM_nil, wp_bind', wp_pure']
  refine mk_rows (kA := kA₁) (kB := kC₁) (cB := cB') (comp := comp) (t0 := .array ty) (type := ty) hkA₁ hkindA₁ rfl hkC₁ hkindC₁ hn hk hl1 hh1 hl2 hh2 hdf hdd (by show T.heap.size + 1 + _ ≤ _; omega) (by show T.slotsUsed + _ + _ ≤ _; omega) (fun d' acts' => ?_)
  have eS : ((T.setTop (F0 m pc ls (.int k :: .int n :: rest))).setVm vm₁).setTop { F0 m pc ls (.int k :: .int n :: rest) with stack := rest } = (T.setVm vm₁).setTop { F0 m pc ls (.int k :: .int n :: rest) with stack := rest } := by
    show ((T.setVm vm₁).setTop _).setTop _ = _
    rw [State.setTop_setTop]
  rw [eS, mk_st_top]
  simp only [wp_bind', Jvm.W.mark, Jvm.W.pushRef, State.topJava?_setTop' _ XF.here.top, Option.some.injEq, exists_eq_left', State.setTop_setTop, State.heap_setTop]
  intro acts
  simp [jvm, XF.here.top]
  exact a1
end MK4
