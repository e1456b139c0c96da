/-! the way through a handler table: entries whose class is another are passed, the first that fits is taken -/
def xt_path (args : Array Value) (s : State) (own cls : String) (pc : Nat) : List (Nat × Nat × Nat × Nat) → Nat → Prop
  | [], _ => False
  | q :: r, h => (q.1 ≤ pc ∧ pc < q.2.1 ∧ q.2.2.2 ≠ 0) ∧ ∃ (name : String) (cA cB : ClassId), (Cond.classLink own q.2.2.2 name).before args s = true ∧ s.vm.findClass cls = some cA ∧ s.vm.findClass name = some cB ∧
      ((s.vm.assignable cA cB = true ∧ h = q.2.2.1) ∨ (s.vm.assignable cA cB = false ∧ xt_path args s own cls pc r h))
theorem xt_pathGo {l : Launch} {e : Env} {s : State} {args : Array Value} {own cls : String} {g : JFrame} {x : Addr} (had : l.admits e) (hown : s.vm.findClass own = some g.method.cls) :
    ∀ (hs : List (Nat × Nat × Nat × Nat)) (h : Nat), xt_path args s own cls g.pc hs h → ∀ (S : State) (ce : Cell), s.WarmedH S.vm → S.heap[x]? = some ce → ce.vm = .none → S.vm.findClass cls = some ce.cls →
      ∃ vm', s.WarmedH vm' ∧ ∀ (Q : Handler → Pre) (E : CtlPost) (d : Bool) (acts : List Action), wp (findHandler.go g x (tableOf hs)) Q E e d acts S ↔ Q (.found h) d acts (S.setVm vm') := by
  intro hs
  induction hs with
  | nil => intro h hp; exact hp.elim
  | cons q r ih =>
    intro h hp S ce hW hcell hvm hcl
    obtain ⟨⟨h1, h2, h3⟩, name, cA, cB, hlink, hA, hB, hor⟩ := hp
    have hpl : e.platform.magicAccessors = ({} : Platform).magicAccessors := by rw [had.platform]
    obtain ⟨c', hc', hcl'⟩ := Cond.classLink_spec hown hlink e.platform hpl
    have ec : c' = cB := Option.some.inj (hc'.symm.trans hB)
    subst ec
    obtain ⟨hg, hwarm, hready⟩ := State.classEntry (e := e) hW hcl'
    have hsz : (S.vm.noted g.method.cls q.2.2.2 (.cls c')).classes.size ≤ S.vm.classes.size := by no_record
    generalize S.vm.noted g.method.cls q.2.2.2 (.cls c') = vm₁ at hg hwarm hready hsz
    have hal : s.vm.Alike vm₁ := hwarm.alike
    have hA1 : vm₁.findClass cls = some cA := by rw [hal.findClass]; exact hA
    have hB1 : vm₁.findClass name = some c' := by rw [hal.findClass]; exact hB
    have ea : ce.cls = cA := by
      rw [hW.alike.findClass] at hcl
      exact Option.some.inj (hcl.symm.trans hA)
    have hcov : covers (⟨q.1, q.2.1, q.2.2.1, q.2.2.2⟩ : ExceptionTableEntry) g.pc = true := by
      simp only [covers, Bool.and_eq_true, decide_eq_true_eq]
      exact ⟨h1, h2⟩
    have hgo := fun (Q : Handler → Pre) (E : CtlPost) (d : Bool) (acts : List Action) => xt_go (E := E) (e := e) (d := d) (acts := acts) (s := S) (f := g) (a := x) (Q := Q) (x := (⟨q.1, q.2.1, q.2.2.1, q.2.2.2⟩ : ExceptionTableEntry)) (t := tableOf r) (cC := c') (cell := ce) (vm' := vm₁) hcov h3 hg hsz hcell (fun k hk => by rw [hvm] at hk; cases hk)
      (by rw [ea]; exact Vm.classAt_of_findClass hA1) (Vm.classAt_of_findClass hB1)
    have has : vm₁.assignable ce.cls c' = s.vm.assignable cA c' := by rw [ea, hal.assignable]
    rcases hor with ⟨hfit, rfl⟩ | ⟨hfit, hrest⟩
    · refine ⟨vm₁, hwarm, fun Q E d acts => ?_⟩
      show wp (findHandler.go g x ((⟨q.1, q.2.1, q.2.2.1, q.2.2.2⟩ : ExceptionTableEntry) :: tableOf r)) Q E e d acts S ↔ _
      rw [hgo Q E d acts, has, hfit, if_pos rfl]
    · obtain ⟨vm', hw', hh⟩ := ih h hrest (S.setVm vm₁) ce hwarm hcell hvm (by show vm₁.findClass cls = _; rw [ea]; exact hA1)
      refine ⟨vm', hw', fun Q E d acts => ?_⟩
      show wp (findHandler.go g x ((⟨q.1, q.2.1, q.2.2.1, q.2.2.2⟩ : ExceptionTableEntry) :: tableOf r)) Q E e d acts S ↔ _
      rw [hgo Q E d acts, has, hfit, if_neg (by decide), hh Q E d acts]
      rfl
section XTK
variable {p : Program} {l : Launch} {e : Env} {R : Room} {s : State} {m : MethodId} {args : Array Value} {below : List Frame} {meth : Method} {c : Code} {H : Heap} {locs : List Loc} {cells slots mc ms : Nat} {Q : State → Prop} {rest st0 : List Value}
/-- a call that throws, and a handler of the method's own that takes it -/
theorem xt_catch {cls own : String} {hs : List (Nat × Nat × Nat × Nat)} {pc hpc : Nat} {ls : Array Slot} {A : Nat → Prop} {H0 : Heap} (hr : xt_Run p l e R s m args below meth c H locs cells slots mc ms (F0 m pc ls st0) rest (fun st x t => xt_X cls st x t) (fun _ => False))
    (htab : c.exceptionTable.toList = tableOf hs) (hown : s.vm.findClass own = some m.cls) (hpath : xt_path args s own cls pc hs hpc) (hS : va_S A H0 H locs)
    (kk : ∀ (x : Addr) (H1 : Heap) (locs1 : List Loc), H.size ≤ H1.size → (∀ q : Nat, q < H.size → H1[q]? = H[q]?) → va_S A H0 H1 locs1 → W p l e R s m args below meth c H1 locs1 (cells + mc) (slots + ms) Q (F0 m hpc ls [.ref x])) :
    W p l e R s m args below meth c H locs cells slots Q (F0 m pc ls st0) := by
  intro T hT X
  obtain ⟨x, st₀, t, T', L, h0, X', hL, e1, e2, ⟨q1, ⟨ce, q2, q3, q4⟩, q5, q6⟩, st⟩ := hr T hT X
  have hL0 : L = [] := List.eq_nil_iff_forall_not_mem.mpr fun q hq => hL q hq
  subst hL0
  rw [List.append_nil] at X'
  have hcell : T'.heap[x]? = some ce := by rw [e1]; exact q2
  have hfc : T'.vm.findClass cls = some ce.cls := by rw [e2]; exact q4
  obtain ⟨vm', hw', hh⟩ := xt_pathGo (l := l) (e := e) (s := s) (args := args) (own := own) (cls := cls) (g := F0 m pc ls rest) (x := x) X'.admits hown hs hpc hpath ((T'.setTop (F0 m pc ls rest)).pushFrame (.throwing x)) ce
    (by rw [Stand.throwing_vm]; exact X'.warmed) (by rw [Stand.throwing_heap]; exact hcell) q3 (by rw [Stand.throwing_vm]; exact hfc)
  have hfind : xt_Finds e ((T'.setTop (F0 m pc ls rest)).pushFrame (.throwing x)) (F0 m pc ls rest) x (.found hpc) vm' := by
    intro Q1 E1 d1 acts1
    rw [Jvm.W.findHandler_eq (meth := meth) (code := c) (by rw [Stand.throwing_vm]; exact X'.method') X'.code, htab]
    exact hh Q1 E1 d1 acts1
  have X2 := X'.noted hw'
  have hle : H.size ≤ T'.heap.size := by rw [e1, ← h0]; exact q5
  have hkeep : ∀ q : Nat, q < H.size → T'.heap[q]? = H[q]? := fun q hq => by rw [e1, ← h0]; exact q6 q (by rw [h0]; exact hq) id
  obtain ⟨t2, a1, b1⟩ := kk x (T'.setVm vm').heap locs hle hkeep ⟨Nat.le_trans hS.1 hle, fun q h1 h2 => (hkeep q (Nat.lt_of_lt_of_le h1 hS.1)).trans (hS.2.1 q h1 h2), hS.2.2⟩ (T'.setVm vm') rfl X2
  exact ⟨t2, st t2 (xt_caught (g := F0 m pc ls rest) X'.here hfind a1), b1⟩
end XTK
