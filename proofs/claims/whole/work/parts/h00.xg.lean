/-! a throw behind writes: the state at the throw, taken as a start of its own -/
section XG
variable {p : Program} {l : Launch} {e : Env} {R : Room} {s : State} {m : MethodId} {args : Array Value} {below : List Frame} {meth : Method} {c : Code} {H : Heap} {locs : List Loc} {cells slots : Nat}
theorem xg_unset {T u : State} {f : List Frame} {L : List Loc} {k n : Nat} (h : (T.setFrames f).sameButNew u L k n) : T.sameButNew u L k n := by
  obtain ⟨h1, h2, h3, h4, h5, h6⟩ := h
  refine ⟨?_, h2, h3, h4, h5, h6⟩
  refine h1.trans ?_
  rw [State.setFrames_setFrames]
theorem xg_root {T : State} (X : Stand p l e R s m args below meth c T locs cells slots) (hc : cells ≤ R.cells) (hs : slots ≤ R.slots) :
    Stand p l e { frames := R.frames, cells := R.cells - cells, slots := R.slots - slots, locals := R.locals } (T.setFrames s.frames) m args below meth c T [] 0 0 := by
  obtain ⟨g₀, hg⟩ := Option.isSome_iff_exists.mp X.here.top
  obtain ⟨r, hr⟩ := State.topJava?_eq_some.mp hg
  obtain ⟨t, ht, -⟩ := State.frames_cons hr
  have hcur : T.cur < T.threads.size := State.cur_lt_of_frames hr
  have hF0 : (T.setFrames s.frames).frames = s.frames := State.frames_setFrames _ hcur
  have hF : (T.setFrames s.frames).frames = .invoking m args :: below := hF0.trans X.frames
  have hm' : (T.setFrames s.frames).vm.method? m = some meth := X.method'
  obtain ⟨h1, h2, h3, h4⟩ := State.hasRoom_stack X.room
  have hb := State.hasRoom_plain X.room
  have hreal := State.hasRoom_real X.room
  have hl1 := State.localsInUse_invoking X.frames X.method X.code
  have hl2 := State.localsInUse_invoking hF hm' X.code
  have hl : (T.setFrames s.frames).localsInUse = s.localsInUse := hl2.trans hl1.symm
  have hroom := X.room
  simp only [State.hasRoom, Bool.and_eq_true, decide_eq_true_eq] at hroom
  obtain ⟨⟨⟨-, hc0⟩, hs0⟩, -⟩ := hroom
  have hcode : ∀ q, (T.setFrames s.frames).code? q = s.code? q := fun q => (State.code?_setVm (s := s) X.warmed.alike q)
  have hme : (T.setFrames s.frames).vm.method? m = s.vm.method? m := X.warmed.alike.method? m
  refine ⟨X.admits, X.cas, X.clock, hF, ?_, ?_, hm', X.code, X.here, X.tail, State.WarmedH.refl _, (State.stackLimits_setFrames _ _ _).symm, (State.stackBytes_setFrames _ _).symm, ?_⟩
  · refine State.hasRoom_of ?_ ?_ ?_ ?_ ?_ ?_ ?_
    · rw [State.stackBytes_setFrames, X.bytes]; exact hb
    · rw [hF0]; exact h1
    · rw [hl]; exact h3
    · have := X.heapSize
      show T.heap.size + (R.cells - cells) ≤ _
      omega
    · have := X.used
      show T.slotsUsed + (R.slots - slots) ≤ _
      omega
    · exact X.book
    · rw [hl]; exact hreal
  · have h := X.hears
    unfold State.hears at h ⊢
    rw [hme]
    simp only [hcode]
    exact h
  · have ht' : (T.setFrames s.frames).threads[(T.setFrames s.frames).cur]? = some { t with frames := s.frames } := by
      simp [State.setFrames, Array.getElem?_modify, ht]
    have hcur' : (T.setFrames s.frames).cur < (T.setFrames s.frames).threads.size := by simpa [State.setFrames] using hcur
    have h := (State.sameButNew.refl (T.setFrames s.frames) ht').setFrames T.frames hcur'
    rw [State.setFrames_setFrames, State.setFrames_self ht] at h
    exact h
/-- new X(); dup; X.<init>(); athrow, wherever the method stands -/
theorem xg_throw {cc : ByteArray} {own cls : String} {names : List String} {ia ic pc : Nat} {ls : Array Slot} {rest : List Value} {free : Addr → Prop} {nL : Nat} {lv : List (Nat × Value)} {Qc : Array Value → State → Addr → State → Prop}
    (hx : p.tables.exec = Jvm.exec) (hb : c.code = cc) (htr : l.stackTraces = false) (hml : c.maxLocals = nL) (hls : lv_has ls nL lv) (hne : ∀ x ∈ c.exceptionTable.toList, False) (hlocks : meth.locks = false)
    (hown : s.vm.findClass own = some m.cls) (hcls : Bundle.fit cls = true) (hnames : ∀ n ∈ names, Bundle.fit n = true)
    (hcl : ∀ U : State, s.WarmedH U.vm → (Cond.classLink own ia cls).before args U = true) (hini : ∀ U : State, s.WarmedH U.vm → (Cond.initialized cls).before args U = true)
    (hat : ∀ U : State, s.WarmedH U.vm → U.heap = H → ∀ a ∈ Bundle.ownAtoms0 own ic cls names, a.before args U = true)
    (hd0 : decode cc pc = .ok (.new ia, 3)) (hd3 : decode cc (pc + 3) = .ok (.dup, 1)) (hd4 : decode cc (pc + 4) = .ok (.invokespecial ic, 3)) (hd7 : decode cc (pc + 7) = .ok (.athrow, 1))
    (hcells : cells + 1 ≤ R.cells) (hslots : slots + 6 ≤ R.slots) (hfr : names.length + 3 < R.frames) (hlo : (rest.map fun v => v.category).sum + 1 + (13 * (names.length + 1) + 41) ≤ R.locals)
    (hfree : ∀ q ∈ locs, free q.base)
    (hq : ∀ (x : Addr) (t : State), H.size ≤ x → (∃ ce : Cell, t.heap[x]? = some ce ∧ ce.vm = .none ∧ t.vm.findClass cls = some ce.cls) → H.size ≤ t.heap.size → (∀ q : Nat, q < H.size → t.heap[q]? = H[q]?) → s.WarmedH t.vm → Qc args s x t) :
    W p l e R s m args below meth c H locs cells slots (xt_MQ below Qc args s (cells + 1) (slots + 6) free) (F0 m pc ls rest) := by
  intro T hT X
  have X0 := xg_root X (by omega) (by omega)
  have hw : s.WarmedH (T.setFrames s.frames).vm := X.warmed
  have hown' : (T.setFrames s.frames).vm.findClass own = some m.cls := by
    show T.vm.findClass own = _
    rw [X.warmed.alike.findClass]; exact hown
  have key := xt_throw (s := T.setFrames s.frames) (R := { frames := R.frames, cells := R.cells - cells, slots := R.slots - slots, locals := R.locals }) (cells := 0) (slots := 0) (p := p) (l := l) (e := e) (m := m) (args := args) (below := below) (meth := meth) (c := c) (free := fun _ => False) (rest := rest)
    hx hb htr hml hls hne hlocks hown' hcls hnames (hcl _ hw) (hini _ hw) (hat _ hw hT) hd0 hd3 hd4 hd7 (by show 0 + 1 ≤ R.cells - cells; omega) (by show 0 + 6 ≤ R.slots - slots; omega) hfr hlo
  obtain ⟨t, a1, x, b1, b2, ⟨q1, q2, q3, q4⟩, L, ⟨e1, e2⟩, hL⟩ := key T rfl X0
  have hL0 : L = [] := List.eq_nil_iff_forall_not_mem.mpr fun q hq => hL q hq
  subst hL0
  have q1' : H.size ≤ x := by rw [← hT]; exact q1
  have hw2 : s.WarmedH t.vm := State.WarmedH.trans X.warmed e1
  refine ⟨t, a1, x, b1, b2, hq x t q1' q2 (by rw [← hT]; exact q3) (fun q h => ?_) hw2, locs, ⟨hw2, ?_⟩, hfree⟩
  · rw [← hT]
    exact q4 q (by show q < T.heap.size; rw [hT]; exact h) id
  · have h := X.same.trans ((xg_unset e2).setVm s.vm)
    rw [List.append_nil] at h
    exact h
end XG
def xg_Q (cls : String) (A : Nat → Prop) (B : State → Prop) (st : State) (x : Addr) (t : State) : Prop :=
  st.heap.size ≤ x ∧ (∃ ce : Cell, t.heap[x]? = some ce ∧ ce.vm = .none ∧ t.vm.findClass cls = some ce.cls) ∧ B t ∧ va_F A st t
section XGO
variable {p : Program} {l : Launch} {e : Env} {R : Room} {s : State} {m : MethodId} {args : Array Value} {below : List Frame} {meth : Method} {c : Code} {H : Heap} {locs : List Loc} {cells slots mc ms : Nat} {Q : State → Prop} {rest st0 : List Value} {pc : Nat} {ls : Array Slot}
/-- what the callee throws goes through -/
theorem xg_out {Qa : State → Addr → State → Prop} {Qc : Array Value → State → Addr → State → Prop} {f1 free : Addr → Prop} (hr : xt_Run p l e R s m args below meth c H locs cells slots mc ms (F0 m pc ls st0) rest Qa f1)
    (hne : ∀ x ∈ c.exceptionTable.toList, False) (hlocks : meth.locks = false) (hf1 : ∀ q, f1 q → free q) (hfree : ∀ q ∈ locs, free q.base)
    (kk : ∀ (st : State) (x : Addr) (t U : State), st.heap = H → Qa st x t → U.heap = t.heap → U.vm = t.vm → s.WarmedH U.vm → Qc args s x U) :
    W p l e R s m args below meth c H locs cells slots (xt_MQ below Qc args s (cells + mc) (slots + ms) free) (F0 m pc ls st0) := by
  intro T hT X
  obtain ⟨x, st₀, t, T', L, h0, X', hL, e1, e2, hQ, st⟩ := hr T hT X
  obtain ⟨w1, w2, w3, w4, w5⟩ := X'.leaveThrown x (g := { F0 m pc ls st0 with stack := rest }) rfl rfl rfl (fun x hx => (hne x hx).elim) hlocks
  refine ⟨T'.setFrames (.throwing x :: below), st _ w1, x, w2, w3, kk st₀ x t _ h0 hQ e1 e2 w4, locs ++ L, ⟨w4, w5⟩, fun q hq => ?_⟩
  rcases List.mem_append.mp hq with hq | hq
  · exact hfree q hq
  · exact hf1 _ (hL q hq)
/-- a call that throws, and a handler of the method's own that takes it -/
theorem xg_catch {cls own : String} {hs : List (Nat × Nat × Nat × Nat)} {hpc : Nat} {A A1 f1 : Nat → Prop} {H0 : Heap} {B : State → Prop} (hr : xt_Run p l e R s m args below meth c H locs cells slots mc ms (F0 m pc ls st0) rest (fun st x t => xg_Q cls A1 B st x t) f1)
    (htab : c.exceptionTable.toList = tableOf hs) (hown : s.vm.findClass own = some m.cls) (hpath : xt_path args s own cls pc hs hpc) (hS : va_S A H0 H locs) (hA1 : ∀ q, q < H.size → A1 q → A q) (hf1 : ∀ q, f1 q → A q)
    (kk : ∀ (x : Addr) (t : State) (H1 : Heap) (locs1 : List Loc), t.heap = H1 → s.vm.Alike t.vm → B t → H.size ≤ H1.size → (∀ q : Nat, q < H.size → ¬ A1 q → H1[q]? = H[q]?) → va_S A H0 H1 locs1 → W p l e R s m args below meth c H1 locs1 (cells + mc) (slots + ms) Q (F0 m hpc ls [.ref x])) :
    W p l e R s m args below meth c H locs cells slots Q (F0 m pc ls st0) := by
  intro T hT X
  obtain ⟨x, st₀, t, T', L, h0, X', hL, e1, e2, ⟨q1, ⟨ce, q2, q3, q4⟩, qB, q5, q6⟩, st⟩ := hr T hT X
  have hcell : T'.heap[x]? = some ce := by rw [e1]; exact q2
  have hfc : T'.vm.findClass cls = some ce.cls := by rw [e2]; exact q4
  obtain ⟨vm', hw', hh⟩ := xt_pathGo (l := l) (e := e) (s := s) (args := args) (own := own) (cls := cls) (g := F0 m pc ls rest) (x := x) X'.admits hown hs hpc hpath ((T'.setTop (F0 m pc ls rest)).pushFrame (.throwing x)) ce
    (by rw [Stand.throwing_vm]; exact X'.warmed) (by rw [Stand.throwing_heap]; exact hcell) q3 (by rw [Stand.throwing_vm]; exact hfc)
  have hfind : xt_Finds e ((T'.setTop (F0 m pc ls rest)).pushFrame (.throwing x)) (F0 m pc ls rest) x (.found hpc) vm' := by
    intro Q1 E1 d1 acts1
    rw [Jvm.W.findHandler_eq (meth := meth) (code := c) (by rw [Stand.throwing_vm]; exact X'.method') X'.code, htab]
    exact hh Q1 E1 d1 acts1
  have X2 := X'.noted hw'
  have hle : H.size ≤ T'.heap.size := by rw [e1, ← h0]; exact q5
  have hkeep : ∀ q : Nat, q < H.size → ¬ A1 q → T'.heap[q]? = H[q]? := fun q hq hn => by rw [e1, ← h0]; exact q6 q (by rw [h0]; exact hq) hn
  have hal : s.vm.Alike t.vm := by rw [← e2]; exact X'.warmed.alike
  obtain ⟨t2, a1, b1⟩ := kk x t (T'.setVm vm').heap (locs ++ L) e1.symm hal qB hle hkeep ⟨Nat.le_trans hS.1 hle, fun q h1 h2 => (hkeep q (Nat.lt_of_lt_of_le h1 hS.1) (fun z => h2 (hA1 q (Nat.lt_of_lt_of_le h1 hS.1) z))).trans (hS.2.1 q h1 h2), fun q hq => by
    rcases List.mem_append.mp hq with hq | hq
    · exact hS.2.2 q hq
    · exact hf1 _ (hL q hq)⟩ (T'.setVm vm') rfl X2
  exact ⟨t2, st t2 (xt_caught (g := F0 m pc ls rest) X'.here hfind a1), b1⟩
end XGO
/-! Throwable's statics lie in no cell of a world -/
theorem xg_lays {C n d : String} {a b : Array Value} {u U : State} (hvm : u.vm.Alike U.vm) (hk : ∀ (q : Nat) (cell : Cell), u.heap[q]? = some cell → cell.vm.isStatics = true → U.heap[q]? = some cell) (h : (Cond.laysStatic C n d).before a u = true) : (Cond.laysStatic C n d).before b U = true := by
  obtain ⟨c, k, i, f, aS, cell, h1, h2, h3, h4, h5, h6, h7, h8, h9⟩ := Cond.laysStatic_spec h
  obtain ⟨k', hi', he⟩ := State.fieldFound?_setVm hvm h2
  have f1 : U.vm.findClass C = some c := by rw [hvm.findClass]; exact h1
  have f2 : U.fieldFound? C n d = some (c, k', i, f) := hi'
  have f4 : k'.statics = some aS := by rw [he]; exact h4
  have f5 : U.heap[aS]? = some cell := hk aS cell h5 h6
  have f9 : k'.staticTypes[f.slot]? = some f.type := by rw [he]; exact h9
  simp [Cond.before, Cond.holds, Cond.value, f1, f2, f4, f5, h3, h6, h7, h8, f9]
theorem xg_Z {C n d : String} {v : Value} {A : Nat → Prop} {U : State} {H H1 : Heap} (hk : ∀ (q : Nat) (cell : Cell), H[q]? = some cell → cell.vm.isStatics = true → H1[q]? = some cell) (h : va_Z C n d v A U H) : va_Z C n d v A U H1 := by
  obtain ⟨cf, kf, fi, f, a, cell, h1, h2, h3, h4, h5, h6, h7, h8⟩ := h
  exact ⟨cf, kf, fi, f, a, cell, h1, h2, h3, h4, hk a cell h5 h6, h6, h7, h8⟩
theorem xg_Zq {C n d : String} {A : Nat → Prop} {U : State} {H H1 : Heap} (hk : ∀ (q : Nat) (cell : Cell), H[q]? = some cell → cell.vm.isStatics = true → H1[q]? = some cell) (h : va_Zq C n d A U H) : va_Zq C n d A U H1 := by
  rcases h with h | ⟨t, h⟩
  · exact Or.inl (xg_Z hk h)
  · exact Or.inr ⟨t, xg_Z hk h⟩
theorem xs_ok.grown {s U : State} (hvm : s.vm.Alike U.vm) (hk : ∀ (q : Nat) (cell : Cell), s.heap[q]? = some cell → cell.vm.isStatics = true → U.heap[q]? = some cell) (h : xs_ok s) : xs_ok U :=
  ⟨xg_Zq hk (h.1.moved hvm), xg_Zq hk (h.2.1.moved hvm), xg_lays hvm hk h.2.2.1, xg_lays hvm hk h.2.2.2.1, fun w hw => xd_warm1 (List.all_eq_true.mp xd_all w hw) hvm (h.2.2.2.2 w hw)⟩
theorem xg_st {D : va_G} {cl : List vw_C} {ws : va_W} {H : Heap} (hP : va_P D cl ws H) {q : Nat} {cell : Cell} (h1 : H[q]? = some cell) (h2 : cell.vm.isStatics = true) : ¬ va_A ws H.size q := by
  rintro (⟨k, e, hk⟩ | h)
  · have h3 := hP k _ hk
    cases e with
    | inl a =>
      have h4 : H[q]? = some (vp_cell a.1 a.2) := h3
      rw [h1] at h4
      have h5 := Option.some.inj h4
      subst h5
      obtain ⟨ca, n, f | f | f | f | f⟩ := a <;> cases h2
    | inr o =>
      obtain ⟨r, -, cellV, g1, g2, g3, -⟩ := h3
      rw [h1] at g1
      cases Option.some.inj g1
      rw [g3] at h2
      cases h2
  · exact absurd (Array.getElem?_eq_some_iff.mp h1).1 (Nat.not_lt.mpr h)
