/-! calls of methods that write nothing and make nothing, out of a method that has written and made nothing: the heap is the very same -/
theorem pu_heap {s T' : State} (h : s.sameButNew (T'.setVm s.vm) [] 0 0) : T'.heap = s.heap := by
  obtain ⟨h1, h2⟩ := xt_kept (U := T') (k := 0) (n := 0) h
  obtain ⟨-, -, h3, -⟩ := h
  have h3' : T'.heap.size ≤ s.heap.size + 0 := h3
  apply Array.ext_getElem?
  intro i
  by_cases hi : i < s.heap.size
  · exact h2 i hi id
  · rw [Array.getElem?_eq_none (by omega), Array.getElem?_eq_none (by omega)]
section PU
variable {p : Program} {l : Launch} {e : Env} {R : Room} {s : State} {m : MethodId} {args : Array Value} {below : List Frame} {meth : Method} {c : Code} {Q : State → Prop} {pc : Nat} {ls : Array Slot} {st0 rest : List Value} {a : Array Value}
theorem pu_calli {post : Int32 → Unit → Prop} {B : Unit → State → Prop} (hr : va_Run p l e R s m args below meth c s.heap [] 0 0 0 0 (F0 m pc ls st0) rest (va_Qi post B (fun _ => False) a) (fun _ => False))
    (kk : ∀ r : Int32, post r () → W p l e R s m args below meth c s.heap [] 0 0 Q (F0 m (pc + 3) ls (.int r :: rest))) : W p l e R s m args below meth c s.heap [] 0 0 Q (F0 m pc ls st0) := by
  intro T hT X
  obtain ⟨v, st₀, t, T', L, h0, X', hL, e1, e2, ⟨⟨r, u, hv, hp, hb⟩, hz, hk⟩, st⟩ := hr T hT X
  cases hv
  have hL0 : L = [] := List.eq_nil_iff_forall_not_mem.mpr fun q hq => hL q hq
  subst hL0
  obtain ⟨t2, a1, b1⟩ := kk r hp T' (pu_heap X'.same) X'
  exact ⟨t2, st t2 a1, b1⟩
theorem pu_calll {post : Int64 → Unit → Prop} {B : Unit → State → Prop} (hr : va_Run p l e R s m args below meth c s.heap [] 0 0 0 0 (F0 m pc ls st0) rest (va_Ql post B (fun _ => False) a) (fun _ => False))
    (kk : ∀ r : Int64, post r () → W p l e R s m args below meth c s.heap [] 0 0 Q (F0 m (pc + 3) ls (.long r :: rest))) : W p l e R s m args below meth c s.heap [] 0 0 Q (F0 m pc ls st0) := by
  intro T hT X
  obtain ⟨v, st₀, t, T', L, h0, X', hL, e1, e2, ⟨⟨r, u, hv, hp, hb⟩, hz, hk⟩, st⟩ := hr T hT X
  cases hv
  have hL0 : L = [] := List.eq_nil_iff_forall_not_mem.mpr fun q hq => hL q hq
  subst hL0
  obtain ⟨t2, a1, b1⟩ := kk r hp T' (pu_heap X'.same) X'
  exact ⟨t2, st t2 a1, b1⟩
theorem pu_callv {post : Unit → Prop} {B : Unit → State → Prop} (hr : va_Run p l e R s m args below meth c s.heap [] 0 0 0 0 (F0 m pc ls st0) rest (va_Qv post B (fun _ => False) a) (fun _ => False))
    (kk : W p l e R s m args below meth c s.heap [] 0 0 Q (F0 m (pc + 3) ls rest)) : W p l e R s m args below meth c s.heap [] 0 0 Q (F0 m pc ls st0) := by
  intro T hT X
  obtain ⟨v, st₀, t, T', L, h0, X', hL, e1, e2, ⟨⟨u, hv, hp, hb⟩, hz, hk⟩, st⟩ := hr T hT X
  cases hv
  have hL0 : L = [] := List.eq_nil_iff_forall_not_mem.mpr fun q hq => hL q hq
  subst hL0
  obtain ⟨t2, a1, b1⟩ := kk T' (pu_heap X'.same) X'
  exact ⟨t2, st t2 a1, b1⟩
end PU
