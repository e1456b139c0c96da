/-! classes that can't be assigned to another, as the Statement says -/
def xc_l : List (String × String) := [("java/lang/IllegalStateException", "java/lang/IllegalArgumentException"), ("java/lang/IllegalArgumentException", "java/lang/IndexOutOfBoundsException"), ("java/util/NoSuchElementException", "java/lang/IllegalArgumentException"), ("java/util/NoSuchElementException", "java/lang/IllegalStateException")]
def xc_ok (U : State) : Prop := ∀ q ∈ xc_l, ∃ cA cB, U.vm.findClass q.1 = some cA ∧ U.vm.findClass q.2 = some cB ∧ U.vm.assignable cA cB = false
theorem xc_ok.moved {s U : State} (hvm : s.vm.Alike U.vm) (h : xc_ok s) : xc_ok U := fun q hq => by
  obtain ⟨cA, cB, h1, h2, h3⟩ := h q hq
  exact ⟨cA, cB, by rw [hvm.findClass]; exact h1, by rw [hvm.findClass]; exact h2, by rw [hvm.assignable]; exact h3⟩
theorem xp_hit {args : Array Value} {s : State} {own cls : String} {pc : Nat} {q : Nat × Nat × Nat × Nat} {r : List (Nat × Nat × Nat × Nat)} (h1 : q.1 ≤ pc) (h2 : pc < q.2.1) (h3 : q.2.2.2 ≠ 0) (hl : (Cond.classLink own q.2.2.2 cls).before args s = true) (hc : (Cond.castable cls cls).before args s = true) :
    xt_path args s own cls pc (q :: r) q.2.2.1 := by
  obtain ⟨cA, cB, e1, e2, e3⟩ := Cond.castable_spec hc
  exact ⟨⟨h1, h2, h3⟩, cls, cA, cB, hl, e1, e2, Or.inl ⟨e3, rfl⟩⟩
theorem xp_pass {args : Array Value} {s : State} {own cls name : String} {pc h : Nat} {q : Nat × Nat × Nat × Nat} {r : List (Nat × Nat × Nat × Nat)} (h1 : q.1 ≤ pc) (h2 : pc < q.2.1) (h3 : q.2.2.2 ≠ 0) (hl : (Cond.classLink own q.2.2.2 name).before args s = true) (hc : xc_ok s) (hm : (cls, name) ∈ xc_l)
    (hp : xt_path args s own cls pc r h) : xt_path args s own cls pc (q :: r) h := by
  obtain ⟨cA, cB, e1, e2, e3⟩ := hc _ hm
  exact ⟨⟨h1, h2, h3⟩, _, cA, cB, hl, e1, e2, Or.inr ⟨e3, hp⟩⟩
theorem st_xc {args : Array Value} {s : State} (h0 : ∀ w ∈ xd_l, w.before args s = true) (hn : ∀ q ∈ xc_l, (Cond.not (Cond.castable q.1 q.2)).before args s = true) : xc_ok s := by
  intro q hq
  have hc : ∀ c ∈ ["java/lang/IndexOutOfBoundsException", "java/lang/IllegalStateException", "java/lang/IllegalArgumentException", "java/util/NoSuchElementException"], Cond.castable c c ∈ xd_l := by decide
  have hq1 : q.1 ∈ ["java/lang/IndexOutOfBoundsException", "java/lang/IllegalStateException", "java/lang/IllegalArgumentException", "java/util/NoSuchElementException"] ∧ q.2 ∈ ["java/lang/IndexOutOfBoundsException", "java/lang/IllegalStateException", "java/lang/IllegalArgumentException", "java/util/NoSuchElementException"] := by
    revert q hq
    decide
  obtain ⟨cA, cA', a1, -, -⟩ := Cond.castable_spec (h0 _ (hc _ hq1.1))
  obtain ⟨cB, cB', b1, -, -⟩ := Cond.castable_spec (h0 _ (hc _ hq1.2))
  refine ⟨cA, cB, a1, b1, ?_⟩
  have hn' := hn q hq
  cases hh : s.vm.assignable cA cB with
  | false => rfl
  | true => simp [Cond.before, Cond.holds, Cond.value, a1, b1, hh] at hn'
