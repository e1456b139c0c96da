/-! rows of an array of arrays: a family of cells, one behind the other -/
theorem ro4 {P : Nat → Prop} (h0 : P 0) (h1 : P 1) (h2 : P 2) (h3 : P 3) {i : Nat} (h : i < 4) : P i := by
  rcases (show i = 0 ∨ i = 1 ∨ i = 2 ∨ i = 3 by omega) with rfl | rfl | rfl | rfl <;> assumption
theorem ro6 {P : Nat → Prop} (h0 : P 0) (h1 : P 1) (h2 : P 2) (h3 : P 3) (h4 : P 4) (h5 : P 5) {i : Nat} (h : i < 6) : P i := by
  rcases (show i = 0 ∨ i = 1 ∨ i = 2 ∨ i = 3 ∨ i = 4 ∨ i = 5 by omega) with rfl | rfl | rfl | rfl | rfl | rfl <;> assumption
theorem ro_lt {i : Int32} {n : Nat} (h : ¬ (i < 0 ∨ n ≤ i.toNatClampNeg)) : i.toNatClampNeg < n := Nat.not_le.mp fun q => h (Or.inr q)
def up2 {α : Type} (c : Nat → Nat → α) (i : Nat) (x : Nat → α) : Nat → Nat → α := fun j => if j = i then x else c j
theorem up2_eq {α : Type} (c : Nat → Nat → α) (i : Nat) (x : Nat → α) : up2 c i x i = x := if_pos rfl
theorem up2_ne {α : Type} (c : Nat → Nat → α) {i j : Nat} (x : Nat → α) (h : j ≠ i) : up2 c i x j = c j := if_neg h
/-- out of a switch's table: by the words of the table -/
theorem sw_out {x : Int32} {lo hi : Int} (L : List Int32) (hL : (List.range L.length).map (fun i : Nat => Int32.ofInt (lo + (i : Int))) = L) (e : hi = lo + (L.length : Int) - 1) (h : ∀ k ∈ L, ¬ x = k) : x.toInt < lo ∨ hi < x.toInt := by
  by_cases h1 : x.toInt < lo
  · exact Or.inl h1
  · by_cases h2 : hi < x.toInt
    · exact Or.inr h2
    · refine absurd rfl (h x ?_)
      rw [← hL]
      refine List.mem_map.mpr ⟨(x.toInt - lo).toNat, List.mem_range.mpr (by omega), ?_⟩
      have e2 : lo + (((x.toInt - lo).toNat : Nat) : Int) = x.toInt := by omega
      rw [e2]
      exact Int32.ofInt_toInt x
section RO
variable {p : Program} {l : Launch} {e : Env} {R : Room} {s : State} {m : MethodId} {args : Array Value} {below : List Frame} {meth : Method} {c : Code} {H : Heap} {locs : List Loc} {cells slots : Nat} {Q : State → Prop}
variable {cc : ByteArray} {pc : Nat} {ls : Array Slot} {rest : List Value} {D : va_G} {cl : List vw_C} {A : Nat → Prop} {a : Nat} {tys : List (ClassId × FieldType)} {ws : va_W} {H0 : Heap}
/-- a row out of the array of rows -/
theorem ro_ald {Ra : Nat → Nat} {k : Nat} (hexec : p.tables.exec = Jvm.exec) (hb : c.code = cc) (hK : va_K D cl tys s) (hP : va_P D cl ws H) (q0 t0 : Nat) {cA : ClassId} {ty : FieldType} {n : Nat} (ha : ws[q0]? = some (a, .inl (cA, n, .inr (.inr (.inr (.inr (fun i9 => some (Ra i9)))))))) (ht : tys[t0]? = some (cA, ty)) (hty : ty.isReference = true) {i : Int32} (hk : i.toNatClampNeg = k) (hin : vp_in i n) (hdg : decode cc pc = .ok (.aaload, 1))
    (kk : W p l e R s m args below meth c H locs cells slots Q (F0 m (pc + 1) ls (.ref (Ra k) :: rest))) : W p l e R s m args below meth c H locs cells slots Q (F0 m pc ls (.int i :: .ref a :: rest)) := by
  subst hk
  have hlt : i.toNatClampNeg < n := Nat.not_le.mp fun q => hin (Or.inr q)
  exact W.aald (v := va_rf (some (Ra i.toNatClampNeg))) (ty := ty) hexec hb (hP q0 _ ha) ((hK.2 t0 _ ht).1 n (fun j => va_rf (some (Ra j)))) hty (fun q => by cases q) (by show ¬ (i < 0 ∨ (arrV _ _ _).slots.size ≤ _); rw [arrV_size]; exact hin) (by show (arrV _ _ _).slots[_]? = _; rw [arrV_read _ _ hlt]) rfl rfl hdg kk
end RO
def sm_or {R X : Type} (x : Option R) (f : R → Option X) (y : Option X) : Option X := match x with
  | some r => f r
  | none => y
theorem sm_orc {S O R : Type} {st : S → Option (S ⊕ O)} {k : Nat} {o : O} {x : Option R} {f : R → Option (S ⊕ O)} {y : Option (S ⊕ O)} (hs : sm_co st k (sm_or x f y) = some o) : (∃ r, x = some r ∧ sm_co st k (f r) = some o) ∨ (x = none ∧ sm_co st k y = some o) := by
  cases x with
  | none => exact Or.inr ⟨rfl, hs⟩
  | some r => exact Or.inl ⟨r, rfl, hs⟩
theorem wd_gs : GoodIn wd wd := fun w hw => ⟨hw, good_of_word (List.mem_filter.mp hw).2⟩
/-- a call of an abstract method: the word of what is run -/
theorem wd_T {R : Room} {s : State} {args : Array Value} {own C owner : String} {index maxL mc ms : Nat} {x y : MethodName} {bytes : ByteArray} {ret : Option FieldType} {rm : Room} (n : Nat) (hts : ∀ w ∈ wd, w.before args s = true) (hc : Cond.code y bytes maxL ret ∈ wd) (hi : Cond.initialized y.cls ∈ wd) (hl : Cond.methodLink own index x ∈ wd) (hsm : Cond.sameMethod x.cls owner x.name x.desc ∈ wd) (hse : Cond.selects C x y ∈ wd) (hin : Cond.instanceMethod y ∈ wd) (hz : va_Nw (.declares ⟨owner, x.name, x.desc⟩) s) (hrc : rm.cells = mc) (hrs : rm.slots = ms)
    (hd : owner ≠ "java/lang/invoke/MethodHandle" ∧ owner ≠ "java/lang/invoke/VarHandle" ∧ (parseMethodDescriptor x.desc).map (fun d => d.parameters.length) = some n) (hR : rm.frames + 1 ≤ R.frames ∧ 8 + (maxL + 11) + rm.locals ≤ R.locals) :
    va_CU R s args own C owner index x y bytes maxL ret (Cond.code y bytes maxL ret :: wd) rm mc ms n := by
  refine va_cwA n hts (fun w hw => ?_) rfl hrc hrs hz hd hR
  have key : w ∈ wd := by
    unfold va_wsU at hw
    rcases List.mem_append.mp hw with h | h
    · simp only [List.mem_cons, List.not_mem_nil, or_false] at h
      rcases h with rfl | rfl | rfl | rfl | rfl <;> assumption
    · exact (wd_g hc w h).1
  exact ⟨key, good_of_word (List.mem_filter.mp key).2⟩
