/-! what a method does, as steps from place to place: none where it would leave its ground -/
def sm_it {S O : Type} (st : S → Option (S ⊕ O)) : Nat → S → Option O
  | 0, _ => none
  | k + 1, s => match st s with
    | none => none
    | some (.inl s') => sm_it st k s'
    | some (.inr o) => some o
def sm_co {S O : Type} (st : S → Option (S ⊕ O)) (k : Nat) (x : Option (S ⊕ O)) : Option O := match x with
  | none => none
  | some (.inl s') => sm_it st k s'
  | some (.inr o) => some o
section SM
variable {S O : Type} {st : S → Option (S ⊕ O)}
theorem sm_it_succ {k : Nat} {s : S} : sm_it st (k + 1) s = sm_co st k (st s) := rfl
theorem sm_mono {k : Nat} {s : S} {o : O} (h : sm_it st k s = some o) : sm_it st (k + 1) s = some o := by
  induction k generalizing s with
  | zero => cases h
  | succ k ih =>
    rw [sm_it_succ] at h ⊢
    cases hs : st s with
    | none => rw [hs] at h; cases h
    | some x =>
      rw [hs] at h
      cases x with
      | inl s' => exact ih h
      | inr o' => exact h
theorem sm_mono' {k j : Nat} {s : S} {o : O} (h : sm_it st k s = some o) (hj : k ≤ j) : sm_it st j s = some o := by
  induction j with
  | zero =>
    have : k = 0 := by omega
    subst this
    exact h
  | succ j ih =>
    by_cases e : k = j + 1
    · subst e; exact h
    · exact sm_mono (ih (by omega))
theorem sm_uniq {k j : Nat} {s : S} {o o' : O} (h : sm_it st k s = some o) (h' : sm_it st j s = some o') : o = o' := by
  have a := sm_mono' h (Nat.le_max_left k j)
  have b := sm_mono' h' (Nat.le_max_right k j)
  rw [a] at b
  exact Option.some.inj b
noncomputable def sm_tot (st : S → Option (S ⊕ O)) (s : S) : Option O :=
  @dite _ (∃ (k : Nat) (o : O), sm_it st k s = some o) (Classical.propDecidable _) (fun h => some (Classical.choose (Classical.choose_spec h))) (fun _ => none)
theorem sm_of {s : S} {o : O} (h : sm_tot st s = some o) : ∃ k : Nat, sm_it st k s = some o := by
  unfold sm_tot at h
  split at h
  · rename_i hx
    refine ⟨Classical.choose hx, ?_⟩
    have := Classical.choose_spec (Classical.choose_spec hx)
    rw [Option.some.inj h] at this
    exact this
  · cases h
theorem sm_to {k : Nat} {s : S} {o : O} (h : sm_it st k s = some o) : sm_tot st s = some o := by
  have hx : ∃ (k : Nat) (o : O), sm_it st k s = some o := ⟨k, o, h⟩
  unfold sm_tot
  split
  · rename_i hx
    exact congrArg some (sm_uniq (Classical.choose_spec (Classical.choose_spec hx)) h)
  · rename_i hn
    exact absurd hx hn
/-- one step -/
theorem sm_tot_l {s s' : S} (h : st s = some (.inl s')) : sm_tot st s = sm_tot st s' := by
  cases hs : sm_tot st s' with
  | some o =>
    obtain ⟨k, hk⟩ := sm_of hs
    refine sm_to (k := k + 1) ?_
    rw [sm_it_succ, h]; exact hk
  | none =>
    cases h2 : sm_tot st s with
    | none => rfl
    | some o =>
      obtain ⟨k, hk⟩ := sm_of h2
      cases k with
      | zero => cases hk
      | succ k =>
        rw [sm_it_succ, h] at hk
        rw [sm_to (show sm_it st k s' = some o from hk)] at hs
        cases hs
theorem sm_tot_r {s : S} {o : O} (h : st s = some (.inr o)) : sm_tot st s = some o := sm_to (k := 1) (by rw [sm_it_succ, h]; rfl)
variable {k : Nat} {o : O}
theorem sm_pos {c : Prop} {_ : Decidable c} {x y : Option (S ⊕ O)} (h : c) (hs : sm_co st k (if c then x else y) = some o) : sm_co st k x = some o := by rwa [if_pos h] at hs
theorem sm_neg {c : Prop} {_ : Decidable c} {x y : Option (S ⊕ O)} (h : ¬ c) (hs : sm_co st k (if c then x else y) = some o) : sm_co st k y = some o := by rwa [if_neg h] at hs
theorem sm_gd {c : Prop} {_ : Decidable c} {x : Option (S ⊕ O)} (hs : sm_co st k (if c then x else none) = some o) : c ∧ sm_co st k x = some o := by
  by_cases h : c
  · rw [if_pos h] at hs; exact ⟨h, hs⟩
  · rw [if_neg h] at hs; cases hs
theorem sm_bd {R : Type} {x : Option R} {f : R → Option (S ⊕ O)} (hs : sm_co st k (x.bind f) = some o) : ∃ r, x = some r ∧ sm_co st k (f r) = some o := by
  cases x with
  | none => cases hs
  | some r => exact ⟨r, rfl, hs⟩
theorem sm_end {x : O} (hs : sm_co st k (some (.inr x)) = some o) : x = o := Option.some.inj hs
end SM
section SMW
variable {p : Program} {l : Launch} {e : Env} {R : Room} {s : State} {m : MethodId} {args : Array Value} {below : List Frame} {meth : Method} {c : Code} {H : Heap} {locs : List Loc} {cells slots : Nat} {Q : State → Prop} {g : JFrame}
/-- all places of a method at once, by the number of steps -/
theorem sm_key (Pr : Room → (State → Prop) → Nat → Prop) (h0 : Pr R Q 0) (hs : ∀ k, Pr R Q k → Pr R Q (k + 1)) (hw : (∀ k, Pr R Q k) → W p l e R s m args below meth c H locs cells slots Q g) : W p l e R s m args below meth c H locs cells slots Q g :=
  hw fun k => Nat.rec h0 hs k
end SMW
