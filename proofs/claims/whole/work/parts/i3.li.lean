/-! going through a list with a taker that may stop; the list of the least ones -/
def sx_fo {σ α : Type} (tk : σ → α → σ × Bool) : List α → σ → σ × Bool
  | [], t => (t, true)
  | x :: r, t => if (tk t x).2 = true then sx_fo tk r (tk t x).1 else ((tk t x).1, false)
/-- one asks all that are in the list -/
def sx_tR {α : Type} (cap : Nat) (P : α → Bool) (rej : α → α → Bool) (L : List α) (v : α) : List α × Bool :=
  if P v = true ∧ ¬ L.any (fun w => rej w v) = true then (if L.length < cap then (L ++ [v], true) else (L, false)) else (L, true)
/-- the other asks the first m only -/
def sx_tC {α : Type} (cap : Nat) (le : α → α → Bool) (m : Nat) (L : List α) (v : α) : List α × Bool :=
  if (L.take m).any (fun w => le w v) = true then (L, true) else if cap ≤ L.length then (L, false) else (L ++ [v], true)
section SXL
variable {σ α : Type} {cap : Nat} {P : α → Bool} {le rej : α → α → Bool}
theorem sx_fo_cons {tk : σ → α → σ × Bool} {x : α} {r : List α} {t : σ} : sx_fo tk (x :: r) t = if (tk t x).2 = true then sx_fo tk r (tk t x).1 else ((tk t x).1, false) := rfl
theorem sx_fo_app {tk : σ → α → σ × Bool} : ∀ (L1 L2 : List α) (t : σ), sx_fo tk (L1 ++ L2) t = if (sx_fo tk L1 t).2 = true then sx_fo tk L2 (sx_fo tk L1 t).1 else sx_fo tk L1 t := by
  intro L1
  induction L1 with
  | nil => intro L2 t; show sx_fo tk L2 t = _; rw [if_pos (show (sx_fo tk [] t).2 = true from rfl)]; rfl
  | cons x r ih =>
    intro L2 t
    show sx_fo tk (x :: (r ++ L2)) t = _
    rw [sx_fo_cons, sx_fo_cons]
    by_cases h : (tk t x).2 = true
    · rw [if_pos h, if_pos h, ih]
    · rw [if_neg h, if_neg h, if_neg (by simp)]
/-- what the taker passes over may be left out -/
theorem sx_fo_filter {tk : σ → α → σ × Bool} {p : α → Bool} : ∀ (L : List α) (t : σ), (∀ x, x ∈ L → p x = false → ∀ u, tk u x = (u, true)) → sx_fo tk L t = sx_fo tk (L.filter p) t := by
  intro L
  induction L with
  | nil => intro t _; rfl
  | cons x r ih =>
    intro t h
    by_cases e : p x = true
    · rw [List.filter_cons_of_pos e, sx_fo_cons, sx_fo_cons, ih _ (fun y hy => h y (List.mem_cons_of_mem _ hy))]
    · rw [List.filter_cons_of_neg e, sx_fo_cons, h x List.mem_cons_self (by simpa using e) t, if_pos rfl, ih _ (fun y hy => h y (List.mem_cons_of_mem _ hy))]
theorem sx_any_iff {L : List α} {f : α → Bool} : L.any f = true ↔ ∃ w, w ∈ L ∧ f w = true := by rw [List.any_eq_true]
theorem sx_fo_eq {L : List α} : ∀ (E D : List α), (∀ v, v ∈ E → ∀ w, w ∈ D → w ≠ v) → E.Pairwise (fun a b => a ≠ b) → (∀ w v, le w v = true → rej w v = true) →
    (∀ v, v ∈ E → P v = true → ∀ w, w ∈ L → rej w v = true → ∃ w', w' ∈ L ∧ le w' v = true) → (∀ w, w ∈ D → P w = true) →
    (∀ v, v ∈ E → P v = true → ∀ w, w ∈ D ∨ w ∈ E → P w = true → rej w v = true → w = v) →
    sx_fo (sx_tR cap P rej) E (L ++ D) = sx_fo (sx_tC cap le L.length) (E.filter P) (L ++ D) := by
  intro E
  induction E with
  | nil => intro D _ _ _ _ _ _; rfl
  | cons x r ih =>
    intro D h0 hpw h1 h2 hD h3
    obtain ⟨px, pr⟩ := List.pairwise_cons.mp hpw
    have r0 : ∀ v, v ∈ r → ∀ w, w ∈ D → w ≠ v := fun v hv => h0 v (List.mem_cons_of_mem _ hv)
    have r2 : ∀ v, v ∈ r → P v = true → ∀ w, w ∈ L → rej w v = true → ∃ w', w' ∈ L ∧ le w' v = true := fun v hv => h2 v (List.mem_cons_of_mem _ hv)
    have r3 : ∀ v, v ∈ r → P v = true → ∀ w, w ∈ D ∨ w ∈ r → P w = true → rej w v = true → w = v := fun v hv hp w hw => h3 v (List.mem_cons_of_mem _ hv) hp w (hw.elim Or.inl fun q => Or.inr (List.mem_cons_of_mem _ q))
    by_cases hP : P x = true
    · rw [List.filter_cons_of_pos hP, sx_fo_cons, sx_fo_cons]
      have ht : (L ++ D).take L.length = L := by simp
      have hiff : (L ++ D).any (fun w => rej w x) = true ↔ L.any (fun w => le w x) = true := by
        rw [sx_any_iff, sx_any_iff]
        constructor
        · rintro ⟨w, hw, hr⟩
          rcases List.mem_append.mp hw with hw | hw
          · exact h2 x List.mem_cons_self hP w hw hr
          · exact absurd (h3 x List.mem_cons_self hP w (Or.inl hw) (hD w hw) hr) (h0 x List.mem_cons_self w hw)
        · rintro ⟨w, hw, hr⟩
          exact ⟨w, List.mem_append_left _ hw, h1 w x hr⟩
      by_cases hj : L.any (fun w => le w x) = true
      · have eR : sx_tR cap P rej (L ++ D) x = (L ++ D, true) := by
          unfold sx_tR
          rw [if_neg (fun q => q.2 (hiff.mpr hj))]
        have eC : sx_tC cap le L.length (L ++ D) x = (L ++ D, true) := by
          unfold sx_tC
          rw [ht, if_pos hj]
        rw [eR, eC, if_pos rfl, if_pos rfl]
        exact ih D r0 pr h1 r2 hD r3
      · have hj' : ¬ (L ++ D).any (fun w => rej w x) = true := fun q => hj (hiff.mp q)
        by_cases hc : (L ++ D).length < cap
        · have eR : sx_tR cap P rej (L ++ D) x = (L ++ D ++ [x], true) := by
            unfold sx_tR
            rw [if_pos ⟨hP, hj'⟩, if_pos hc]
          have eC : sx_tC cap le L.length (L ++ D) x = (L ++ D ++ [x], true) := by
            unfold sx_tC
            rw [ht, if_neg hj, if_neg (by omega)]
          rw [eR, eC, if_pos rfl, if_pos rfl]
          show sx_fo (sx_tR cap P rej) r (L ++ D ++ [x]) = sx_fo (sx_tC cap le L.length) (r.filter P) (L ++ D ++ [x])
          rw [List.append_assoc]
          refine ih (D ++ [x]) (fun v hv w hw => ?_) pr h1 r2 (fun w hw => ?_) (fun v hv hp w hw hpw2 hr => ?_)
          · rcases List.mem_append.mp hw with hw | hw
            · exact r0 v hv w hw
            · rw [List.mem_singleton.mp hw]; exact px v hv
          · rcases List.mem_append.mp hw with hw | hw
            · exact hD w hw
            · rw [List.mem_singleton.mp hw]; exact hP
          · rcases hw with hw | hw
            · rcases List.mem_append.mp hw with hw | hw
              · exact r3 v hv hp w (Or.inl hw) hpw2 hr
              · have e9 := List.mem_singleton.mp hw
                subst e9
                exact h3 v (List.mem_cons_of_mem _ hv) hp w (Or.inr List.mem_cons_self) hpw2 hr
            · exact r3 v hv hp w (Or.inr hw) hpw2 hr
        · have eR : sx_tR cap P rej (L ++ D) x = (L ++ D, false) := by
            unfold sx_tR
            rw [if_pos ⟨hP, hj'⟩, if_neg hc]
          have eC : sx_tC cap le L.length (L ++ D) x = (L ++ D, false) := by
            unfold sx_tC
            rw [ht, if_neg hj, if_pos (by omega)]
          rw [eR, eC, if_neg (by simp), if_neg (by simp)]
    · rw [List.filter_cons_of_neg hP, sx_fo_cons]
      have eR : sx_tR cap P rej (L ++ D) x = (L ++ D, true) := by
        unfold sx_tR
        rw [if_neg (fun q => hP q.1)]
      rw [eR, if_pos rfl]
      exact ih D r0 pr h1 r2 hD r3
/-- what the list holds behind: only new candidates, and each candidate has one within -/
theorem sx_fo_C {m : Nat} : ∀ (E L M : List α), m ≤ L.length → sx_fo (sx_tC cap le m) E L = (M, true) → ∃ D, M = L ++ D ∧ (∀ w, w ∈ D → w ∈ E) ∧ (∀ v, v ∈ E → v ∈ D ∨ ∃ w, w ∈ L.take m ∧ le w v = true) := by
  intro E
  induction E with
  | nil =>
    intro L M _ h
    have e : L = M := congrArg Prod.fst h
    exact ⟨[], by rw [List.append_nil]; exact e.symm, fun w hw => (by cases hw), fun v hv => by cases hv⟩
  | cons x r ih =>
    intro L M hm h
    rw [sx_fo_cons] at h
    by_cases hj : (L.take m).any (fun w => le w x) = true
    · have eC : sx_tC cap le m L x = (L, true) := by
        unfold sx_tC
        rw [if_pos hj]
      rw [eC, if_pos rfl] at h
      obtain ⟨D, e1, e2, e3⟩ := ih L M hm h
      refine ⟨D, e1, fun w hw => List.mem_cons_of_mem _ (e2 w hw), fun v hv => ?_⟩
      rcases List.mem_cons.mp hv with rfl | hv
      · exact Or.inr (sx_any_iff.mp hj)
      · exact e3 v hv
    · by_cases hc : cap ≤ L.length
      · have eC : sx_tC cap le m L x = (L, false) := by
          unfold sx_tC
          rw [if_neg hj, if_pos hc]
        rw [eC, if_neg (by simp)] at h
        exact absurd (congrArg Prod.snd h) (by simp)
      · have eC : sx_tC cap le m L x = (L ++ [x], true) := by
          unfold sx_tC
          rw [if_neg hj, if_neg hc]
        rw [eC, if_pos rfl] at h
        have hm2 : m ≤ (L ++ [x]).length := by rw [List.length_append]; omega
        obtain ⟨D, e1, e2, e3⟩ := ih (L ++ [x]) M hm2 h
        have et : (L ++ [x]).take m = L.take m := List.take_append_of_le_length hm
        refine ⟨x :: D, by rw [e1, List.append_assoc]; rfl, fun w hw => ?_, fun v hv => ?_⟩
        · rcases List.mem_cons.mp hw with rfl | hw
          · exact List.mem_cons_self
          · exact List.mem_cons_of_mem _ (e2 w hw)
        · rcases List.mem_cons.mp hv with rfl | hv
          · exact Or.inl List.mem_cons_self
          · rcases e3 v hv with q | q
            · exact Or.inl (List.mem_cons_of_mem _ q)
            · rw [et] at q; exact Or.inr q
end SXL
