/-! the candidates of a size: one asks all in both signs, the other the lesser ones in one sign: the same list -/
def sx_dt (a v : Nat → Int) : Nat → Int
  | 0 => 0
  | k + 1 => sx_dt a v k + a k * v k
def sx_sol (m n : Nat) (A : Nat → Nat → Int) (b : Nat → Int) (v : Nat → Int) : Bool := sx_all (fun r => decide (sx_dt (A r) v n = b r)) m
/-- which vectors may belong to list what -/
def sx_P (what m n : Nat) (A : Nat → Nat → Int) (b : Nat → Int) (v : Nat → Int) : Bool :=
  if what = 1 then sx_sol m n A b v else if what = 2 then decide (0 < sx_ld v n 0) && sx_sol m n A (fun _ => 0) v else decide (sx_ld v n 0 ≠ 0) && sx_sol m n A (fun _ => 0) v
def sx_rej (what n : Nat) (w v : Nat → Int) : Bool := sx_le n w v || (decide (what = 2) && sx_le n (sx_neg w) v)
def sx_z : Nat → Int := fun _ => 0
/-- what the list holds when all sizes below s are through -/
def sx_Cm (what m n : Nat) (A : Nat → Nat → Int) (b : Nat → Int) (L : List (Nat → Int)) (s : Nat) : Prop :=
  (∀ w, w ∈ L → sx_P what m n A b w = true ∧ sx_sz w n 0 < s ∧ (∀ j, n ≤ j → w j = 0) ∧ (what ≠ 2 → ∀ j, j < n → 0 ≤ w j)) ∧
  ∀ v, (∀ j, n ≤ j → v j = 0) → (what ≠ 2 → ∀ j, j < n → 0 ≤ v j) → sx_P what m n A b v = true → sx_sz v n 0 < s → ∃ w, w ∈ L ∧ sx_le n w v = true
section SXS
variable {what m n : Nat} {A : Nat → Nat → Int} {b : Nat → Int} {L M : List (Nat → Int)} {s cap : Nat} {u v w : Nat → Int}
theorem sx_dt_add {a : Nat → Int} : ∀ k, sx_dt a (sx_add v w) k = sx_dt a v k + sx_dt a w k := by
  intro k
  induction k with
  | zero => rfl
  | succ k ih =>
    show sx_dt a (sx_add v w) k + a k * (v k + w k) = sx_dt a v k + a k * v k + (sx_dt a w k + a k * w k)
    rw [ih, Int.mul_add]; omega
theorem sx_sol_iff : sx_sol m n A b v = true ↔ ∀ r, r < m → sx_dt (A r) v n = b r := by
  unfold sx_sol
  rw [sx_all_iff]
  exact ⟨fun h r hr => decide_eq_true_iff.mp (h r hr), fun h r hr => decide_eq_true_iff.mpr (h r hr)⟩
theorem sx_ld_neg : ∀ {k c : Nat}, sx_ld (sx_neg w) k c = - sx_ld w k c := by
  intro k
  induction k with
  | zero => intro c; rfl
  | succ k ih =>
    intro c
    show (if - w c ≠ 0 then - w c else sx_ld (sx_neg w) k (c + 1)) = - (if w c ≠ 0 then w c else sx_ld w k (c + 1))
    by_cases e : w c = 0
    · rw [if_neg (by omega), if_neg (by omega), ih]
    · rw [if_pos (by omega), if_pos e]
theorem sx_ld_congr : ∀ {k c : Nat}, (∀ j, c ≤ j → j < c + k → v j = w j) → sx_ld v k c = sx_ld w k c := by
  intro k
  induction k with
  | zero => intro c _; rfl
  | succ k ih =>
    intro c h
    show (if v c ≠ 0 then v c else sx_ld v k (c + 1)) = (if w c ≠ 0 then w c else sx_ld w k (c + 1))
    rw [h c (Nat.le_refl _) (by omega), ih (fun j h1 h2 => h j (by omega) (by omega))]
theorem sx_P2 : sx_P 2 m n A b v = true ↔ 0 < sx_ld v n 0 ∧ ∀ r, r < m → sx_dt (A r) v n = 0 := by
  unfold sx_P
  rw [if_neg (by decide), if_pos rfl, Bool.and_eq_true, decide_eq_true_iff, sx_sol_iff]
theorem sx_size_step (hw : what ≤ 2) (h : sx_Cm what m n A b L s) :
    sx_fo (sx_tR cap (sx_P what m n A b) (sx_rej what n)) (sx_E (decide (what = 2)) n 0 s sx_z) L = sx_fo (sx_tC cap (sx_le n) L.length) ((sx_E (decide (what = 2)) n 0 s sx_z).filter (sx_P what m n A b)) L := by
  have hE : ∀ v, v ∈ sx_E (decide (what = 2)) n 0 s sx_z → (∀ j, n ≤ j → v j = 0) ∧ sx_sz v n 0 = s := fun v hv => by
    obtain ⟨p1, p2, -⟩ := sx_E_mem.mp hv
    exact ⟨fun j hj => p1 j (by omega), p2⟩
  have key := sx_fo_eq (cap := cap) (P := sx_P what m n A b) (le := sx_le n) (rej := sx_rej what n) (L := L) (sx_E (decide (what = 2)) n 0 s sx_z) [] (fun _ _ w hw => by cases hw) (sx_E_pw n 0 s sx_z) (fun w v e => by unfold sx_rej; rw [e, Bool.true_or]) ?_ (fun w hw => by cases hw) ?_
  · rw [List.append_nil] at key
    exact key
  · intro v hv hP w hwL hr
    unfold sx_rej at hr
    rw [Bool.or_eq_true, Bool.and_eq_true, decide_eq_true_iff] at hr
    rcases hr with hr | ⟨e2, hr⟩
    · exact ⟨w, hwL, hr⟩
    · subst e2
      obtain ⟨v1, v2⟩ := sx_P2.mp hP
      obtain ⟨hPw, -, hzw, -⟩ := h.1 w hwL
      obtain ⟨w1, w2⟩ := sx_P2.mp hPw
      obtain ⟨r1, r2⟩ := sx_rest hr
      have hl : sx_ld (sx_add v w) n 0 = sx_ld v n 0 := sx_ld_rest (fun j _ hj => sx_le_iff.mp hr j (by omega)) v1 (by omega)
      have hpos : sx_sz w n 0 ≠ 0 := fun e => by
        have := sx_ld_zero.mpr (sx_sz_zero.mp e)
        omega
      obtain ⟨q, q1, q2⟩ := h.2 (sx_add v w) (fun j hj => by show v j + w j = 0; rw [(hE v hv).1 j hj, hzw j hj]; rfl) (fun e => absurd rfl e) (sx_P2.mpr ⟨by rw [hl]; exact v1, fun r hr2 => by rw [sx_dt_add, v2 r hr2, w2 r hr2]; rfl⟩) (by have := (hE v hv).2; omega)
      exact ⟨q, q1, sx_le_trans q2 r1⟩
  · intro v hv hP w hwE hPw hr
    have hwE : w ∈ sx_E (decide (what = 2)) n 0 s sx_z := by
      rcases hwE with q | q
      · cases q
      · exact q
    obtain ⟨a1, a2⟩ := hE v hv
    obtain ⟨b1, b2⟩ := hE w hwE
    unfold sx_rej at hr
    rw [Bool.or_eq_true, Bool.and_eq_true, decide_eq_true_iff] at hr
    rcases hr with hr | ⟨e2, hr⟩
    · funext j
      by_cases hj : j < n
      · exact sx_le_same hr (by omega) hj
      · rw [a1 j (by omega), b1 j (by omega)]
    · subst e2
      have e3 : sx_ld v n 0 = - sx_ld w n 0 := by
        rw [← sx_ld_neg]
        exact (sx_ld_congr fun j _ hj => sx_le_same hr (by rw [sx_sz_neg]; omega) (by omega)).symm
      have v1 := (sx_P2.mp hP).1
      have w1 := (sx_P2.mp hPw).1
      omega
theorem sx_size_Cm (hw : what ≤ 2) (h : sx_Cm what m n A b L s) (hM : sx_fo (sx_tC cap (sx_le n) L.length) ((sx_E (decide (what = 2)) n 0 s sx_z).filter (sx_P what m n A b)) L = (M, true)) : sx_Cm what m n A b M (s + 1) := by
  obtain ⟨D, rfl, h2, h3⟩ := sx_fo_C _ _ _ (Nat.le_refl _) hM
  refine ⟨fun w hw2 => ?_, fun v hz hp hP hs => ?_⟩
  · rcases List.mem_append.mp hw2 with q | q
    · obtain ⟨a1, a2, a3, a4⟩ := h.1 w q
      exact ⟨a1, by omega, a3, a4⟩
    · obtain ⟨q1, q2⟩ := List.mem_filter.mp (h2 w q)
      obtain ⟨p1, p2, p3⟩ := sx_E_mem.mp q1
      exact ⟨q2, by omega, fun j hj => p1 j (by omega), fun e j hj => p3 (by simp [e]) j (by omega) (by omega)⟩
  · by_cases e : sx_sz v n 0 < s
    · obtain ⟨w, a1, a2⟩ := h.2 v hz hp hP e
      exact ⟨w, List.mem_append_left _ a1, a2⟩
    · have hv : v ∈ sx_E (decide (what = 2)) n 0 s sx_z := sx_E_mem.mpr ⟨fun j hj => hz j (by omega), by omega, fun e2 j _ hj => hp (by simpa using e2) j (by omega)⟩
      rcases h3 v (List.mem_filter.mpr ⟨hv, hP⟩) with q | ⟨w, q1, q2⟩
      · exact ⟨v, List.mem_append_right _ q, sx_le_refl⟩
      · rw [List.take_length] at q1
        exact ⟨w, List.mem_append_left _ q1, q2⟩
/-! size by size -/
def sx_szs {σ : Type} (f : Nat → σ → σ × Bool) : Nat → Nat → σ → σ × Bool
  | 0, _, t => (t, true)
  | k + 1, s, t => if (f s t).2 = true then sx_szs f k (s + 1) (f s t).1 else ((f s t).1, false)
theorem sx_szs_succ {σ : Type} {f : Nat → σ → σ × Bool} {k s : Nat} {t : σ} : sx_szs f (k + 1) s t = if (f s t).2 = true then sx_szs f k (s + 1) (f s t).1 else ((f s t).1, false) := rfl
theorem sx_work_eq (hw : what ≤ 2) : ∀ (k s : Nat) (L : List (Nat → Int)), sx_Cm what m n A b L s →
    sx_szs (fun s L => sx_fo (sx_tR cap (sx_P what m n A b) (sx_rej what n)) (sx_E (decide (what = 2)) n 0 s sx_z) L) k s L = sx_szs (fun s L => sx_fo (sx_tC cap (sx_le n) L.length) ((sx_E (decide (what = 2)) n 0 s sx_z).filter (sx_P what m n A b)) L) k s L := by
  intro k
  induction k with
  | zero => intro s L _; rfl
  | succ k ih =>
    intro s L h
    rw [sx_szs_succ, sx_szs_succ, sx_size_step hw h]
    by_cases e : (sx_fo (sx_tC cap (sx_le n) L.length) ((sx_E (decide (what = 2)) n 0 s sx_z).filter (sx_P what m n A b)) L).2 = true
    · rw [if_pos e, if_pos e]
      exact ih (s + 1) _ (sx_size_Cm hw h (Prod.ext rfl e))
    · rw [if_neg e, if_neg e]
theorem sx_work_Cm (hw : what ≤ 2) : ∀ (k s : Nat) (L M : List (Nat → Int)), sx_Cm what m n A b L s →
    sx_szs (fun s L => sx_fo (sx_tC cap (sx_le n) L.length) ((sx_E (decide (what = 2)) n 0 s sx_z).filter (sx_P what m n A b)) L) k s L = (M, true) → sx_Cm what m n A b M (s + k) := by
  intro k
  induction k with
  | zero => intro s L M h e; have e2 : L = M := congrArg Prod.fst e; subst e2; exact h
  | succ k ih =>
    intro s L M h e
    rw [sx_szs_succ] at e
    by_cases e2 : (sx_fo (sx_tC cap (sx_le n) L.length) ((sx_E (decide (what = 2)) n 0 s sx_z).filter (sx_P what m n A b)) L).2 = true
    · rw [if_pos e2] at e
      have e3 := ih (s + 1) _ M (sx_size_Cm hw h (Prod.ext rfl e2)) e
      rw [show s + (k + 1) = s + 1 + k from by omega]
      exact e3
    · rw [if_neg e2] at e
      exact absurd (congrArg Prod.snd e) (by simp)
theorem sx_Cm_nil : sx_Cm what m n A b [] 0 := ⟨fun w hw => (by cases hw), fun v _ _ _ h => by omega⟩
end SXS
