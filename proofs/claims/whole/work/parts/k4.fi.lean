/-! the class's fill, in whole numbers -/
def se_vp (cv : Nat → Int32) (v : Nat → Int) : Prop := ∀ j, j < 6 → cv j = iI (v j)
def se_lp (m n : Nat) (A : Nat → Nat → Int) (b : Nat → Int) (v : Nat → Int) (cl : Nat → Int32) : Prop := ∀ r, r < m → cl r = iI (b r - sx_dt (A r) v n)
def se_sys (m n : Nat) (A lo hi : Nat → Nat → Int) (b : Nat → Int) (ca clo chi : Nat → Nat → Int32) : Prop :=
  m ≤ 4 ∧ n ≤ 6 ∧ (∀ r c, r < m → c < n → ca r c = iI (A r c) ∧ (A r c).natAbs ≤ 20) ∧ (∀ r, r < m → (b r).natAbs ≤ 200) ∧ (∀ r c, r < m → c ≤ n → clo r c = iI (lo r c) ∧ chi r c = iI (hi r c)) ∧ ∀ r c, r < m → c < n → (lo r c).natAbs ≤ 20 ∧ (hi r c).natAbs ≤ 20
def sx_lpok (s : Nat) (step : Int) : Nat → Int → Prop
  | 0, a => (s : Int) < a
  | q + 1, a => -(s : Int) ≤ a ∧ a ≤ s ∧ sx_lpok s step q (a + step)
theorem bI_z {x : Bool} : (bI x = 0) = (x = false) := by cases x <;> simp [bI]
theorem bI_01 {x : Bool} : bI x = 0 ∨ bI x = 1 := by cases x <;> simp [bI]
theorem ii_abs {a : Int} (h : a.natAbs ≤ 1000000) : (if (0 : Int32) ≤ iI a then iI a else 0 - iI a) = iI (a.natAbs : Int) := by
  simp (disch := omega) only [il_0, ii_le, ii_sub]
  split
  · congr 1; omega
  · congr 1; omega
theorem sx_lpok_one {s : Nat} : ∀ (q : Nat) (a : Int), -(s : Int) ≤ a → a + q = s + 1 → sx_lpok s 1 q a := by
  intro q
  induction q with
  | zero => intro a h1 h2; show (s : Int) < a; omega
  | succ q ih => intro a h1 h2; exact ⟨h1, by omega, ih (a + 1) (by omega) (by omega)⟩
theorem sx_lpok_init {s : Nat} {sg ld last : Bool} : sx_lpok s (sx_step sg ld last s) (sx_cnt sg ld last s) (sx_first sg ld last s) := by
  unfold sx_step sx_cnt sx_first
  cases last with
  | true =>
    by_cases h : (sg && ld) = true
    · by_cases hz : s = 0
      · subst hz
        simp only [h, if_true, ne_eq, not_true, and_false, if_false]
        exact sx_lpok_one 1 _ (by omega) (by omega)
      · simp only [h, if_true, ne_eq, hz, not_false_eq_true, and_self]
        exact ⟨by omega, by omega, by omega, by omega, show (s : Int) < _ by omega⟩
    · simp only [h, if_true, if_false, false_and, Bool.false_eq_true]
      exact sx_lpok_one 1 _ (by omega) (by omega)
  | false =>
    by_cases h : (sg && ld) = true
    · simp only [h, if_true, if_false, Bool.false_eq_true]
      exact sx_lpok_one _ _ (by omega) (by omega)
    · simp only [h, if_false, Bool.false_eq_true]
      exact sx_lpok_one _ _ (by omega) (by omega)
section SEF
variable {m n m' : Nat} {sg : Bool} {A lo hi : Nat → Nat → Int} {b : Nat → Int} {ca clo chi : Nat → Nat → Int32}
/-- what one call of fill does -/
def se_fok (m n : Nat) (sg : Bool) (m' : Nat) (A lo hi : Nat → Nat → Int) (b : Nat → Int) (k : Nat) (rec : Int32 → Int32 → Int32 → Int32 → Int32 → (Nat → Int32) → (Nat → Int32) → (Nat → Int32) → Option (Int32 × Int32 × Int32 × (Nat → Int32) × (Nat → Int32) × (Nat → Int32))) : Prop :=
  ∀ (c s : Nat) (ld : Bool) (v : Nat → Int) (L : List (Nat → Int)) (cv cl cn : Nat → Int32), c + k = n → s ≤ 16 → (∀ j, c ≤ j → v j = 0) → (∀ j, (v j).natAbs ≤ 16) → se_vp cv v → se_lp m n A b v cl → m' ≤ L.length → L.length ≤ 2000 → vl_pic n L cn → vl_rng n L →
    ∃ cv' cl' cn', rec (iI c) (iI s) (bI ld) 1 (iI L.length) cv cl cn = some (bI (sx_fi sg (sx_cb m n A b lo hi) (sx_tC 2000 (sx_le n) m') k c s ld v L).2, bI (sx_fi sg (sx_cb m n A b lo hi) (sx_tC 2000 (sx_le n) m') k c s ld v L).2, iI (sx_fi sg (sx_cb m n A b lo hi) (sx_tC 2000 (sx_le n) m') k c s ld v L).1.length, cv', cl', cn') ∧
      se_vp cv' v ∧ se_lp m n A b v cl' ∧ vl_pic n (sx_fi sg (sx_cb m n A b lo hi) (sx_tC 2000 (sx_le n) m') k c s ld v L).1 cn' ∧ vl_rng n (sx_fi sg (sx_cb m n A b lo hi) (sx_tC 2000 (sx_le n) m') k c s ld v L).1 ∧ m' ≤ (sx_fi sg (sx_cb m n A b lo hi) (sx_tC 2000 (sx_le n) m') k c s ld v L).1.length ∧ (sx_fi sg (sx_cb m n A b lo hi) (sx_tC 2000 (sx_le n) m') k c s ld v L).1.length ≤ 2000
theorem se_lrng (h : se_sys m n A lo hi b ca clo chi) {v : Nat → Int} (hv : ∀ j, (v j).natAbs ≤ 16) {r : Nat} (hr : r < m) : (b r - sx_dt (A r) v n).natAbs ≤ 1000000 := by
  obtain ⟨h1, h2, h3, h4, h5, h6⟩ := h
  have a1 := h4 r hr
  have a2 := sx_dt_bd (a' := A r) (v := v) (n := n) (M := 16) (fun j hj => (h3 r j hr hj).2) (fun j _ => hv j) n (Nat.le_refl _)
  have a3 : n * (20 * 16) ≤ 6 * (20 * 16) := Nat.mul_le_mul_right _ h2
  omega
theorem se_cb (h : se_sys m n A lo hi b ca clo chi) {v : Nat → Int} {c s : Nat} {cl : Nat → Int32} (hc : c ≤ n) (hs : s ≤ 16) (hv : ∀ j, (v j).natAbs ≤ 16) (hl : se_lp m n A b v cl) : sm_tot (fn_SE_canBeFilled (iI c) (iI s) (iI m) (iI n) cl clo chi) (0, 0) = some (bI (sx_cb m n A b lo hi c s v)) := by
  have hr := fun r hr => se_lrng h hv (r := r) hr
  obtain ⟨h1, h2, h3, h4, h5, h6⟩ := h
  exact se_can h1 h2 hc hs hl (fun r hr => (h5 r c hr hc).1) (fun r hr => (h5 r c hr hc).2) hr (fun hcn r hr => (h6 r c hr hcn).1) (fun hcn r hr => (h6 r c hr hcn).2)
theorem se_tC {L : List (Nat → Int)} {v : Nat → Int} (h1 : m' ≤ L.length) (h2 : L.length ≤ 2000) (hr : vl_rng n L) (hv : ∀ j, (v j).natAbs ≤ 16) : vl_rng n (sx_tC 2000 (sx_le n) m' L v).1 ∧ m' ≤ (sx_tC 2000 (sx_le n) m' L v).1.length ∧ (sx_tC 2000 (sx_le n) m' L v).1.length ≤ 2000 := by
  unfold sx_tC
  split
  · exact ⟨hr, h1, h2⟩
  · split
    · exact ⟨hr, h1, h2⟩
    · refine ⟨fun k hk c hc => ?_, by rw [List.length_append]; omega, by rw [List.length_append]; show L.length + 1 ≤ 2000; omega⟩
      have hk' : k < L.length + 1 := by rw [List.length_append] at hk; exact hk
      by_cases e : k = L.length
      · subst e
        rw [List.getD_eq_getElem?_getD, List.getElem?_append_right (Nat.le_refl _), Nat.sub_self]
        exact Nat.le_trans (hv c) (by omega)
      · rw [List.getD_eq_getElem?_getD, List.getElem?_append_left (by omega), ← List.getD_eq_getElem?_getD]
        exact hr k (by omega) c hc
/-- no column is left -/
theorem se_fill_0 (h : se_sys m n A lo hi b ca clo chi) {rec : Int32 → Int32 → Int32 → Int32 → Int32 → (Nat → Int32) → (Nat → Int32) → (Nat → Int32) → Option (Int32 × Int32 × Int32 × (Nat → Int32) × (Nat → Int32) × (Nat → Int32))} :
    se_fok m n sg m' A lo hi b 0 (fun a1 a2 a3 th tot cv cl cn => sm_tot (fn_SE_fill_vl rec a1 a2 a3 (iI m) (iI n) (bI sg) (iI n) (iI m') clo chi ca) (0, 0, 0, 0, 0, 0, 0, 0, 0, th, tot, cv, cl, cn)) := by
  intro c s ld v L cv cl cn hc hs hz hv hcv hcl hm hL hp hr
  have hn := h.2.1
  have hcb := se_cb h (c := c) (s := s) (by omega) hs hv hcl
  obtain ⟨cn', t1, t2⟩ := vl_take (m := m') (th := 1) hn hL hm hp hr (fun j hj => hcv j (by omega)) (fun j _ => Nat.le_trans (hv j) (by omega))
  obtain ⟨u1, u2, u3⟩ := se_tC (n := n) hm hL hr hv
  show ∃ cv' cl' cn', sm_tot _ _ = some (bI (if sx_cb m n A b lo hi c s v = true then sx_tC 2000 (sx_le n) m' L v else (L, true)).2, bI (if sx_cb m n A b lo hi c s v = true then sx_tC 2000 (sx_le n) m' L v else (L, true)).2, iI (if sx_cb m n A b lo hi c s v = true then sx_tC 2000 (sx_le n) m' L v else (L, true)).1.length, cv', cl', cn') ∧ se_vp cv' v ∧ se_lp m n A b v cl' ∧ vl_pic n (if sx_cb m n A b lo hi c s v = true then sx_tC 2000 (sx_le n) m' L v else (L, true)).1 cn' ∧ vl_rng n (if sx_cb m n A b lo hi c s v = true then sx_tC 2000 (sx_le n) m' L v else (L, true)).1 ∧ m' ≤ (if sx_cb m n A b lo hi c s v = true then sx_tC 2000 (sx_le n) m' L v else (L, true)).1.length ∧ (if sx_cb m n A b lo hi c s v = true then sx_tC 2000 (sx_le n) m' L v else (L, true)).1.length ≤ 2000
  by_cases e : sx_cb m n A b lo hi c s v = true
  · rw [if_pos e]
    refine ⟨cv, cl, cn', ?_, hcv, hcl, t2, u1, u2, u3⟩
    rw [sm_tot_u, fn_SE_fill_vl_q0]
    unfold fn_SE_fill_vl_b0
    rw [hcb, e, Option.bind_some, bI_1, if_neg (by decide)]
    simp (disch := omega) only [ii_lt, if_neg]
    rw [t1, Option.bind_some, if_pos bI_01, sm_ev_r]
    cases (sx_tC 2000 (sx_le n) m' L v).2 <;> rfl
  · rw [if_neg e]
    refine ⟨cv, cl, cn, ?_, hcv, hcl, hp, hr, hm, hL⟩
    rw [sm_tot_u, fn_SE_fill_vl_q0]
    unfold fn_SE_fill_vl_b0
    rw [hcb, show sx_cb m n A b lo hi c s v = false from by simpa using e, Option.bind_some, bI_0, if_pos rfl, sm_ev_r]
    rfl
end SEF
