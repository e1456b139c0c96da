/-! the search with looking ahead, as the class goes through it -/
def sx_lp {σ : Type} (f : Int → σ → σ × Bool) (step : Int) : Nat → Int → σ → σ × Bool
  | 0, _, t => (t, true)
  | m + 1, a, t => if (f a t).2 = true then sx_lp f step m (a + step) (f a t).1 else ((f a t).1, false)
def sx_first (sg ld last : Bool) (s : Nat) : Int := if (sg && ld) = true then -(s : Int) else if last = true then (s : Int) else 0
def sx_step (sg ld last : Bool) (s : Nat) : Int := if last = true then (if (sg && ld) = true ∧ s ≠ 0 then 2 * (s : Int) else 1) else 1
def sx_cnt (sg ld last : Bool) (s : Nat) : Nat := if last = true then (if (sg && ld) = true ∧ s ≠ 0 then 2 else 1) else (if (sg && ld) = true then 2 * s + 1 else s + 1)
def sx_fi {σ : Type} (sg : Bool) (cb : Nat → Nat → (Nat → Int) → Bool) (tk : σ → (Nat → Int) → σ × Bool) : Nat → Nat → Nat → Bool → (Nat → Int) → σ → σ × Bool
  | 0, c, s, _, v, t => if cb c s v = true then tk t v else (t, true)
  | k + 1, c, s, ld, v, t => if cb c s v = true then sx_lp (fun a t => sx_fi sg cb tk k (c + 1) (s - a.natAbs) (ld || decide (a ≠ 0)) (sx_up v c a) t) (sx_step sg ld (decide (k = 0)) s) (sx_cnt sg ld (decide (k = 0)) s) (sx_first sg ld (decide (k = 0)) s) t else (t, true)
section SXF
variable {σ : Type} {sg : Bool} {cb : Nat → Nat → (Nat → Int) → Bool} {tk : σ → (Nat → Int) → σ × Bool} {sol : (Nat → Int) → Bool}
theorem sx_lp_succ {f : Int → σ → σ × Bool} {step a : Int} {m : Nat} {t : σ} : sx_lp f step (m + 1) a t = if (f a t).2 = true then sx_lp f step m (a + step) (f a t).1 else ((f a t).1, false) := rfl
theorem sx_fo_one {x : Nat → Int} {t : σ} : sx_fo tk [x] t = tk t x := by
  rw [sx_fo_cons]
  by_cases e : (tk t x).2 = true
  · rw [if_pos e]; exact Prod.ext rfl e.symm
  · rw [if_neg e]; exact Prod.ext rfl (by simpa using e : (tk t x).2 = false).symm
theorem sx_lp_fl {f : Int → σ → σ × Bool} {g : Int → List (Nat → Int)} : ∀ (m : Nat) (lo : Int) (t : σ), (∀ a, lo ≤ a → a < lo + m → ∀ t, f a t = sx_fo tk (g a) t) → sx_lp f 1 m lo t = sx_fo tk (sx_fl g m lo) t := by
  intro m
  induction m with
  | zero => intro lo t _; rfl
  | succ m ih =>
    intro lo t h
    show _ = sx_fo tk (g lo ++ sx_fl g m (lo + 1)) t
    rw [sx_lp_succ, sx_fo_app, h lo (Int.le_refl _) (by omega)]
    by_cases e : (sx_fo tk (g lo) t).2 = true
    · rw [if_pos e, if_pos e]
      exact ih (lo + 1) _ (fun a p q => h a (by omega) (by omega))
    · rw [if_neg e, if_neg e]
      exact Prod.ext rfl (by simpa using e : (sx_fo tk (g lo) t).2 = false).symm
theorem sx_fi_eq {n : Nat} (hs : ∀ k c s ld v w, c + k = n → (∀ j, c ≤ j → v j = 0) → w ∈ sx_F sg ld k c s v → sol w = true → cb c s v = true) (h0 : ∀ s v, cb n s v = true → s = 0 ∧ sol v = true) :
    ∀ (k c s : Nat) (ld : Bool) (v : Nat → Int) (t : σ), c + k = n → (∀ j, c ≤ j → v j = 0) → sx_fi sg cb tk k c s ld v t = sx_fo tk ((sx_F sg ld k c s v).filter sol) t := by
  intro k
  induction k with
  | zero =>
    intro c s ld v t hc hv
    have hc' : c = n := by omega
    subst hc'
    show (if cb c s v = true then tk t v else (t, true)) = sx_fo tk ((if s = 0 then [v] else []).filter sol) t
    by_cases e : cb c s v = true
    · obtain ⟨e1, e2⟩ := h0 s v e
      rw [if_pos e, if_pos e1, List.filter_cons_of_pos e2]
      exact sx_fo_one.symm
    · rw [if_neg e]
      by_cases e1 : s = 0
      · have e2 : ¬ sol v = true := fun q => e (hs 0 c s ld v v (by omega) hv (by show v ∈ (if s = 0 then [v] else []); rw [if_pos e1]; exact List.mem_singleton.mpr rfl) q)
        rw [if_pos e1, List.filter_cons_of_neg e2]
        rfl
      · rw [if_neg e1]; rfl
  | succ k ih =>
    intro c s ld v t hc hv
    show (if cb c s v = true then _ else (t, true)) = _
    by_cases e : cb c s v = true
    · rw [if_pos e]
      show _ = sx_fo tk ((sx_fl (fun a => sx_F sg (ld || decide (a ≠ 0)) k (c + 1) (s - a.natAbs) (sx_up v c a)) (if sg && ld then 2 * s + 1 else s + 1) (if sg && ld then -(s : Int) else 0)).filter sol) t
      rw [sx_fl_filter]
      have hf : ∀ (a : Int) (t : σ), sx_fi sg cb tk k (c + 1) (s - a.natAbs) (ld || decide (a ≠ 0)) (sx_up v c a) t = sx_fo tk ((sx_F sg (ld || decide (a ≠ 0)) k (c + 1) (s - a.natAbs) (sx_up v c a)).filter sol) t := fun a t => ih (c + 1) _ _ _ t (by omega) (fun j hj => by rw [sx_up_ne (by omega)]; exact hv j (by omega))
      by_cases hk : k = 0
      · subst hk
        have hemp : ∀ a : Int, s ≠ a.natAbs → a.natAbs ≤ s → (sx_F sg (ld || decide (a ≠ 0)) 0 (c + 1) (s - a.natAbs) (sx_up v c a)).filter sol = [] := fun a p q => by
          show (if s - a.natAbs = 0 then [sx_up v c a] else []).filter sol = []
          rw [if_neg (by omega)]; rfl
        by_cases hl : (sg && ld) = true
        · by_cases hz : s = 0
          · subst hz
            rw [show sx_step sg ld (decide (0 = 0)) 0 = 1 from by simp [sx_step], show sx_cnt sg ld (decide (0 = 0)) 0 = 1 from by simp [sx_cnt], show sx_first sg ld (decide (0 = 0)) 0 = 0 from by simp [sx_first, hl]]
            rw [show (if (sg && ld) = true then 2 * 0 + 1 else 0 + 1) = 1 from by simp, show (if (sg && ld) = true then -((0 : Nat) : Int) else 0) = 0 from by simp]
            exact sx_lp_fl 1 0 t (fun a _ _ t => hf a t)
          · rw [show sx_step sg ld (decide (0 = 0)) s = 2 * (s : Int) from by simp [sx_step, hl, hz], show sx_cnt sg ld (decide (0 = 0)) s = 2 from by simp [sx_cnt, hl, hz], show sx_first sg ld (decide (0 = 0)) s = -(s : Int) from by simp [sx_first, hl]]
            rw [if_pos hl, if_pos hl]
            have e2 : 2 * s + 1 = (2 * s - 1 + 1) + 1 := by omega
            rw [e2]
            show _ = sx_fo tk ((sx_F sg (ld || decide (-(s : Int) ≠ 0)) 0 (c + 1) (s - (-(s : Int)).natAbs) (sx_up v c (-(s : Int)))).filter sol ++ sx_fl _ (2 * s - 1 + 1) (-(s : Int) + 1)) t
            rw [sx_fl_skip (2 * s - 1) 1 (-(s : Int) + 1) (fun a p q => hemp a (by omega) (by omega))]
            have e3 : -(s : Int) + 1 + ((2 * s - 1 : Nat) : Int) = (s : Int) := by omega
            have e4 : -(s : Int) + 2 * (s : Int) = (s : Int) := by omega
            rw [e3, sx_fo_app, sx_lp_succ, hf, e4]
            by_cases e5 : (sx_fo tk ((sx_F sg (ld || decide (-(s : Int) ≠ 0)) 0 (c + 1) (s - (-(s : Int)).natAbs) (sx_up v c (-(s : Int)))).filter sol) t).2 = true
            · rw [if_pos e5, if_pos e5]
              have key := sx_lp_fl (tk := tk) (f := fun a t => sx_fi sg cb tk 0 (c + 1) (s - a.natAbs) (ld || decide (a ≠ 0)) (sx_up v c a) t) 1 (s : Int) (sx_fo tk ((sx_F sg (ld || decide (-(s : Int) ≠ 0)) 0 (c + 1) (s - (-(s : Int)).natAbs) (sx_up v c (-(s : Int)))).filter sol) t).1 (fun a _ _ t => hf a t)
              rw [← key]
              rfl
            · rw [if_neg e5, if_neg e5]
              exact Prod.ext rfl (by simpa using e5 : _ = false).symm
        · rw [show sx_step sg ld (decide (0 = 0)) s = 1 from by simp [sx_step, hl], show sx_cnt sg ld (decide (0 = 0)) s = 1 from by simp [sx_cnt, hl], show sx_first sg ld (decide (0 = 0)) s = (s : Int) from by simp [sx_first, hl]]
          rw [if_neg hl, if_neg hl, sx_fl_skip s 1 0 (fun a p q => hemp a (by omega) (by omega)), Int.zero_add]
          exact sx_lp_fl 1 (s : Int) t (fun a _ _ t => hf a t)
      · rw [show sx_step sg ld (decide (k = 0)) s = 1 from by simp [sx_step, hk], show sx_cnt sg ld (decide (k = 0)) s = (if (sg && ld) = true then 2 * s + 1 else s + 1) from by simp [sx_cnt, hk], show sx_first sg ld (decide (k = 0)) s = (if (sg && ld) = true then -(s : Int) else 0) from by simp [sx_first, hk]]
        exact sx_lp_fl _ _ t (fun a _ _ t => hf a t)
    · rw [if_neg e]
      have : (sx_F sg ld (k + 1) c s v).filter sol = [] := List.filter_eq_nil_iff.mpr fun w hw q => e (hs (k + 1) c s ld v w hc hv hw q)
      rw [this]
      rfl
end SXF
