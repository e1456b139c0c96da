/-! the reference's put and work -/
section MP
variable {what n : Nat} {cw cs cl : Nat → Int32} {v : Nat → Int} {L : List (Nat → Int)}
theorem mo_put_l (hw : what ≤ 2) (hn : n ≤ 6) (hL : L.length < 2000) (hs : cs what = iI L.length) (hv : ∀ c, c < n → cw c = iI (v c) ∧ (v c).natAbs ≤ 100) :
    ∀ d c (u : Nat → Int32), c + d = n → ∃ u', sm_tot (fn_MO_put (iI what) (iI n) cw) (2, iI c, cs, u) = some (upd cs what (iI ((L.length + 1 : Nat) : Int)), u') ∧ (∀ q, q < 12000 * what + 6 * L.length + c ∨ 12000 * what + 6 * L.length + n ≤ q → u' q = u q) ∧ (∀ j, c ≤ j → j < n → u' (12000 * what + 6 * L.length + j) = iI (v j)) := by
  have i0 : ((what : Int)).toNat = what := by omega
  intro d
  induction d with
  | zero =>
    intro c u hc
    have e : c = n := by omega
    subst e
    refine ⟨u, ?_, fun _ _ => rfl, fun j h1 h2 => by omega⟩
    rw [sm_tot_u, fn_MO_put_q2]
    unfold fn_MO_put_b2
    simp (disch := omega) only [il_0, il_1, ii_add, ii_le, ii_lt, ii_nat, i0, hs, if_pos, sm_ev_r]
    rfl
  | succ d ih =>
    intro c u hc
    obtain ⟨h1, h2⟩ := hv c (by omega)
    have i1 : (12000 * (what : Int) + 6 * (L.length : Int) + (c : Int)).toNat = 12000 * what + 6 * L.length + c := by omega
    have i2 : ((c : Int)).toNat = c := by omega
    obtain ⟨u', a1, a2, a3⟩ := ih (c + 1) (upd u (12000 * what + 6 * L.length + c) (iI (v c))) (by omega)
    refine ⟨u', ?_, fun q hq => ?_, fun j h3 h4 => ?_⟩
    · rw [← a1, sm_tot_u, fn_MO_put_q2]
      unfold fn_MO_put_b2
      simp (disch := omega) only [il_0, il_1, il_6, il_12000, ii_le, ii_lt, ii_add, ii_mul, ii_nat, i0, i1, i2, h1, hs, ii_byte, if_pos, if_neg, sm_ev_l]
      rfl
    · rw [a2 q (by omega)]
      exact if_neg (by omega)
    · by_cases e : j = c
      · subst e
        rw [a2 _ (by omega)]
        exact if_pos rfl
      · exact a3 j (by omega) h4
theorem mo_put (hw : what ≤ 2) (hn : n ≤ 6) (hL : L.length < 2000) (hs : cs what = iI L.length) (hp : mo_pic what n L cl) (hv : ∀ c, c < n → cw c = iI (v c) ∧ (v c).natAbs ≤ 100) :
    ∃ u', sm_tot (fn_MO_put (iI what) (iI n) cw) (0, 0, cs, cl) = some (upd cs what (iI ((L.length + 1 : Nat) : Int)), u') ∧ mo_pic what n (L ++ [v]) u' ∧ ∀ q, q < 12000 * what ∨ 12000 * what + 12000 ≤ q → u' q = cl q := by
  obtain ⟨u', a1, a2, a3⟩ := mo_put_l hw hn hL hs hv n 0 cl (by omega)
  refine ⟨u', ?_, fun k hk c hc => ?_, fun q hq => a2 q (by omega)⟩
  · rw [← a1, sm_tot_u, fn_MO_put_q0]
    rfl
  · have hk' : k < L.length + 1 := by rw [List.length_append] at hk; exact hk
    by_cases e : k = L.length
    · subst e
      rw [a3 c (by omega) hc]
      congr 1
      rw [List.getD_eq_getElem?_getD, List.getElem?_append_right (Nat.le_refl _), Nat.sub_self]
      rfl
    · rw [a2 _ (by omega), hp k (by omega) c hc]
      congr 1
      rw [List.getD_eq_getElem?_getD, List.getD_eq_getElem?_getD, List.getElem?_append_left (by omega)]
end MP
