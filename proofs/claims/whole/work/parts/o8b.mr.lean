/-! the end of a row in the reference -/
section MRW
variable {j R nv ns : Nat} {kk pp vv : Nat → Int32} {sd sg : Int} {x4 wr : Int32} {dl dn ds : Nat → Int32}
theorem mo_74e (hj : j < 301) {kj : Int} (hkj : kj = 6 ∨ kj = 0) (hkk : kk j = iI kj) : sm_tot (fn_MO_build kk pp vv) (74, iI j, iI sg, iI sd, x4, 0, 0, 0, 0, 0, wr, iI nv, iI ns, iI R, dl, dn, ds) = sm_tot (fn_MO_build kk pp vv) (409, iI j, 0, 0, x4, 0, 0, 0, 0, 0, wr, iI nv, iI ns, iI R, dl, dn, ds) := by
  have i2 : ((j : Int)).toNat = j := by omega
  have g1 : ¬ (iI (j : Int) < 0 ∨ 301 ≤ (iI (j : Int)).toNatClampNeg) := ii_g (by omega) (by omega) (by omega)
  rw [sm_tot_u, fn_MO_build_q74]
  unfold fn_MO_build_b74
  simp only [if_pos g1]
  rw [ii_nat (a := (j : Int)) (by omega) (by omega), i2, hkk]
  rcases hkj with rfl | rfl
  · rw [if_pos (show iI 6 = 6 from rfl), sm_ev_l]
  · rw [if_neg (show ¬ iI 0 = 6 by decide), if_pos (show iI 0 = 0 from rfl), sm_ev_l]
theorem mo_409 (hR : R < 4) (hj : j < 301) {ri : Nat} (hri : ri < 301) {rl : Int} (hrl : rl = 7 ∨ rl = 8 ∨ rl = 9) (hrk : kk ri = iI rl) (hn : nv + ns ≤ 6) : sm_tot (fn_MO_build kk pp vv) (409, iI j, 0, 0, iI ri, 0, 0, 0, 0, 0, wr, iI nv, iI ns, iI R, dl, dn, ds) = if rl ≠ 7 ∧ nv + ns = 6 then some (iI 2, pp ri, iI nv, iI ns, iI R, dl, dn, upd ds R (iI (if rl = 7 then 0 else if rl = 8 then 1 else -1))) else sm_tot (fn_MO_build kk pp vv) (497, iI j, 0, 0, iI ri, 0, iI ((0 : Nat) : Int), 0, 0, 0, wr, iI nv, iI ((if rl = 7 then ns else ns + 1 : Nat) : Int), iI R, dl, dn, upd ds R (iI (if rl = 7 then 0 else if rl = 8 then 1 else -1))) := by
  have iri : ((ri : Int)).toNat = ri := by omega
  have iR : ((R : Int)).toNat = R := by omega
  have gri : ¬ (iI (ri : Int) < 0 ∨ 301 ≤ (iI (ri : Int)).toNatClampNeg) := ii_g (by omega) (by omega) (by omega)
  have e494 : ∀ (ns : Nat) u, sm_tot (fn_MO_build kk pp vv) (494, iI j, 0, 0, iI ri, 0, 0, 0, 0, 0, wr, iI nv, iI ns, iI R, dl, dn, u) = sm_tot (fn_MO_build kk pp vv) (497, iI j, 0, 0, iI ri, 0, iI ((0 : Nat) : Int), 0, 0, 0, wr, iI nv, iI ns, iI R, dl, dn, u) := fun ns u => by
    rw [sm_tot_u, fn_MO_build_q494]
    rfl
  have e449 : ∀ z : Int, sm_tot (fn_MO_build kk pp vv) (449, iI j, 0, 0, iI ri, iI rl, 0, 0, iI z, iI R, wr, iI nv, iI ns, iI R, dl, dn, ds) = if rl ≠ 7 ∧ nv + ns = 6 then some (iI 2, pp ri, iI nv, iI ns, iI R, dl, dn, upd ds R (iI z)) else sm_tot (fn_MO_build kk pp vv) (497, iI j, 0, 0, iI ri, 0, iI ((0 : Nat) : Int), 0, 0, 0, wr, iI nv, iI ((if rl = 7 then ns else ns + 1 : Nat) : Int), iI R, dl, dn, upd ds R (iI z)) := fun z => by
    rw [sm_tot_u, fn_MO_build_q449]
    unfold fn_MO_build_b449
    rw [if_pos (ii_g (a := (R : Int)) (N := 4) (by omega) (by omega) (by omega)), ii_nat (a := (R : Int)) (by omega) (by omega), iR, ie_n (show (iI rl = 7) = (rl = 7) by rw [il_7, ii_eq (by omega) (by omega) (by omega) (by omega)]), ii_add, ie_n (show (iI ((nv : Int) + (ns : Int)) = 6) = (nv + ns = 6) by rw [il_6, ii_eq (by omega) (by omega) (by omega) (by omega)]; exact propext ⟨fun q => by omega, fun q => by omega⟩)]
    by_cases q : rl = 7
    · rw [if_pos q, sm_ev_l, e494, if_neg (fun x => x.1 q), if_pos q]
    · rw [if_neg q]
      by_cases q2 : nv + ns = 6
      · rw [if_pos q2, if_pos gri, if_pos (show rl ≠ 7 ∧ nv + ns = 6 from ⟨q, q2⟩), ii_nat (a := (ri : Int)) (by omega) (by omega), iri, sm_tot_u (st := fn_MO_fault 2 (pp ri)), fn_MO_fault_q0]
        rfl
      · rw [if_neg q2, sm_ev_l, if_neg (fun x => q2 x.2), if_neg q, ii_s, e494]
  rw [sm_tot_u, fn_MO_build_q409]
  unfold fn_MO_build_b409
  rw [if_pos gri, ii_nat (a := (ri : Int)) (by omega) (by omega), iri, hrk]
  rcases hrl with rfl | rfl | rfl
  · rw [if_neg (show ¬ iI 7 = 8 by decide), if_neg (show ¬ iI 7 = 9 by decide), sm_ev_l]
    exact e449 0
  · rw [if_pos (show iI 8 = 8 from rfl), sm_ev_l]
    exact e449 1
  · rw [if_neg (show ¬ iI 9 = 8 by decide), if_pos (show iI 9 = 9 from rfl), sm_ev_l]
    exact e449 (-1)
theorem mo_lg {V : Nat → Int} {A : Nat → Int} {b : Int} (hn : nv ≤ 6) (h0 : ∀ c, c < 6 → V c = A c) (h6 : V 6 = b) (hz : ∀ c, nv ≤ c → A c = 0) : sx_alf (fun c => decide ((V c).natAbs ≤ if c = 6 then 200 else 20)) 7 0 = !(bj_lg nv A b) := by
  cases e : bj_lg nv A b with
  | false =>
    obtain ⟨l1, l2⟩ := bj_lg_f e
    rw [Bool.not_false, sx_alf_iff]
    intro c _ hc
    refine decide_eq_true ?_
    by_cases q : c = 6
    · rw [if_pos q, q, h6]; exact l2
    · rw [if_neg q, h0 c (by omega)]
      rcases Nat.lt_or_ge c nv with h1 | h1
      · exact l1 c h1
      · rw [hz c h1]; decide
  | true =>
    rw [Bool.not_true]
    cases e2 : sx_alf (fun c => decide ((V c).natAbs ≤ if c = 6 then 200 else 20)) 7 0 with
    | false => rfl
    | true =>
      exfalso
      rw [sx_alf_iff] at e2
      rcases bj_lg_t e with ⟨c, c1, c2⟩ | c2
      · have := of_decide_eq_true (e2 c (by omega) (by omega))
        rw [if_neg (show ¬ c = 6 by omega), h0 c (by omega)] at this
        omega
      · have := of_decide_eq_true (e2 6 (by omega) (by omega))
        rw [if_pos rfl, h6] at this
        omega
/-- a new row, or the end -/
theorem mo_38 (hj : j < 301) {k : Int} (hk : 0 ≤ k ∧ k ≤ 10) (hkk : kk j = iI k) (hR : R ≤ 4) : sm_tot (fn_MO_build kk pp vv) (38, iI j, 0, 0, 0, 0, 0, 0, 0, 0, wr, iI nv, iI ns, iI R, dl, dn, ds) = if k = 0 then some (0, wr, iI nv, iI ns, iI R, dl, dn, ds) else if R = 4 then some (iI 2, pp j, iI nv, iI ns, iI R, dl, dn, ds) else sm_tot (fn_MO_build kk pp vv) (74, iI j, iI 1, iI 1, iI j, 0, 0, 0, 0, 0, wr, iI nv, iI ns, iI R, dl, dn, ds) := by
  have i2 : ((j : Int)).toNat = j := by omega
  have g1 : ¬ (iI (j : Int) < 0 ∨ 301 ≤ (iI (j : Int)).toNatClampNeg) := ii_g (by omega) (by omega) (by omega)
  rw [sm_tot_u, fn_MO_build_q38]
  unfold fn_MO_build_b38
  rw [if_pos g1, ii_nat (a := (j : Int)) (by omega) (by omega), i2, hkk, ie_n (show (iI k = 0) = (k = 0) by rw [il_0, ii_eq (by omega) (by omega) (by omega) (by omega)]), ie_n (show (iI (R : Int) = 4) = (R = 4) by rw [il_4, ii_eq (by omega) (by omega) (by omega) (by omega)]; exact propext ⟨fun q => by omega, fun q => by omega⟩)]
  by_cases q : k = 0
  · rw [if_pos q, if_pos q, sm_ev_r]
  · rw [if_neg q, if_neg q]
    by_cases q2 : R = 4
    · rw [if_pos q2, if_pos q2, if_pos (show ¬ (iI (j : Int) < 0 ∨ 301 ≤ j) by rw [il_0, ii_lt (by omega) (by omega) (by omega) (by omega)]; omega), sm_tot_u (st := fn_MO_fault 2 (pp j)), fn_MO_fault_q0]
      rfl
    · rw [if_neg q2, if_neg q2, sm_ev_l]
      rfl
end MRW
