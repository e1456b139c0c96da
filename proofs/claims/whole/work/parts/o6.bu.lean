/-! the slacks; the class's builder, a word at a time -/
def bj_c (sgn : Nat → Int) : Nat → Nat
  | 0 => 0
  | r + 1 => bj_c sgn r + if sgn r = 0 then 0 else 1
section BJC
variable {sgn : Nat → Int}
theorem bj_c_s {r : Nat} : bj_c sgn (r + 1) = bj_c sgn r + if sgn r = 0 then 0 else 1 := rfl
theorem bj_c_le : ∀ r, bj_c sgn r ≤ r := by
  intro r
  induction r with
  | zero => exact Nat.le_refl _
  | succ r ih => rw [bj_c_s]; split <;> omega
theorem bj_c_mono {r : Nat} : ∀ q, r ≤ q → bj_c sgn r ≤ bj_c sgn q := by
  intro q
  induction q with
  | zero => intro h; rw [show r = 0 by omega]; exact Nat.le_refl _
  | succ q ih =>
    intro h
    by_cases e : r = q + 1
    · rw [e]; exact Nat.le_refl _
    · have := ih (by omega)
      rw [bj_c_s]
      omega
theorem bj_c_lt {r q : Nat} (h : r < q) (hs : sgn r ≠ 0) : bj_c sgn r < bj_c sgn q := by
  have h1 := bj_c_mono (sgn := sgn) (r := r + 1) q (by omega)
  rw [bj_c_s, if_neg hs] at h1
  omega
theorem bj_c_inj {r q : Nat} (h1 : sgn r ≠ 0) (h2 : sgn q ≠ 0) (h : bj_c sgn r = bj_c sgn q) : r = q := by
  rcases Nat.lt_trichotomy r q with e | e | e
  · have := bj_c_lt e h1; omega
  · exact e
  · have := bj_c_lt e h2; omega
theorem bj_c_ex {i : Nat} : ∀ q, i < bj_c sgn q → ∃ r, r < q ∧ sgn r ≠ 0 ∧ bj_c sgn r = i := by
  intro q
  induction q with
  | zero => intro h; exact absurd h (Nat.not_lt_zero _)
  | succ q ih =>
    intro h
    rw [bj_c_s] at h
    by_cases e : i < bj_c sgn q
    · obtain ⟨r, r1, r2, r3⟩ := ih e
      exact ⟨r, by omega, r2, r3⟩
    · by_cases e2 : sgn q = 0
      · rw [if_pos e2] at h; omega
      · rw [if_neg e2] at h
        exact ⟨q, by omega, e2, by omega⟩
theorem bj_c_upd {R : Nat} {x : Int} : ∀ r, r ≤ R → bj_c (fun q => if q = R then x else sgn q) r = bj_c sgn r := by
  intro r
  induction r with
  | zero => intro _; rfl
  | succ r ih =>
    intro h
    rw [bj_c_s, bj_c_s, ih (by omega), if_neg (show ¬ r = R by omega)]
end BJC
theorem eq_place {nv R : Nat} {sgn : Nat → Int} (hR : R ≤ 4) (hn : nv + bj_c sgn R ≤ 6) {c1 c2 : Nat → Int32} (hs : ∀ r, r < R → sgn r ≠ 0 → c1 (bj_c sgn r) = iI r ∧ c2 (bj_c sgn r) = iI (sgn r)) (ca : Nat → Nat → Int32) :
    ∃ ca', sm_tot (fn_EQ_placeSlacks (iI nv) (iI (bj_c sgn R)) c1 c2) (0, 0, ca) = some ca' ∧ ∀ r c, ca' r c = if r < R ∧ sgn r ≠ 0 ∧ c = nv + bj_c sgn r then iI (sgn r) else ca r c := by
  have e51 : ∀ x u, sm_tot (fn_EQ_placeSlacks (iI nv) (iI (bj_c sgn R)) c1 c2) (51, x, u) = some u := fun x u => by rw [sm_tot_u, fn_EQ_placeSlacks_q51]; rfl
  have lp : ∀ d i (u : Nat → Nat → Int32), i + d = bj_c sgn R → (∀ r c, u r c = if r < R ∧ sgn r ≠ 0 ∧ bj_c sgn r < i ∧ c = nv + bj_c sgn r then iI (sgn r) else ca r c) → ∃ ca', sm_tot (fn_EQ_placeSlacks (iI nv) (iI (bj_c sgn R)) c1 c2) (2, iI i, u) = some ca' ∧ ∀ r c, ca' r c = if r < R ∧ sgn r ≠ 0 ∧ c = nv + bj_c sgn r then iI (sgn r) else ca r c := by
    intro d
    induction d with
    | zero =>
      intro i u hi hu
      refine ⟨u, ?_, fun r c => ?_⟩
      · rw [sm_tot_u, fn_EQ_placeSlacks_q2]
        unfold fn_EQ_placeSlacks_b2
        rw [if_pos (show iI (bj_c sgn R : Int) ≤ iI (i : Int) by rw [ii_le (by omega) (by omega) (by omega) (by omega)]; omega), sm_ev_l, e51]
      · rw [hu r c]
        by_cases q : r < R ∧ sgn r ≠ 0 ∧ c = nv + bj_c sgn r
        · have := bj_c_lt q.1 q.2.1
          rw [if_pos ⟨q.1, q.2.1, by omega, q.2.2⟩, if_pos q]
        · rw [if_neg (fun x => q ⟨x.1, x.2.1, x.2.2.2⟩), if_neg q]
    | succ d ih =>
      intro i u hi hu
      obtain ⟨p, p1, p2, p3⟩ := bj_c_ex (sgn := sgn) (i := i) R (by omega)
      obtain ⟨s1, s2⟩ := hs p p1 p2
      rw [p3] at s1 s2
      have i2 : ((i : Int)).toNat = i := by omega
      have ip : ((p : Int)).toNat = p := by omega
      have i3 : ((nv : Int) + (i : Int)).toNat = nv + i := by omega
      obtain ⟨ca', a1, a2⟩ := ih (i + 1) (up2 u p (upd (u p) (nv + i) (iI (sgn p)))) (by omega) (fun r c => by
        by_cases q0 : r = p
        · subst q0
          rw [up2_eq]
          show (if c = nv + i then iI (sgn r) else u r c) = _
          by_cases q : c = nv + i
          · rw [if_pos q, if_pos ⟨p1, p2, by omega, by omega⟩]
          · rw [if_neg q, hu r c, if_neg (fun x => by omega), if_neg (fun x => by omega)]
        · rw [up2_ne _ _ q0, hu r c]
          by_cases q : r < R ∧ sgn r ≠ 0 ∧ bj_c sgn r < i ∧ c = nv + bj_c sgn r
          · rw [if_pos q, if_pos ⟨q.1, q.2.1, by omega, q.2.2.2⟩]
          · rw [if_neg q, if_neg (fun x => by
              by_cases e : bj_c sgn r = i
              · exact q0 (bj_c_inj x.2.1 p2 (e.trans p3.symm))
              · exact q ⟨x.1, x.2.1, by omega, x.2.2.2⟩)])
      refine ⟨ca', ?_, a2⟩
      rw [← a1, sm_tot_u, fn_EQ_placeSlacks_q2]
      unfold fn_EQ_placeSlacks_b2
      rw [if_neg (show ¬ iI (bj_c sgn R : Int) ≤ iI (i : Int) by rw [ii_le (by omega) (by omega) (by omega) (by omega)]; omega), ii_add, if_neg (show ¬ (6 : Int32) ≤ iI ((nv : Int) + (i : Int)) by rw [il_6, ii_le (by omega) (by omega) (by omega) (by omega)]; omega), if_pos (show ¬ (iI (i : Int) < 0 ∨ 6 ≤ (iI (i : Int)).toNatClampNeg) by rw [il_0, ii_lt (by omega) (by omega) (by omega) (by omega), ii_nat (by omega) (by omega)]; omega), ii_nat (a := (i : Int)) (by omega) (by omega), i2, s1, s2, if_pos (show ¬ (iI (p : Int) < 0 ∨ 4 ≤ (iI (p : Int)).toNatClampNeg) by rw [il_0, ii_lt (by omega) (by omega) (by omega) (by omega), ii_nat (by omega) (by omega)]; omega), if_pos (show ¬ (iI ((nv : Int) + (i : Int)) < 0 ∨ 6 ≤ (iI ((nv : Int) + (i : Int))).toNatClampNeg) by rw [il_0, ii_lt (by omega) (by omega) (by omega) (by omega), ii_nat (by omega) (by omega)]; omega), ii_nat (a := (p : Int)) (by omega) (by omega), ip, ii_nat (by omega) (by omega), i3, sm_ev_l, il_1, ii_add]
      rfl
  rw [sm_tot_u, fn_EQ_placeSlacks_q0]
  exact lp (bj_c sgn R) 0 ca (by omega) (fun r c => by rw [if_neg (fun x => by omega)])
section BUE
variable {R nv ns : Nat} {sd sg op : Int} {ca : Nat → Nat → Int32} {cb c1 c2 : Nat → Int32}
def bu_eb (R : Nat) (sd sg op : Int) (cb : Nat → Int32) : Nat → Int32 := if op = -1 then cb else upd cb R (cb R - iI (sd * sg * op))
theorem bu_endTerm (hR : R < 4) (hop : -1 ≤ op ∧ op ≤ 100000) : sm_tot (fn_BU_endTerm (iI R) (iI sd) (iI sg) (iI op)) (0, cb) = some (bu_eb R sd sg op cb) := by
  have iR : ((R : Int)).toNat = R := by omega
  have e37 : ∀ u, sm_tot (fn_BU_endTerm (iI R) (iI sd) (iI sg) (iI op)) (37, u) = some u := fun u => by rw [sm_tot_u, fn_BU_endTerm_q37]; rfl
  rw [sm_tot_u, fn_BU_endTerm_q0]
  unfold fn_BU_endTerm_b0 bu_eb
  rw [show (-1 : Int32) = iI (-1) from rfl, ie_eq (by omega) (by omega) (by omega) (by omega)]
  by_cases q : op = -1
  · rw [if_pos q, if_pos q, sm_ev_l, e37]
  · rw [if_neg q, if_neg q, if_pos (show ¬ (iI (R : Int) < 0 ∨ 4 ≤ (iI (R : Int)).toNatClampNeg) by rw [il_0, ii_lt (by omega) (by omega) (by omega) (by omega), ii_nat (by omega) (by omega)]; omega), sm_ev_l, e37, ii_nat (by omega) (by omega), iR, ii_mul, ii_mul]
theorem bu_endRow (hR : R < 4) (hop : -1 ≤ op ∧ op ≤ 100000) (hn : nv + ns ≤ 6) {rl : Int} (hrl : rl = 7 ∨ rl = 8 ∨ rl = 9) {rp fp : Int32} {A : Nat → Int} {b : Int} (hA : ∀ c, c < nv → ca R c = iI (A c) ∧ (A c).natAbs ≤ 100000000) (hb : bu_eb R sd sg op cb R = iI b ∧ b.natAbs ≤ 100000000) :
    sm_tot (fn_BU_endRow (iI R) (iI sd) (iI sg) (iI op) (iI (rl - 1)) rp (iI nv) ca) (0, 0, 0, fp, iI ns, cb, c1, c2) = if rl ≠ 7 ∧ nv + ns = 6 then some (iI 2, rp, iI ns, bu_eb R sd sg op cb, c1, c2) else some (iI (if bj_lg nv A b = true then 3 else 0), if bj_lg nv A b = true then rp else fp, iI ((if rl = 7 then ns else ns + 1 : Nat) : Int), bu_eb R sd sg op cb, if rl = 7 then c1 else upd c1 ns (iI R), if rl = 7 then c2 else upd c2 ns (iI (if rl = 8 then 1 else -1))) := by
  have e85 : ∀ s x y z w w1 w2, sm_tot (fn_BU_endRow (iI R) (iI sd) (iI sg) (iI op) (iI (rl - 1)) rp (iI nv) ca) (85, s, x, y, z, w, w1, w2) = some (s, y, z, w, w1, w2) := fun s x y z w w1 w2 => by rw [sm_tot_u, fn_BU_endRow_q85]; rfl
  have e58 : ∀ s x z w1 w2, sm_tot (fn_BU_endRow (iI R) (iI sd) (iI sg) (iI op) (iI (rl - 1)) rp (iI nv) ca) (58, s, x, fp, z, bu_eb R sd sg op cb, w1, w2) = some (iI (if bj_lg nv A b = true then 3 else 0), if bj_lg nv A b = true then rp else fp, z, bu_eb R sd sg op cb, w1, w2) := fun s x z w1 w2 => by
    rw [sm_tot_u, fn_BU_endRow_q58]
    unfold fn_BU_endRow_b58
    rw [eq_large hR (by omega) hA hb, Option.bind_some, ie_b0]
    cases e : bj_lg nv A b with
    | false =>
      rw [if_pos rfl, sm_ev_l, e85]
      rfl
    | true =>
      rw [if_neg (by decide), sm_tot_u (st := fn_BU_fault 3 rp), fn_BU_fault_q0]
      show sm_ev _ (some (Sum.inl (85, (3 : Int32), (0 : Int32), rp, z, bu_eb R sd sg op cb, w1, w2))) = _
      rw [sm_ev_l, e85]
      rfl
  have e55 : ∀ (y : Int), nv + ns < 6 → sm_tot (fn_BU_endRow (iI R) (iI sd) (iI sg) (iI op) (iI (rl - 1)) rp (iI nv) ca) (55, iI y, iI R, fp, iI ns, bu_eb R sd sg op cb, c1, c2) = some (iI (if bj_lg nv A b = true then 3 else 0), if bj_lg nv A b = true then rp else fp, iI ((ns + 1 : Nat) : Int), bu_eb R sd sg op cb, upd c1 ns (iI R), upd c2 ns (iI y)) := fun y h6 => by
    rw [sm_tot_u, fn_BU_endRow_q55]
    unfold fn_BU_endRow_b55
    rw [eq_slack h6, Option.bind_some, sm_ev_l, e58]
  rw [sm_tot_u, fn_BU_endRow_q0]
  unfold fn_BU_endRow_b0
  rw [bu_endTerm hR hop, Option.bind_some, eq_full hn, Option.bind_some, ie_b0]
  rcases hrl with rfl | rfl | rfl
  · rw [if_pos (show iI (7 - 1) = 6 from rfl), sm_ev_l, if_neg (show ¬ ((7 : Int) ≠ 7 ∧ nv + ns = 6) from fun q => q.1 rfl), if_pos (show (7 : Int) = 7 from rfl), if_pos (show (7 : Int) = 7 from rfl), if_pos (show (7 : Int) = 7 from rfl)]
    exact e58 _ _ _ _ _
  · rw [if_neg (show ¬ iI (8 - 1) = 6 by decide)]
    by_cases q : nv + ns = 6
    · rw [decide_eq_true q, if_neg (by decide), if_pos ⟨by decide, q⟩, sm_tot_u (st := fn_BU_fault 2 rp), fn_BU_fault_q0]
      rfl
    · rw [decide_eq_false q, if_pos (show false = false from rfl), if_neg (show ¬ ((8 : Int) ≠ 7 ∧ nv + ns = 6) from fun x => q x.2), if_pos (show iI (8 - 1) = 7 from rfl), sm_ev_l]
      refine (e55 1 (by omega)).trans ?_
      rw [if_neg (show ¬ (8 : Int) = 7 by decide), if_neg (show ¬ (8 : Int) = 7 by decide), if_neg (show ¬ (8 : Int) = 7 by decide), if_pos (show (8 : Int) = 8 from rfl)]
  · rw [if_neg (show ¬ iI (9 - 1) = 6 by decide)]
    by_cases q : nv + ns = 6
    · rw [decide_eq_true q, if_neg (by decide), if_pos ⟨by decide, q⟩, sm_tot_u (st := fn_BU_fault 2 rp), fn_BU_fault_q0]
      rfl
    · rw [decide_eq_false q, if_pos (show false = false from rfl), if_neg (show ¬ ((9 : Int) ≠ 7 ∧ nv + ns = 6) from fun x => q x.2), if_neg (show ¬ iI (9 - 1) = 7 by decide), sm_ev_l]
      refine (e55 (-1) (by omega)).trans ?_
      rw [if_neg (show ¬ (9 : Int) = 7 by decide), if_neg (show ¬ (9 : Int) = 7 by decide), if_neg (show ¬ (9 : Int) = 7 by decide), if_neg (show ¬ (9 : Int) = 8 by decide)]
theorem bu_addVar_t (hR : R < 4) (hop : -1 ≤ op ∧ op ≤ 100000) {a1 a2 fp nvi : Int32} {k nv' : Nat} (hk : k < 6) {cl cl' : Nat → Int32} (hc : sm_tot (fn_EQ_columnOf a1 (iI ns)) (0, 0, nvi, cl) = some (iI k, iI nv', cl')) :
    sm_tot (fn_BU_addVariable a1 a2 (iI R) (iI sd) (iI sg) (iI ns)) (0, 0, 0, 0, 0, iI op, fp, nvi, ca, cl) = some (0, -1, fp, iI nv', up2 ca R (upd (ca R) k (ca R k + iI (sd * sg * (if op = -1 then 1 else op)))), cl') := by
  have iR : ((R : Int)).toNat = R := by omega
  have ik : ((k : Int)).toNat = k := by omega
  have gR : ¬ (iI (R : Int) < 0 ∨ 4 ≤ (iI (R : Int)).toNatClampNeg) := by rw [il_0, ii_lt (by omega) (by omega) (by omega) (by omega), ii_nat (by omega) (by omega)]; omega
  have gk : ¬ (iI (k : Int) < 0 ∨ 6 ≤ (iI (k : Int)).toNatClampNeg) := by rw [il_0, ii_lt (by omega) (by omega) (by omega) (by omega), ii_nat (by omega) (by omega)]; omega
  have e61 : ∀ (m : Int) (x y z w : Int32) (cl' : Nat → Int32), sm_tot (fn_BU_addVariable a1 a2 (iI R) (iI sd) (iI sg) (iI ns)) (61, iI m, iI sd * iI sg, x, iI k, y, z, w, ca, cl') = some (0, -1, z, w, up2 ca R (upd (ca R) k (x + iI (sd * sg * m))), cl') := fun m x y z w cl' => by
    rw [sm_tot_u, fn_BU_addVariable_q61]
    unfold fn_BU_addVariable_b61
    rw [if_pos (show (iI (R : Int)).toNatClampNeg < 4 by rw [ii_nat (by omega) (by omega)]; omega), if_pos gk, sm_ev_r, ii_nat (by omega) (by omega), ii_nat (by omega) (by omega), iR, ik, ii_mul, ii_mul]
  rw [sm_tot_u, fn_BU_addVariable_q0]
  unfold fn_BU_addVariable_b0
  rw [hc, Option.bind_some]
  show sm_ev _ (if iI (k : Int) = -1 then _ else if ¬ (iI (R : Int) < 0 ∨ 4 ≤ (iI (R : Int)).toNatClampNeg) then (if ¬ (iI (k : Int) < 0 ∨ 6 ≤ (iI (k : Int)).toNatClampNeg) then _ else _) else _) = _
  rw [if_neg (show ¬ iI (k : Int) = -1 by rw [show (-1 : Int32) = iI (-1) from rfl, ii_eq (by omega) (by omega) (by omega) (by omega)]; omega), if_pos gR, if_pos gk, show (-1 : Int32) = iI (-1) from rfl, ie_eq (by omega) (by omega) (by omega) (by omega), ii_nat (by omega) (by omega), ii_nat (by omega) (by omega), iR, ik]
  by_cases q : op = -1
  · rw [if_pos q, if_pos q, sm_ev_l]
    exact e61 1 _ _ _ _ _
  · rw [if_neg q, if_neg q, sm_ev_l]
    exact e61 op _ _ _ _ _
theorem bu_addVar_f {a1 a2 fp nvi x : Int32} {cl cl' : Nat → Int32} (hc : sm_tot (fn_EQ_columnOf a1 (iI ns)) (0, 0, nvi, cl) = some (-1, x, cl')) :
    sm_tot (fn_BU_addVariable a1 a2 (iI R) (iI sd) (iI sg) (iI ns)) (0, 0, 0, 0, 0, iI op, fp, nvi, ca, cl) = some (iI 2, iI op, a2, x, ca, cl') := by
  rw [sm_tot_u, fn_BU_addVariable_q0]
  unfold fn_BU_addVariable_b0
  rw [hc, Option.bind_some]
  show sm_ev _ (if (-1 : Int32) = -1 then Option.bind (sm_tot (fn_BU_fault 2 a2) (0, fp)) _ else _) = _
  rw [if_pos rfl, sm_tot_u (st := fn_BU_fault 2 a2), fn_BU_fault_q0]
  rfl
end BUE
