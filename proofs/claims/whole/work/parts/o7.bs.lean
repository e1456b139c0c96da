/-! a word at a time: class and reference -/
abbrev BuS := Int32 × Int32 × Int32 × Int32 × Int32 × Int32 × Int32 × Int32 × Int32 × Int32 × (Nat → Nat → Int32) × (Nat → Int32) × (Nat → Int32) × (Nat → Int32) × (Nat → Int32)
noncomputable def bu_V (n : Nat) (kk pp vv : Nat → Int32) (j : Nat) (st : BuS) : Option (Int32 × BuS) := if j < n then sm_tot (fn_BU_build (iI n) kk pp vv) (55, 0, iI j, st) else sm_tot (fn_BU_build (iI n) kk pp vv) (88, 0, 0, st)
section BUV
variable {n j : Nat} {kk pp vv : Nat → Int32}
theorem bu_82 (hn : n ≤ 300) (hj : j < n) {c : Int} (hc : -1 ≤ c ∧ c ≤ 10) (hk : kk j = iI c) (h5 : c ≠ 5) (st : BuS) : sm_tot (fn_BU_build (iI n) kk pp vv) (82, 0, iI j, st) = bu_V n kk pp vv (j + 1) st := by
  obtain ⟨s1, s2, s3, s4, s5, s6, s7, s8, s9, s10, s11, s12, s13, s14, s15⟩ := st
  have i3 : ((j : Int) + 1 - 1).toNat = j := by omega
  rw [sm_tot_u, fn_BU_build_q82]
  unfold fn_BU_build_b82 bu_V
  rw [sm_ev_l, sm_tot_u, fn_BU_build_q16]
  unfold fn_BU_build_b16
  rw [il_1, ii_add, ii_sub]
  by_cases q : j + 1 < n
  · rw [if_neg (show ¬ iI (n : Int) ≤ iI ((j : Int) + 1) by rw [ii_le (by omega) (by omega) (by omega) (by omega)]; omega), if_pos (show (0 : Int32) = 0 from rfl), if_neg (show ¬ iI ((j : Int) + 1) = 0 by rw [il_0, ii_eq (by omega) (by omega) (by omega) (by omega)]; omega), if_pos (show ¬ (iI ((j : Int) + 1 - 1) < 0 ∨ 300 ≤ (iI ((j : Int) + 1 - 1)).toNatClampNeg) by rw [il_0, ii_lt (by omega) (by omega) (by omega) (by omega), ii_nat (by omega) (by omega)]; omega), ii_nat (by omega) (by omega), i3, hk, if_neg (show ¬ iI c = 5 by rw [il_5, ii_eq (by omega) (by omega) (by omega) (by omega)]; exact h5), sm_ev_l, if_pos q]
    rfl
  · rw [if_pos (show iI (n : Int) ≤ iI ((j : Int) + 1) by rw [ii_le (by omega) (by omega) (by omega) (by omega)]; omega), sm_ev_l, if_neg q]
theorem bu_82s (hn : n ≤ 300) (hj : j + 1 < n) (hk : kk j = iI 5) (st : BuS) : sm_tot (fn_BU_build (iI n) kk pp vv) (82, 0, iI j, st) = sm_tot (fn_BU_build (iI n) kk pp vv) (44, 0, iI ((j + 1 : Nat) : Int), st) := by
  obtain ⟨s1, s2, s3, s4, s5, s6, s7, s8, s9, s10, s11, s12, s13, s14, s15⟩ := st
  have i3 : ((j : Int) + 1 - 1).toNat = j := by omega
  rw [sm_tot_u, fn_BU_build_q82]
  unfold fn_BU_build_b82
  rw [sm_ev_l, sm_tot_u, fn_BU_build_q16]
  unfold fn_BU_build_b16
  rw [il_1, ii_add, ii_sub, if_neg (show ¬ iI (n : Int) ≤ iI ((j : Int) + 1) by rw [ii_le (by omega) (by omega) (by omega) (by omega)]; omega), if_pos (show (0 : Int32) = 0 from rfl), if_neg (show ¬ iI ((j : Int) + 1) = 0 by rw [il_0, ii_eq (by omega) (by omega) (by omega) (by omega)]; omega), if_pos (show ¬ (iI ((j : Int) + 1 - 1) < 0 ∨ 300 ≤ (iI ((j : Int) + 1 - 1)).toNatClampNeg) by rw [il_0, ii_lt (by omega) (by omega) (by omega) (by omega), ii_nat (by omega) (by omega)]; omega), ii_nat (by omega) (by omega), i3, hk, if_pos (show iI 5 = 5 from rfl), sm_ev_l]
  rfl
/-- a fault ends it -/
theorem bu_flt (hn : n ≤ 300) (hj : j < n) {fc : Int} (hf : fc = 2 ∨ fc = 3) {s1 s2 s3 s4 s5 s6 s7 s8 s9 s10 : Int32} {s11 ca' : Nat → Nat → Int32} {s12 s13 s14 s15 : Nat → Int32} (hp : sm_tot (fn_EQ_placeSlacks s9 s10 s14 s15) (0, 0, s11) = some ca') :
    sm_tot (fn_BU_build (iI n) kk pp vv) (82, iI fc, iI j, s1, s2, s3, s4, s5, s6, s7, s8, s9, s10, s11, s12, s13, s14, s15) = some (iI fc, s1, s2, s3, s4, s5, s6, s7, s8, s9, s10, ca', s12, s13, s14, s15) := by
  have hne : ¬ iI fc = 0 := by rw [il_0, ii_eq (by omega) (by omega) (by omega) (by omega)]; omega
  have e97 : ∀ x, sm_tot (fn_BU_build (iI n) kk pp vv) (97, iI fc, x, s1, s2, s3, s4, s5, s6, s7, s8, s9, s10, s11, s12, s13, s14, s15) = some (iI fc, s1, s2, s3, s4, s5, s6, s7, s8, s9, s10, ca', s12, s13, s14, s15) := fun x => by
    rw [sm_tot_u, fn_BU_build_q97]
    unfold fn_BU_build_b97
    rw [hp, Option.bind_some, sm_ev_r]
  have e88 : ∀ x, sm_tot (fn_BU_build (iI n) kk pp vv) (88, iI fc, x, s1, s2, s3, s4, s5, s6, s7, s8, s9, s10, s11, s12, s13, s14, s15) = some (iI fc, s1, s2, s3, s4, s5, s6, s7, s8, s9, s10, ca', s12, s13, s14, s15) := fun x => by
    rw [sm_tot_u, fn_BU_build_q88]
    unfold fn_BU_build_b88
    rw [if_neg hne, sm_ev_l, e97]
  rw [sm_tot_u, fn_BU_build_q82]
  unfold fn_BU_build_b82
  rw [sm_ev_l, sm_tot_u, fn_BU_build_q16]
  unfold fn_BU_build_b16
  rw [if_neg hne]
  split
  · rw [sm_ev_l, e88]
  · rw [sm_ev_l, e88]
theorem bu_44 (hn : n ≤ 300) (hj : j < n) {R : Nat} (hR : R < 4) {s1 s2 s3 s4 s5 s6 s7 s9 s10 : Int32} {s11 : Nat → Nat → Int32} {s12 s13 s14 s15 : Nat → Int32} :
    sm_tot (fn_BU_build (iI n) kk pp vv) (44, 0, iI j, s1, s2, s3, s4, s5, s6, s7, iI R, s9, s10, s11, s12, s13, s14, s15) = bu_V n kk pp vv j (iI R, iI 1, iI 1, iI (-1), s5, s6, s7, iI ((R + 1 : Nat) : Int), s9, s10, s11, s12, s13, s14, s15) := by
  have i2 : ((j : Int)).toNat = j := by omega
  have hb : sm_tot (fn_BU_beginRow (pp j)) (0, s1, s2, s3, s4, s7, iI R) = some (0, iI R, 1, 1, -1, s7, iI R + 1) := by
    rw [sm_tot_u, fn_BU_beginRow_q0]
    unfold fn_BU_beginRow_b0
    rw [if_pos (show iI (R : Int) < 4 by rw [il_4, ii_lt (by omega) (by omega) (by omega) (by omega)]; omega), sm_tot_u (st := fn_BU_beginTerm 1), fn_BU_beginTerm_q0]
    rfl
  unfold bu_V
  rw [if_pos hj, sm_tot_u, fn_BU_build_q44]
  unfold fn_BU_build_b44
  rw [if_pos (show ¬ (iI (j : Int) < 0 ∨ 300 ≤ (iI (j : Int)).toNatClampNeg) by rw [il_0, ii_lt (by omega) (by omega) (by omega) (by omega), ii_nat (by omega) (by omega)]; omega), ii_nat (by omega) (by omega), i2, hb, Option.bind_some, sm_ev_l]
  show sm_tot _ (55, (0 : Int32), iI (j : Int), iI (R : Int), (1 : Int32), (1 : Int32), (-1 : Int32), s5, s6, s7, iI (R : Int) + 1, s9, s10, s11, s12, s13, s14, s15) = _
  rw [show iI (R : Int) + 1 = iI ((R + 1 : Nat) : Int) by rw [il_1, ii_add]; rfl]
  rfl
theorem bu_44f (hn : n ≤ 300) (hj : j < n) {s1 s2 s3 s4 s5 s6 s7 s9 s10 : Int32} {s11 ca' : Nat → Nat → Int32} {s12 s13 s14 s15 : Nat → Int32} (hp : sm_tot (fn_EQ_placeSlacks s9 s10 s14 s15) (0, 0, s11) = some ca') :
    sm_tot (fn_BU_build (iI n) kk pp vv) (44, 0, iI j, s1, s2, s3, s4, s5, s6, s7, iI 4, s9, s10, s11, s12, s13, s14, s15) = some (iI 2, s1, s2, s3, s4, s5, s6, pp j, iI 4, s9, s10, ca', s12, s13, s14, s15) := by
  have i2 : ((j : Int)).toNat = j := by omega
  have hb : sm_tot (fn_BU_beginRow (pp j)) (0, s1, s2, s3, s4, s7, iI 4) = some (iI 2, s1, s2, s3, s4, pp j, iI 4) := by
    rw [sm_tot_u, fn_BU_beginRow_q0]
    unfold fn_BU_beginRow_b0
    rw [if_neg (show ¬ iI 4 < 4 by decide), sm_tot_u (st := fn_BU_fault 2 (pp j)), fn_BU_fault_q0]
    rfl
  rw [sm_tot_u, fn_BU_build_q44]
  unfold fn_BU_build_b44
  rw [if_pos (show ¬ (iI (j : Int) < 0 ∨ 300 ≤ (iI (j : Int)).toNatClampNeg) by rw [il_0, ii_lt (by omega) (by omega) (by omega) (by omega), ii_nat (by omega) (by omega)]; omega), ii_nat (by omega) (by omega), i2, hb, Option.bind_some, sm_ev_l, sm_tot_u, fn_BU_build_q55]
  unfold fn_BU_build_b55
  rw [if_neg (show ¬ iI 2 = 0 by decide), sm_ev_l]
  exact bu_flt hn hj (Or.inl rfl) hp
/-- what a word does to the class, told by add -/
theorem bu_55 (hn : n ≤ 300) (hj : j < n) {s1 s2 s3 s4 s5 s6 s7 s8 s9 s10 : Int32} {s11 : Nat → Nat → Int32} {s12 s13 s14 s15 : Nat → Int32} {z y2 y3 y4 y5 y6 y7 y9 y10 : Int32} {y11 : Nat → Nat → Int32} {y12 y13 y14 y15 : Nat → Int32}
    (h : sm_tot (fn_BU_add (kk j) (vv j) (pp j) s1) (0, 0, s2, s3, s4, s5, s6, s7, s9, s10, s11, s12, s13, s14, s15) = some (z, y2, y3, y4, y5, y6, y7, y9, y10, y11, y12, y13, y14, y15)) :
    bu_V n kk pp vv j (s1, s2, s3, s4, s5, s6, s7, s8, s9, s10, s11, s12, s13, s14, s15) = sm_tot (fn_BU_build (iI n) kk pp vv) (82, z, iI j, s1, y2, y3, y4, y5, y6, y7, s8, y9, y10, y11, y12, y13, y14, y15) := by
  have i2 : ((j : Int)).toNat = j := by omega
  unfold bu_V
  rw [if_pos hj, sm_tot_u, fn_BU_build_q55]
  unfold fn_BU_build_b55
  rw [if_pos (show (0 : Int32) = 0 from rfl), if_pos (show ¬ (iI (j : Int) < 0 ∨ 300 ≤ (iI (j : Int)).toNatClampNeg) by rw [il_0, ii_lt (by omega) (by omega) (by omega) (by omega), ii_nat (by omega) (by omega)]; omega), ii_nat (by omega) (by omega), i2, h, Option.bind_some, sm_ev_l]
end BUV
section BUA
variable {a2 a3 : Int32} {R : Nat} {sd sg op : Int} {rel rep fp nvi nsi : Int32} {ca : Nat → Nat → Int32} {cb cl c1 c2 : Nat → Int32}
theorem bu_add0 : sm_tot (fn_BU_add (iI (ps_ck 1)) a2 a3 (iI R)) (0, 0, iI sd, iI sg, iI op, rel, rep, fp, nvi, nsi, ca, cb, cl, c1, c2) = some (0, iI sd, iI sg, a2, rel, rep, fp, nvi, nsi, ca, cb, cl, c1, c2) := by
  rw [sm_tot_u, fn_BU_add_q0]
  rfl
theorem bu_add4 : sm_tot (fn_BU_add (iI (ps_ck 5)) a2 a3 (iI R)) (0, 0, iI sd, iI sg, iI op, rel, rep, fp, nvi, nsi, ca, cb, cl, c1, c2) = some (0, iI sd, iI sg, iI op, rel, rep, fp, nvi, nsi, ca, cb, cl, c1, c2) := by
  rw [sm_tot_u, fn_BU_add_q0]
  rfl
theorem bu_add1 {z y1 y2 y3 : Int32} {y4 : Nat → Nat → Int32} {y5 : Nat → Int32} (h : sm_tot (fn_BU_addVariable a2 a3 (iI R) (iI sd) (iI sg) nsi) (0, 0, 0, 0, 0, iI op, fp, nvi, ca, cl) = some (z, y1, y2, y3, y4, y5)) : sm_tot (fn_BU_add (iI (ps_ck 2)) a2 a3 (iI R)) (0, 0, iI sd, iI sg, iI op, rel, rep, fp, nvi, nsi, ca, cb, cl, c1, c2) = some (z, iI sd, iI sg, y1, rel, rep, y2, y3, nsi, y4, cb, y5, c1, c2) := by
  rw [sm_tot_u, fn_BU_add_q0]
  unfold fn_BU_add_b0
  rw [if_neg (show ¬ iI (ps_ck 2) = 0 by decide), if_pos (show iI (ps_ck 2) = 1 by decide), h]
  rfl
theorem bu_add81 {k : Int32} {s : Int} {x4 : Int32} {cb' : Nat → Int32} : sm_tot (fn_BU_add k a2 a3 (iI R)) (81, iI s, iI sd, iI sg, x4, rel, rep, fp, nvi, nsi, ca, cb', cl, c1, c2) = some (0, iI sd, iI s, iI (-1), rel, rep, fp, nvi, nsi, ca, cb', cl, c1, c2) := by
  rw [sm_tot_u, fn_BU_add_q81]
  unfold fn_BU_add_b81
  rw [sm_tot_u (st := fn_BU_beginTerm (iI s)), fn_BU_beginTerm_q0]
  rfl
theorem bu_add2 (hR : R < 4) (hop : -1 ≤ op ∧ op ≤ 100000) : sm_tot (fn_BU_add (iI (ps_ck 3)) a2 a3 (iI R)) (0, 0, iI sd, iI sg, iI op, rel, rep, fp, nvi, nsi, ca, cb, cl, c1, c2) = some (0, iI sd, iI 1, iI (-1), rel, rep, fp, nvi, nsi, ca, bu_eb R sd sg op cb, cl, c1, c2) := by
  rw [sm_tot_u, fn_BU_add_q0]
  unfold fn_BU_add_b0
  rw [if_neg (show ¬ iI (ps_ck 3) = 0 by decide), if_neg (show ¬ iI (ps_ck 3) = 1 by decide), if_pos (show iI (ps_ck 3) = 2 by decide), bu_endTerm hR hop, Option.bind_some, if_pos (show iI (ps_ck 3) = 2 by decide), sm_ev_l]
  exact bu_add81 (s := 1)
theorem bu_add3 (hR : R < 4) (hop : -1 ≤ op ∧ op ≤ 100000) : sm_tot (fn_BU_add (iI (ps_ck 4)) a2 a3 (iI R)) (0, 0, iI sd, iI sg, iI op, rel, rep, fp, nvi, nsi, ca, cb, cl, c1, c2) = some (0, iI sd, iI (-1), iI (-1), rel, rep, fp, nvi, nsi, ca, bu_eb R sd sg op cb, cl, c1, c2) := by
  rw [sm_tot_u, fn_BU_add_q0]
  unfold fn_BU_add_b0
  rw [if_neg (show ¬ iI (ps_ck 4) = 0 by decide), if_neg (show ¬ iI (ps_ck 4) = 1 by decide), if_neg (show ¬ iI (ps_ck 4) = 2 by decide), if_pos (show iI (ps_ck 4) = 3 by decide), bu_endTerm hR hop, Option.bind_some, if_neg (show ¬ iI (ps_ck 4) = 2 by decide), sm_ev_l]
  exact bu_add81 (s := -1)
theorem bu_add5 {z y1 y2 : Int32} {y3 y4 y5 : Nat → Int32} (h : sm_tot (fn_BU_endRow (iI R) (iI sd) (iI sg) (iI op) rel rep nvi ca) (0, 0, 0, fp, nsi, cb, c1, c2) = some (z, y1, y2, y3, y4, y5)) : sm_tot (fn_BU_add (iI (ps_ck 6)) a2 a3 (iI R)) (0, 0, iI sd, iI sg, iI op, rel, rep, fp, nvi, nsi, ca, cb, cl, c1, c2) = some (z, iI sd, iI sg, iI op, rel, rep, y1, nvi, y2, ca, y3, cl, y4, y5) := by
  rw [sm_tot_u, fn_BU_add_q0]
  unfold fn_BU_add_b0
  rw [if_neg (show ¬ iI (ps_ck 6) = 0 by decide), if_neg (show ¬ iI (ps_ck 6) = 1 by decide), if_neg (show ¬ iI (ps_ck 6) = 2 by decide), if_neg (show ¬ iI (ps_ck 6) = 3 by decide), if_neg (show ¬ iI (ps_ck 6) = 4 by decide), if_pos (show iI (ps_ck 6) = 5 by decide), h]
  rfl
theorem bu_add6 (hR : R < 4) (hop : -1 ≤ op ∧ op ≤ 100000) {k : Int} (hk : k = 7 ∨ k = 8 ∨ k = 9) : sm_tot (fn_BU_add (iI (ps_ck k)) a2 a3 (iI R)) (0, 0, iI sd, iI sg, iI op, rel, rep, fp, nvi, nsi, ca, cb, cl, c1, c2) = some (0, iI (-1), iI 1, iI (-1), iI (k - 1), a3, fp, nvi, nsi, ca, bu_eb R sd sg op cb, cl, c1, c2) := by
  have hbt : sm_tot (fn_BU_beginTerm 1) (0, iI sg, iI op) = some (1, -1) := by
    rw [sm_tot_u, fn_BU_beginTerm_q0]
    rfl
  rw [sm_tot_u, fn_BU_add_q0]
  unfold fn_BU_add_b0
  rw [bu_endTerm hR hop, hbt]
  rcases hk with rfl | rfl | rfl <;> rfl
end BUA
