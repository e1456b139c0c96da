/-! read -/
section J9
variable {L : Nat} {t : Nat → Int}
theorem vl_drop {x : Int32} : sm_tot fn_VL_drop (0, x) = some 0 := by
  rw [sm_tot_u, fn_VL_drop_q0]
  rfl
theorem mo_fault {a b w : Int32} : sm_tot (fn_MO_fault a b) (0, w) = some (a, b) := by
  rw [sm_tot_u, fn_MO_fault_q0]
  rfl
theorem jn_read {x y : Int32} {ct cu : Nat → Int32} (hj : jt x y ct cu) (sy re : Nat) (hs hp hb fp w1 w2 w3 w4 b1 b2 b3 b4 b5 b6 b7 e1 e2 e3 kv he wi us l0 l1 l2 : Int32) (ku pu vu : Nat → Int32) (ca : Nat → Nat → Int32) (cb cl c1 c2 : Nat → Int32) (bs : Nat → Nat → Int64) (ra kr : Nat → Int32) (fr : Nat → Int64) (cc td : Nat → Int32) (th wr wds dv dsl dr kno mro mva mco isp ib : Int32) (mk mp mv dl dn ds mlt mnu il cs mtd mcc : Nat → Int32) :
    (∃ (an fp' w1' w2' w3' w4' b1' b2' b3' b4' b5' b6' b7' e1' e2' e3' : Int32) (ku' pu' vu' : Nat → Int32) (ca' : Nat → Nat → Int32) (cb' cl' c1' c2' : Nat → Int32) (wds' dv' dsl' dr' : Int32) (mk' mp' mv' dl' dn' ds' : Nat → Int32),
      sm_tot (fn_LS_read ct sy re) (0, 0, sy, hs, hp, hb, fp, x, w1, w2, w3, w4, re, b1, b2, b3, b4, b5, b6, b7, e1, e2, e3, kv, he, wi, us, l0, l1, l2, ku, pu, vu, ca, cb, cl, c1, c2, bs, ra, kr, fr, cc, td) = some (an, sy, hs, hp, hb, fp', 0, w1', w2', w3', w4', re, b1', b2', b3', b4', b5', b6', b7', e1', e2', e3', kv, he, wi, us, l0, l1, l2, ku', pu', vu', ca', cb', cl', c1', c2', bs, ra, kr, fr, cc, td) ∧
      sm_tot (fn_MO_read cu) (0, th, y, wr, wds, dv, dsl, dr, kno, mro, mva, mco, isp, ib, mk, mp, mv, dl, dn, ds, mlt, mnu, il, cs, mtd, mcc) = some (an, 0, 0, fp', wds', dv', dsl', dr', kno, mro, mva, mco, isp, ib, mk', mp', mv', dl', dn', ds', mlt, mnu, il, cs, mtd, mcc)) ∨
    (∃ (m nv ns : Nat) (lt : Nat → Int) (A : Nat → Nat → Int) (B : Nat → Int) (w1' w2' w3' w4' b1' b2' b3' b4' b5' b6' b7' kv' he' wi' us' : Int32) (ku' pu' vu' : Nat → Int32) (ca' : Nat → Nat → Int32) (cb' cl' c1' c2' : Nat → Int32) (bs' : Nat → Nat → Int64) (ra' kr' : Nat → Int32) (fr' : Nat → Int64) (cc' td' : Nat → Int32) (wds' dv' dsl' dr' : Int32) (mk' mp' mv' dl' dn' ds' mlt' mnu' il' cs' mtd' mcc' : Nat → Int32),
      sm_tot (fn_LS_read ct sy re) (0, 0, sy, hs, hp, hb, fp, x, w1, w2, w3, w4, re, b1, b2, b3, b4, b5, b6, b7, e1, e2, e3, kv, he, wi, us, l0, l1, l2, ku, pu, vu, ca, cb, cl, c1, c2, bs, ra, kr, fr, cc, td) = some (0, re, 1, 0, 0, -1, 0, w1', w2', w3', w4', sy, b1', b2', b3', b4', b5', b6', b7', iI m, iI nv, iI ns, kv', he', wi', us', 0, 0, 0, ku', pu', vu', ca', cb', cl', c1', c2', bs', ra', kr', fr', cc', td') ∧
      sm_tot (fn_MO_read cu) (0, th, y, wr, wds, dv, dsl, dr, kno, mro, mva, mco, isp, ib, mk, mp, mv, dl, dn, ds, mlt, mnu, il, cs, mtd, mcc) = some (0, 0, 0, -1, wds', dv', dsl', dr', 1, iI m, iI nv, iI ((nv + ns : Nat) : Int), 0, 0, mk', mp', mv', dl', dn', ds', mlt', mnu', il', cs', mtd', mcc') ∧
      js true m nv ns lt A B 1 (iI m) (iI nv) (iI ns) ca' cb' cl' kv' he' bs' ra' kr' 1 (iI m) (iI nv) (iI ((nv + ns : Nat) : Int)) mlt' mnu' ∧ (∀ q, q < 6 → td' q = 0 ∧ cc' q = 0 ∧ mtd' q = 0 ∧ mcc' q = 0) ∧ ∀ q, q < 3 → il' q = 0) := by
  obtain ⟨L, t, rfl, rfl, h1, h2⟩ := hj
  have hL := h1.1
  obtain ⟨to', st', ri', ku', pu', vu', p1, p2, p3⟩ := wo_sys h1 ku pu vu w1 w2 w3 w4
  obtain ⟨mk', mp', mv', m1, m2⟩ := mo_cut h2 wds mk mp mv
  have rel := ps_rel (L := L) (t := t) L 0 0 false 0 (by omega) (by omega)
  have hlen := ps_lx_len (L := L) (t := t) L 0 (by omega) (by omega)
  have hbad := mo_bad (ku := mk') (X := ps_lx L t L 0) (by omega) (fun j hj => by have := (m2 j hj).1; rw [Nat.zero_add] at this; exact this) (ps_lx_rng L 0)
  cases hq : (ps_sc L t L 0 0 false).2.2 with
  | false =>
    left
    obtain ⟨k, k1, k2, k3⟩ := rel.2 hq
    have hpl := (m2 k k1).2.1
    rw [Nat.zero_add, k3] at hpl
    rw [hq] at p1
    rw [k2] at hbad
    refine ⟨1, iI (ps_sc L t L 0 0 false).2.1, to', st', ri', iI (ps_sc L t L 0 0 false).2.1, b1, b2, b3, b4, b5, b6, b7, e1, e2, e3, ku', pu', vu', ca, cb, cl, c1, c2, iI ((ps_lx L t L 0).length : Nat), dv, dsl, dr, mk', mp', mv', dl, dn, ds, ?_, ?_⟩
    · have hBN : sm_tot (fn_LS_buildNext (iI L) ct) (0, fp, w1, w2, w3, w4, b1, b2, b3, b4, b5, b6, b7, e1, e2, e3, ku, pu, vu, ca, cb, cl, c1, c2) = some (1, iI (ps_sc L t L 0 0 false).2.1, to', st', ri', iI (ps_sc L t L 0 0 false).2.1, b1, b2, b3, b4, b5, b6, b7, e1, e2, e3, ku', pu', vu', ca, cb, cl, c1, c2) := by
        rw [sm_tot_u, fn_LS_buildNext_q0]
        unfold fn_LS_buildNext_b0
        rw [p1, Option.bind_some]
        dsimp only
        rw [if_pos bI_f]
        rfl
      rw [sm_tot_u, fn_LS_read_q0]
      unfold fn_LS_read_b0
      rw [hBN, Option.bind_some]
      dsimp only
      rw [if_neg (by decide), sm_ev_l, sm_tot_u, fn_LS_read_q21]
      rfl
    · rw [sm_tot_u, fn_MO_read_q0]
      unfold fn_MO_read_b0
      rw [m1, Option.bind_some]
      dsimp only
      rw [hbad, Option.bind_some, if_neg (show ¬ iI ((0 + k : Nat) : Int) < 0 by rw [il_0, ii_lt (by omega) (by omega) (by omega) (by omega)]; omega), if_pos (ii_g (a := ((0 + k : Nat) : Int)) (N := 301) (by omega) (by omega) (by omega)), mo_fault, Option.bind_some, ii_nat (by omega) (by omega), Int.toNat_natCast, Nat.zero_add, hpl]
      rfl
  | true =>
    obtain ⟨g1, g2⟩ := rel.1 hq
    rw [hq] at p1
    rw [g2] at hbad
    have hto : to' = iI ((ps_sc L t L 0 0 false).1.length : Nat) := by
      cases p2 with
      | inl e => exact e
      | inr e => rw [hq] at e; cases e
    have hXl := ps_sc_len (L := L) (t := t) L 0 0 false (by omega) (by omega)
    obtain ⟨oc, orf, o1, o2, o3⟩ := bj_build (L := L) (X := (ps_sc L t L 0 0 false).1) (by omega) p3 (by rw [← g1]; exact m2) (fun z hz => ⟨(ps_sc_tk L 0 0 false z hz).1, by have := (ps_sc_tk L 0 0 false z hz).2; omega⟩) (ps_sc_ac L 0 0 false hq) (b1, b2, b3, b4, b5, b6, b7, e1, e2, e3, ca, cb, cl, c1, c2) wr dv dsl dr dl dn ds
    rw [← hto] at o1
    have hBN : sm_tot (fn_LS_buildNext (iI L) ct) (0, fp, w1, w2, w3, w4, b1, b2, b3, b4, b5, b6, b7, e1, e2, e3, ku, pu, vu, ca, cb, cl, c1, c2) = some (oc.1, oc.2.2.2.2.2.2.2.1, to', st', ri', iI (ps_sc L t L 0 0 false).2.1, oc.2.1, oc.2.2.1, oc.2.2.2.1, oc.2.2.2.2.1, oc.2.2.2.2.2.1, oc.2.2.2.2.2.2.1, oc.2.2.2.2.2.2.2.1, oc.2.2.2.2.2.2.2.2.1, oc.2.2.2.2.2.2.2.2.2.1, oc.2.2.2.2.2.2.2.2.2.2.1, ku', pu', vu', oc.2.2.2.2.2.2.2.2.2.2.2.1, oc.2.2.2.2.2.2.2.2.2.2.2.2.1, oc.2.2.2.2.2.2.2.2.2.2.2.2.2.1, oc.2.2.2.2.2.2.2.2.2.2.2.2.2.2.1, oc.2.2.2.2.2.2.2.2.2.2.2.2.2.2.2) := by
      rw [sm_tot_u, fn_LS_buildNext_q0]
      unfold fn_LS_buildNext_b0
      rw [p1, Option.bind_some]
      dsimp only
      rw [if_neg bI_t, o1]
      rfl
    have hMR : ∀ v : Option (Nat × Int32 × Int32 × Int32 × Int32 × Int32 × Int32 × Int32 × Int32 × Int32 × Int32 × Int32 × Int32 × Int32 × (Nat → Int32) × (Nat → Int32) × (Nat → Int32) × (Nat → Int32) × (Nat → Int32) × (Nat → Int32) × (Nat → Int32) × (Nat → Int32) × (Nat → Int32) × (Nat → Int32) × (Nat → Int32) × (Nat → Int32) ⊕ Int32 × Int32 × Int32 × Int32 × Int32 × Int32 × Int32 × Int32 × Int32 × Int32 × Int32 × Int32 × Int32 × Int32 × (Nat → Int32) × (Nat → Int32) × (Nat → Int32) × (Nat → Int32) × (Nat → Int32) × (Nat → Int32) × (Nat → Int32) × (Nat → Int32) × (Nat → Int32) × (Nat → Int32) × (Nat → Int32) × (Nat → Int32)), fn_MO_read_b0 cu th (iI L) wr wds dv dsl dr kno mro mva mco isp ib mk mp mv dl dn ds mlt mnu il cs mtd mcc = v → sm_tot (fn_MO_read cu) (0, th, iI L, wr, wds, dv, dsl, dr, kno, mro, mva, mco, isp, ib, mk, mp, mv, dl, dn, ds, mlt, mnu, il, cs, mtd, mcc) = sm_ev (fn_MO_read cu) v := by
      intro v hv
      rw [sm_tot_u, fn_MO_read_q0, hv]
    rcases o3 with ⟨fc, pl, f1, f2, f3, f4, f5, f6⟩ | ⟨R, nv, lt, A, B, sgn, ca1, ca', cb', cl', c1', c2', dl', dn', ds', N, y1, y2, y3, y4, y5, y6, wr', r1, r2, hI, rfl, rfl, r3⟩
    · left
      rw [f3, f4] at hBN
      refine ⟨iI fc, iI pl, to', st', ri', iI (ps_sc L t L 0 0 false).2.1, oc.2.1, oc.2.2.1, oc.2.2.2.1, oc.2.2.2.2.1, oc.2.2.2.2.2.1, oc.2.2.2.2.2.2.1, iI pl, oc.2.2.2.2.2.2.2.2.1, oc.2.2.2.2.2.2.2.2.2.1, oc.2.2.2.2.2.2.2.2.2.2.1, ku', pu', vu', oc.2.2.2.2.2.2.2.2.2.2.2.1, oc.2.2.2.2.2.2.2.2.2.2.2.2.1, oc.2.2.2.2.2.2.2.2.2.2.2.2.2.1, oc.2.2.2.2.2.2.2.2.2.2.2.2.2.2.1, oc.2.2.2.2.2.2.2.2.2.2.2.2.2.2.2, iI ((ps_lx L t L 0).length : Nat), orf.2.2.1, orf.2.2.2.1, orf.2.2.2.2.1, mk', mp', mv', orf.2.2.2.2.2.1, orf.2.2.2.2.2.2.1, orf.2.2.2.2.2.2.2, ?_, ?_⟩
      · rw [sm_tot_u, fn_LS_read_q0]
        unfold fn_LS_read_b0
        rw [hBN, Option.bind_some]
        dsimp only
        rw [if_neg (show ¬ iI fc = 0 by rw [il_0, ii_eq (by omega) (by omega) (by omega) (by omega)]; omega), sm_ev_l, sm_tot_u, fn_LS_read_q21]
        rfl
      · rw [sm_tot_u, fn_MO_read_q0]
        unfold fn_MO_read_b0
        rw [m1, Option.bind_some]
        dsimp only
        rw [hbad, Option.bind_some, if_pos (show iI (-1) < 0 by decide), o2, Option.bind_some, f5, if_neg (show ¬ iI fc = 0 by rw [il_0, ii_eq (by omega) (by omega) (by omega) (by omega)]; omega), f6]
        rfl
    · right
      obtain ⟨i1, i2, i3, i4, i5, i6, i7, i8, i9, i10, i11⟩ := hI
      obtain ⟨ns, hns⟩ : ∃ ns, ns = bj_c sgn R := ⟨_, rfl⟩
      have hAA : ∀ r c, r < R → c < nv + ns → ca' r c = iI (if r < R then bj_AA nv A sgn r c else 0) := by
        intro r c h3 h4
        rw [r3 r c, if_pos h3]
        unfold bj_AA
        by_cases q : sgn r ≠ 0 ∧ c = nv + bj_c sgn r
        · rw [if_pos ⟨h3, q⟩, if_pos q]
        · rw [if_neg (fun g => q g.2), if_neg q, (i4 r c (by omega) (by omega)).1]
      have hab : ∀ r c, (if r < R then bj_AA nv A sgn r c else 0).natAbs ≤ 20 := by
        intro r c
        by_cases q : r < R
        · rw [if_pos q]
          unfold bj_AA
          by_cases q2 : sgn r ≠ 0 ∧ c = nv + bj_c sgn r
          · rw [if_pos q2]
            have := (i6 r q).2.2
            omega
          · rw [if_neg q2]
            exact (i11 r q).1 c
        · rw [if_neg q]
          decide
      have hbb : ∀ r, (if r < R then B r else 0).natAbs ≤ 200 := by
        intro r
        by_cases q : r < R
        · rw [if_pos q]
          exact (i11 r q).2
        · rw [if_neg q]
          decide
      obtain ⟨kv', he', wi', us', bs', ra', kr', fr', l1', l2'⟩ := la_build (h := R) (nv := nv) (ns := ns) (ca := ca') (A := fun r c => if r < R then bj_AA nv A sgn r c else 0) r2 (by omega) hAA hab kv he wi us bs ra kr fr
      obtain ⟨td', t1, t2⟩ := ja_fill (n := 6) (by decide) 0 td
      obtain ⟨cc', u1, u2⟩ := ja_fill (n := 6) (by decide) 0 cc
      obtain ⟨mlt', mnu', il', cs', mtd', mcc', k1, k2, k3, k4, k5⟩ := mo_take (R := R) (nv := nv) (ns := ns) (sgn := sgn) (A := A) (B := B) (lt := lt) (dl := dl') (dn := dn') (ds := ds') r2 (by omega) hns.symm (fun r c h3 h4 => (i4 r c (by omega) h4).2) (fun r h3 => by have := (i5 r (by omega)).2; rw [if_neg (by omega), Int.sub_zero] at this; exact this) (fun r h3 => (i6 r h3).2) i7 (fun c h3 => (i2 c h3).2.1) wr' kno mro mva mco isp ib mlt mnu il cs mtd mcc
      rw [← hns] at hBN o2
      refine ⟨R, nv, ns, lt, fun r c => if r < R then bj_AA nv A sgn r c else 0, fun r => if r < R then B r else 0, to', st', ri', iI (ps_sc L t L 0 0 false).2.1, y1, y2, y3, y4, y5, y6, -1, kv', he', wi', us', ku', pu', vu', ca', cb', cl', c1', c2', bs', ra', kr', fr', cc', td', iI ((ps_lx L t L 0).length : Nat), iI nv, iI ns, iI R, mk', mp', mv', dl', dn', ds', mlt', mnu', il', cs', mtd', mcc', ?_, ?_, ?_, ?_, fun q h3 => (k4 q h3).1⟩
      · have hTN : sm_tot (fn_LS_takeNext (iI R) (iI nv) (iI ns) ca' sy re) (0, sy, hs, hp, hb, re, kv, he, wi, us, l0, l1, l2, bs, ra, kr, fr, cc, td) = some (re, 1, 0, 0, sy, kv', he', wi', us', 0, 0, 0, bs', ra', kr', fr', cc', td') := by
          rw [sm_tot_u, fn_LS_takeNext_q0]
          unfold fn_LS_takeNext_b0
          rw [l1', Option.bind_some, vl_drop, Option.bind_some, vl_drop, Option.bind_some, vl_drop, Option.bind_some, t1, Option.bind_some, u1]
          rfl
        rw [sm_tot_u, fn_LS_read_q0]
        unfold fn_LS_read_b0
        rw [hBN, Option.bind_some]
        dsimp only
        rw [if_pos rfl, hTN, Option.bind_some, sm_ev_l, sm_tot_u, fn_LS_read_q21]
        rfl
      · rw [sm_tot_u, fn_MO_read_q0]
        unfold fn_MO_read_b0
        rw [m1, Option.bind_some]
        dsimp only
        rw [hbad, Option.bind_some, if_pos (show iI (-1) < 0 by decide), o2, Option.bind_some]
        dsimp only
        rw [if_pos rfl, k1]
        rfl
      · refine ⟨rfl, rfl, r2, by omega, hab, hbb, rfl, rfl, rfl, hAA, fun r h3 => ?_, fun c h3 => ⟨(i2 c h3).1, k2 c h3⟩, fun _ => ⟨rfl, rfl, rfl, ⟨r2, by omega, fun r c h3 h4 => ⟨?_, hab r c⟩, fun r h3 => ⟨?_, hbb r⟩⟩, l2'⟩, fun q => by cases q⟩
        · show cb' r = iI (if r < R then B r else 0)
          rw [if_pos h3, (i5 r (by omega)).1]
        · show mnu' (7 * r + c) = iI (if r < R then bj_AA nv A sgn r c else 0)
          rw [if_pos h3, (k3 r h3).1 c h4]
        · show mnu' (7 * r + (nv + ns)) = iI (if r < R then B r else 0)
          rw [if_pos h3, (k3 r h3).2]
      · intro q h3
        refine ⟨?_, ?_, (k5 q h3).1, (k5 q h3).2⟩
        · rw [t2 q, if_pos h3]
        · rw [u2 q, if_pos h3]
end J9
