/-! the reference's builder, a word at a time -/
section MSW
variable {j R nv ns : Nat} {kk pp vv : Nat → Int32} {sd sg : Int} {x4 wr : Int32} {dl dn ds : Nat → Int32}
theorem ii_g {a : Int} {N : Nat} (h0 : 0 ≤ a) (h1 : a < N) (hN : N ≤ 100000) : ¬ (iI a < 0 ∨ N ≤ (iI a).toNatClampNeg) := by
  rw [il_0, ii_lt (by omega) (by omega) (by omega) (by omega), ii_nat (by omega) (by omega)]
  omega
theorem mo_403 {y2 y3 y4 y5 y6 y7 y8 y9 : Int32} : sm_tot (fn_MO_build kk pp vv) (403, iI j, y2, y3, y4, y5, y6, y7, y8, y9, wr, iI nv, iI ns, iI R, dl, dn, ds) = sm_tot (fn_MO_build kk pp vv) (74, iI ((j + 1 : Nat) : Int), y2, y3, y4, 0, 0, 0, 0, 0, wr, iI nv, iI ns, iI R, dl, dn, ds) := by
  rw [sm_tot_u, fn_MO_build_q403]
  unfold fn_MO_build_b403
  rw [sm_ev_l, il_1, ii_add]
  rfl
/-- the first looks of a word -/
theorem mo_74 (hj : j < 301) {k : Int} (hk : 0 ≤ k ∧ k ≤ 10) (hkk : kk j = iI k) (h6 : k ≠ 6) (h0 : k ≠ 0) : fn_MO_build kk pp vv (74, iI j, iI sg, iI sd, x4, 0, 0, 0, 0, 0, wr, iI nv, iI ns, iI R, dl, dn, ds) =
    (if k = 3 then (some (.inl (114, iI j, 0, iI sd, x4, iI k, 0, 0, 0, 0, wr, iI nv, iI ns, iI R, dl, dn, ds))) else (if k = 4 then (some (.inl (114, iI j, 0, iI sd, x4, iI k, 0, 0, 0, 0, wr, iI nv, iI ns, iI R, dl, dn, ds))) else (if k < 7 then (if k = 1 then (if ¬ (((iI j + 1) : Int32) < 0 ∨ 301 ≤ ((iI j + 1) : Int32).toNatClampNeg) then if ((kk ((iI j + 1) : Int32).toNatClampNeg) : Int32) = 2 then (some (.inl (180, iI j, iI sg, iI sd, x4, 0, 0, 0, 0, 0, wr, iI nv, iI ns, iI R, dl, dn, ds))) else (if ¬ (((iI j + 1) : Int32) < 0 ∨ 301 ≤ ((iI j + 1) : Int32).toNatClampNeg) then if ((kk ((iI j + 1) : Int32).toNatClampNeg) : Int32) = 5 then (some (.inl (180, iI j, iI sg, iI sd, x4, 0, 0, 0, 0, 0, wr, iI nv, iI ns, iI R, dl, dn, ds))) else (some (.inl (181, iI j, iI sg, iI sd, x4, 0, 0, 0, 1, 0, wr, iI nv, iI ns, iI R, dl, dn, ds))) else none) else none) else (if k = 2 then ((sm_tot (fn_MO_draftColumn (vv j) (iI nv) dl) (0, 0, 0, 0)).bind (fun r2 => if (0 : Int32) ≤ r2 then (some (.inl (310, iI j, iI sg, iI sd, x4, 0, r2, 0, 0, 0, wr, iI nv, iI ns, iI R, dl, dn, ds))) else (if ((iI nv + iI ns) : Int32) = 6 then ((sm_tot (fn_MO_fault 2 (pp j)) (0, wr)).bind (fun r3 => some (.inr (r3.1, r3.2, iI nv, iI ns, iI R, dl, dn, ds)))) else (if ¬ ((iI nv : Int32) < 0 ∨ 6 ≤ (iI nv : Int32).toNatClampNeg) then some (.inl (310, iI j, iI sg, iI sd, x4, 0, iI nv, 0, 0, 0, wr, (iI nv + 1), iI ns, iI R, (upd dl (iI nv : Int32).toNatClampNeg (vv j)), dn, ds)) else none)))) else (some (.inl (403, iI j, iI sg, iI sd, x4, 0, 0, 0, 0, 0, wr, iI nv, iI ns, iI R, dl, dn, ds))))) else (some (.inl (403, iI j, 1, (-1), iI j, 0, 0, 0, 0, 0, wr, iI nv, iI ns, iI R, dl, dn, ds)))))) := by
  have i2 : ((j : Int)).toNat = j := by omega
  have g1 : ¬ (iI (j : Int) < 0 ∨ 301 ≤ (iI (j : Int)).toNatClampNeg) := ii_g (by omega) (by omega) (by omega)
  rw [fn_MO_build_q74]
  unfold fn_MO_build_b74
  simp only [if_pos g1]
  rw [ii_nat (a := (j : Int)) (by omega) (by omega), i2, hkk]
  rw [if_neg (show ¬ iI k = 6 by rw [il_6, ii_eq (by omega) (by omega) (by omega) (by omega)]; exact h6), if_neg (show ¬ iI k = 0 by rw [il_0, ii_eq (by omega) (by omega) (by omega) (by omega)]; exact h0)]
  rw [ie_n (show (iI k = 3) = (k = 3) by rw [il_3, ii_eq (by omega) (by omega) (by omega) (by omega)]), ie_n (show (iI k = 4) = (k = 4) by rw [il_4, ii_eq (by omega) (by omega) (by omega) (by omega)]), ie_n (show (iI k < 7) = (k < 7) by rw [il_7, ii_lt (by omega) (by omega) (by omega) (by omega)]), ie_n (show (iI k = 1) = (k = 1) by rw [il_1, ii_eq (by omega) (by omega) (by omega) (by omega)]), ie_n (show (iI k = 2) = (k = 2) by rw [il_2, ii_eq (by omega) (by omega) (by omega) (by omega)])]
theorem mo_t1 (hR : R < 4) (hj : j + 1 < 301) (hkk : kk j = iI 1) {k1 v : Int} (hk1 : 0 ≤ k1 ∧ k1 ≤ 10) (hkk1 : kk (j + 1) = iI k1) (hv : vv j = iI v) :
    sm_tot (fn_MO_build kk pp vv) (74, iI j, iI sg, iI sd, x4, 0, 0, 0, 0, 0, wr, iI nv, iI ns, iI R, dl, dn, ds) = sm_tot (fn_MO_build kk pp vv) (74, iI ((j + 1 : Nat) : Int), iI sg, iI sd, x4, 0, 0, 0, 0, 0, wr, iI nv, iI ns, iI R, dl, if k1 = 2 ∨ k1 = 5 then dn else upd dn (7 * R + 6) (dn (7 * R + 6) - iI (sd * sg * v)), ds) := by
  have i2 : ((j : Int)).toNat = j := by omega
  have i3 : (((j + 1 : Nat) : Int)).toNat = j + 1 := by omega
  have i4 : (7 * (R : Int) + 6).toNat = 7 * R + 6 := by omega
  have g1 : ¬ (iI ((j + 1 : Nat) : Int) < 0 ∨ 301 ≤ (iI ((j + 1 : Nat) : Int)).toNatClampNeg) := ii_g (by omega) (by omega) (by omega)
  have e229 : ∀ u, sm_tot (fn_MO_build kk pp vv) (229, iI j, iI sg, iI sd, x4, 0, 0, 0, 0, 0, wr, iI nv, iI ns, iI R, dl, u, ds) = sm_tot (fn_MO_build kk pp vv) (74, iI ((j + 1 : Nat) : Int), iI sg, iI sd, x4, 0, 0, 0, 0, 0, wr, iI nv, iI ns, iI R, dl, u, ds) := fun u => by
    rw [sm_tot_u, fn_MO_build_q229]
    exact mo_403
  have e181 : ∀ b : Bool, sm_tot (fn_MO_build kk pp vv) (181, iI j, iI sg, iI sd, x4, 0, 0, 0, bI b, 0, wr, iI nv, iI ns, iI R, dl, dn, ds) = sm_tot (fn_MO_build kk pp vv) (74, iI ((j + 1 : Nat) : Int), iI sg, iI sd, x4, 0, 0, 0, 0, 0, wr, iI nv, iI ns, iI R, dl, if b = false then dn else upd dn (7 * R + 6) (dn (7 * R + 6) - iI (sd * sg * v)), ds) := fun b => by
    rw [sm_tot_u, fn_MO_build_q181]
    unfold fn_MO_build_b181
    cases b with
    | false => rw [if_pos (show bI false = 0 from rfl), sm_ev_l, e229, if_pos rfl]
    | true =>
      rw [if_neg (show ¬ bI true = 0 by decide), il_7, il_6, ii_mul, ii_add, if_pos (ii_g (a := 7 * (R : Int) + 6) (N := 28) (by omega) (by omega) (by omega)), if_pos (ii_g (a := (j : Int)) (N := 301) (by omega) (by omega) (by omega)), if_pos (ii_g (a := 7 * (R : Int) + 6) (N := 28) (by omega) (by omega) (by omega)), sm_ev_l, e229, ii_nat (by omega) (by omega), i4, ii_nat (by omega) (by omega), i2, hv, ii_mul, ii_mul, if_neg (show ¬ (true = false) by decide)]
  have e180 : sm_tot (fn_MO_build kk pp vv) (180, iI j, iI sg, iI sd, x4, 0, 0, 0, 0, 0, wr, iI nv, iI ns, iI R, dl, dn, ds) = sm_tot (fn_MO_build kk pp vv) (74, iI ((j + 1 : Nat) : Int), iI sg, iI sd, x4, 0, 0, 0, 0, 0, wr, iI nv, iI ns, iI R, dl, dn, ds) := by
    rw [sm_tot_u, fn_MO_build_q180]
    exact (e181 false).trans (by rw [if_pos rfl])
  rw [sm_tot_u, mo_74 (by omega) (k := 1) (by omega) hkk (by omega) (by omega), if_neg (by omega), if_neg (by omega), if_pos (by omega), if_pos rfl, ii_s, if_pos g1, if_pos g1, ii_nat (by omega) (by omega), i3, hkk1, il_2, ie_eq (by omega) (by omega) (by omega) (by omega), il_5, ie_eq (by omega) (by omega) (by omega) (by omega)]
  by_cases q : k1 = 2
  · rw [if_pos q, if_pos (Or.inl q), sm_ev_l, e180]
  · rw [if_neg q]
    by_cases q2 : k1 = 5
    · rw [if_pos q2, if_pos (Or.inr q2), sm_ev_l, e180]
    · rw [if_neg q2, if_neg (fun x => by omega), sm_ev_l]
      exact (e181 true).trans (by rw [if_neg (by decide)])
theorem mo_t3 (hj : j < 301) {k : Int} (hk : k = 3 ∨ k = 4) (hkk : kk j = iI k) :
    sm_tot (fn_MO_build kk pp vv) (74, iI j, iI sg, iI sd, x4, 0, 0, 0, 0, 0, wr, iI nv, iI ns, iI R, dl, dn, ds) = sm_tot (fn_MO_build kk pp vv) (74, iI ((j + 1 : Nat) : Int), iI (if k = 3 then 1 else -1), iI sd, x4, 0, 0, 0, 0, 0, wr, iI nv, iI ns, iI R, dl, dn, ds) := by
  have e125 : ∀ s, sm_tot (fn_MO_build kk pp vv) (125, iI j, 0, iI sd, x4, 0, 0, 0, s, 0, wr, iI nv, iI ns, iI R, dl, dn, ds) = sm_tot (fn_MO_build kk pp vv) (74, iI ((j + 1 : Nat) : Int), s, iI sd, x4, 0, 0, 0, 0, 0, wr, iI nv, iI ns, iI R, dl, dn, ds) := fun s => by
    rw [sm_tot_u, fn_MO_build_q125]
    exact mo_403
  rw [sm_tot_u, mo_74 hj (k := k) (by omega) hkk (by omega) (by omega)]
  rcases hk with rfl | rfl
  · rw [if_pos rfl, sm_ev_l, sm_tot_u, fn_MO_build_q114, if_pos rfl]
    exact e125 1
  · rw [if_neg (by decide), if_pos rfl, sm_ev_l, sm_tot_u, fn_MO_build_q114, if_neg (by decide)]
    exact e125 (-1)
theorem mo_t5 (hj : j < 301) (hkk : kk j = iI 5) :
    sm_tot (fn_MO_build kk pp vv) (74, iI j, iI sg, iI sd, x4, 0, 0, 0, 0, 0, wr, iI nv, iI ns, iI R, dl, dn, ds) = sm_tot (fn_MO_build kk pp vv) (74, iI ((j + 1 : Nat) : Int), iI sg, iI sd, x4, 0, 0, 0, 0, 0, wr, iI nv, iI ns, iI R, dl, dn, ds) := by
  rw [sm_tot_u, mo_74 hj (k := 5) (by omega) hkk (by omega) (by omega), if_neg (by decide), if_neg (by decide), if_pos (by decide), if_neg (by decide), if_neg (by decide), sm_ev_l]
  exact mo_403
theorem mo_t7 (hj : j < 301) {k : Int} (hk : k = 7 ∨ k = 8 ∨ k = 9) (hkk : kk j = iI k) :
    sm_tot (fn_MO_build kk pp vv) (74, iI j, iI sg, iI sd, x4, 0, 0, 0, 0, 0, wr, iI nv, iI ns, iI R, dl, dn, ds) = sm_tot (fn_MO_build kk pp vv) (74, iI ((j + 1 : Nat) : Int), iI 1, iI (-1), iI j, 0, 0, 0, 0, 0, wr, iI nv, iI ns, iI R, dl, dn, ds) := by
  rw [sm_tot_u, mo_74 hj (k := k) (by omega) hkk (by omega) (by omega), if_neg (by omega), if_neg (by omega), if_neg (by omega), sm_ev_l]
  exact mo_403
/-- a variable's number is what stands in front of it -/
def mo_many (j : Nat) (kk vv : Nat → Int32) (m : Int) : Prop := (1 ≤ j ∧ kk (j - 1) = iI 1 ∧ vv (j - 1) = iI m) ∨ (2 ≤ j ∧ kk (j - 1) = iI 5 ∧ kk (j - 2) = iI 1 ∧ vv (j - 2) = iI m) ∨ (m = 1 ∧ (j = 0 ∨ ∃ q : Int, kk (j - 1) = iI q ∧ 0 ≤ q ∧ q ≤ 10 ∧ q ≠ 1 ∧ q ≠ 5))
theorem mo_310 (hR : R < 4) (hj : j < 301) {k : Nat} (hk : k < 6) {m : Int} (hm : mo_many j kk vv m) :
    sm_tot (fn_MO_build kk pp vv) (310, iI j, iI sg, iI sd, x4, 0, iI k, 0, 0, 0, wr, iI nv, iI ns, iI R, dl, dn, ds) = sm_tot (fn_MO_build kk pp vv) (74, iI ((j + 1 : Nat) : Int), iI sg, iI sd, x4, 0, 0, 0, 0, 0, wr, iI nv, iI ns, iI R, dl, upd dn (7 * R + k) (dn (7 * R + k) + iI (sd * sg * m)), ds) := by
  have i4 : (7 * (R : Int) + (k : Int)).toNat = 7 * R + k := by omega
  have e364 : ∀ (m : Int) y, sm_tot (fn_MO_build kk pp vv) (364, iI j, iI sg, iI sd, x4, 0, iI k, 0, iI m, y, wr, iI nv, iI ns, iI R, dl, dn, ds) = sm_tot (fn_MO_build kk pp vv) (74, iI ((j + 1 : Nat) : Int), iI sg, iI sd, x4, 0, 0, 0, 0, 0, wr, iI nv, iI ns, iI R, dl, upd dn (7 * R + k) (dn (7 * R + k) + iI (sd * sg * m)), ds) := fun m y => by
    rw [sm_tot_u, fn_MO_build_q364]
    unfold fn_MO_build_b364
    rw [il_7, ii_mul, ii_add, if_pos (ii_g (a := 7 * (R : Int) + (k : Int)) (N := 28) (by omega) (by omega) (by omega)), if_pos (ii_g (a := 7 * (R : Int) + (k : Int)) (N := 28) (by omega) (by omega) (by omega)), ii_nat (by omega) (by omega), i4, ii_mul, ii_mul, sm_ev_l]
    exact mo_403
  have e363 : ∀ x y, sm_tot (fn_MO_build kk pp vv) (363, iI j, iI sg, iI sd, x4, 0, iI k, 0, x, y, wr, iI nv, iI ns, iI R, dl, dn, ds) = sm_tot (fn_MO_build kk pp vv) (74, iI ((j + 1 : Nat) : Int), iI sg, iI sd, x4, 0, 0, 0, 0, 0, wr, iI nv, iI ns, iI R, dl, upd dn (7 * R + k) (dn (7 * R + k) + iI (sd * sg * 1)), ds) := fun x y => by
    rw [sm_tot_u, fn_MO_build_q363]
    exact e364 1 _
  have e335 : ∀ (p : Nat) (m : Int), p < 301 → kk p = iI 1 → vv p = iI m → sm_tot (fn_MO_build kk pp vv) (335, iI j, iI sg, iI sd, x4, 0, iI k, 0, iI p, 0, wr, iI nv, iI ns, iI R, dl, dn, ds) = sm_tot (fn_MO_build kk pp vv) (74, iI ((j + 1 : Nat) : Int), iI sg, iI sd, x4, 0, 0, 0, 0, 0, wr, iI nv, iI ns, iI R, dl, upd dn (7 * R + k) (dn (7 * R + k) + iI (sd * sg * m)), ds) := fun p m hp h1 h2 => by
    have ip : ((p : Int)).toNat = p := by omega
    rw [sm_tot_u, fn_MO_build_q335]
    unfold fn_MO_build_b335
    rw [if_neg (show ¬ iI (p : Int) < 0 by rw [il_0, ii_lt (by omega) (by omega) (by omega) (by omega)]; omega), if_pos (ii_g (a := (p : Int)) (N := 301) (by omega) (by omega) (by omega)), if_pos (ii_g (a := (p : Int)) (N := 301) (by omega) (by omega) (by omega)), ii_nat (by omega) (by omega), ip, h1, h2, if_pos (show iI 1 = 1 from rfl), sm_ev_l]
    exact e364 m _
  rw [sm_tot_u, fn_MO_build_q310]
  unfold fn_MO_build_b310
  have i2 : 1 ≤ j → ((j : Int) - 1).toNat = j - 1 := fun h => by omega
  rw [ie_n (show (iI (j : Int) ≤ 0) = ((j : Int) ≤ 0) by rw [il_0, ii_le (by omega) (by omega) (by omega) (by omega)]), show iI (j : Int) - 1 = iI ((j : Int) - 1) by rw [il_1, ii_sub]]
  have e332 : ∀ x y, sm_tot (fn_MO_build kk pp vv) (332, iI j, iI sg, iI sd, x4, 0, iI k, 0, x, y, wr, iI nv, iI ns, iI R, dl, dn, ds) = sm_tot (fn_MO_build kk pp vv) (335, iI j, iI sg, iI sd, x4, 0, iI k, 0, iI ((j : Int) - 1), 0, wr, iI nv, iI ns, iI R, dl, dn, ds) := fun x y => by
    rw [sm_tot_u, fn_MO_build_q332]
    unfold fn_MO_build_b332
    rw [sm_ev_l, il_1, ii_sub]
  rcases hm with ⟨h1, h2, h3⟩ | ⟨h1, h2, h3, h4⟩ | ⟨rfl, h2⟩
  · rw [if_neg (by omega), if_pos (ii_g (a := (j : Int) - 1) (N := 301) (by omega) (by omega) (by omega)), ii_nat (by omega) (by omega), i2 h1, h2, if_neg (show ¬ iI 1 = 5 by decide), sm_ev_l]
    refine (e332 _ _).trans ?_
    rw [show (j : Int) - 1 = ((j - 1 : Nat) : Int) by omega]
    exact e335 (j - 1) m (by omega) h2 h3
  · rw [if_neg (by omega), if_pos (ii_g (a := (j : Int) - 1) (N := 301) (by omega) (by omega) (by omega)), ii_nat (by omega) (by omega), i2 (by omega), h2, if_pos (show iI 5 = 5 from rfl), sm_ev_l, il_2, ii_sub, show (j : Int) - 2 = ((j - 2 : Nat) : Int) by omega]
    exact e335 (j - 2) m (by omega) h3 h4
  · rcases Nat.eq_zero_or_pos j with h0 | h0
    · subst h0
      rw [if_pos (by omega), sm_ev_l]
      refine (e332 _ _).trans ?_
      rw [sm_tot_u, fn_MO_build_q335]
      unfold fn_MO_build_b335
      rw [if_pos (show iI (((0 : Nat) : Int) - 1) < 0 by decide), sm_ev_l]
      exact e363 _ _
    · rcases h2 with h2 | ⟨q, q1, q2, q3, q4, q5⟩
      · omega
      · rw [if_neg (by omega), if_pos (ii_g (a := (j : Int) - 1) (N := 301) (by omega) (by omega) (by omega)), ii_nat (by omega) (by omega), i2 (by omega), q1, if_neg (show ¬ iI q = 5 by rw [il_5, ii_eq (by omega) (by omega) (by omega) (by omega)]; exact q5), sm_ev_l]
        refine (e332 _ _).trans ?_
        rw [sm_tot_u, fn_MO_build_q335]
        unfold fn_MO_build_b335
        rw [if_neg (show ¬ iI ((j : Int) - 1) < 0 by rw [il_0, ii_lt (by omega) (by omega) (by omega) (by omega)]; omega), if_pos (ii_g (a := (j : Int) - 1) (N := 301) (by omega) (by omega) (by omega)), ii_nat (by omega) (by omega), i2 (by omega), q1, if_neg (show ¬ iI q = 1 by rw [il_1, ii_eq (by omega) (by omega) (by omega) (by omega)]; exact q4), sm_ev_l]
        exact e363 _ _
theorem mo_t2_old (hR : R < 4) (hj : j < 301) (hkk : kk j = iI 2) {k : Nat} (hk : k < 6) (hc : sm_tot (fn_MO_draftColumn (vv j) (iI nv) dl) (0, 0, 0, 0) = some (iI k)) {m : Int} (hm : mo_many j kk vv m) :
    sm_tot (fn_MO_build kk pp vv) (74, iI j, iI sg, iI sd, x4, 0, 0, 0, 0, 0, wr, iI nv, iI ns, iI R, dl, dn, ds) = sm_tot (fn_MO_build kk pp vv) (74, iI ((j + 1 : Nat) : Int), iI sg, iI sd, x4, 0, 0, 0, 0, 0, wr, iI nv, iI ns, iI R, dl, upd dn (7 * R + k) (dn (7 * R + k) + iI (sd * sg * m)), ds) := by
  rw [sm_tot_u, mo_74 hj (k := 2) (by omega) hkk (by omega) (by omega), if_neg (by decide), if_neg (by decide), if_pos (by decide), if_neg (by decide), if_pos rfl, hc, Option.bind_some, if_pos (show (0 : Int32) ≤ iI (k : Int) by rw [il_0, ii_le (by omega) (by omega) (by omega) (by omega)]; omega), sm_ev_l]
  exact mo_310 hR hj hk hm
theorem mo_t2_new (hR : R < 4) (hj : j < 301) (hkk : kk j = iI 2) (hn : nv + ns < 6) (hc : sm_tot (fn_MO_draftColumn (vv j) (iI nv) dl) (0, 0, 0, 0) = some (iI (-1))) {m : Int} (hm : mo_many j kk vv m) :
    sm_tot (fn_MO_build kk pp vv) (74, iI j, iI sg, iI sd, x4, 0, 0, 0, 0, 0, wr, iI nv, iI ns, iI R, dl, dn, ds) = sm_tot (fn_MO_build kk pp vv) (74, iI ((j + 1 : Nat) : Int), iI sg, iI sd, x4, 0, 0, 0, 0, 0, wr, iI ((nv + 1 : Nat) : Int), iI ns, iI R, upd dl nv (vv j), upd dn (7 * R + nv) (dn (7 * R + nv) + iI (sd * sg * m)), ds) := by
  have i2 : ((nv : Int)).toNat = nv := by omega
  rw [sm_tot_u, mo_74 hj (k := 2) (by omega) hkk (by omega) (by omega), if_neg (by decide), if_neg (by decide), if_pos (by decide), if_neg (by decide), if_pos rfl, hc, Option.bind_some, if_neg (show ¬ (0 : Int32) ≤ iI (-1) by decide), ii_add, if_neg (show ¬ iI ((nv : Int) + (ns : Int)) = 6 by rw [il_6, ii_eq (by omega) (by omega) (by omega) (by omega)]; omega), if_pos (ii_g (a := (nv : Int)) (N := 6) (by omega) (by omega) (by omega)), ii_nat (by omega) (by omega), i2, sm_ev_l, il_1, ii_add]
  exact mo_310 (nv := nv + 1) hR hj (by omega) hm
theorem mo_t2_full (hj : j < 301) (hkk : kk j = iI 2) (hn : nv + ns = 6) (hc : sm_tot (fn_MO_draftColumn (vv j) (iI nv) dl) (0, 0, 0, 0) = some (iI (-1))) :
    sm_tot (fn_MO_build kk pp vv) (74, iI j, iI sg, iI sd, x4, 0, 0, 0, 0, 0, wr, iI nv, iI ns, iI R, dl, dn, ds) = some (iI 2, pp j, iI nv, iI ns, iI R, dl, dn, ds) := by
  rw [sm_tot_u, mo_74 hj (k := 2) (by omega) hkk (by omega) (by omega), if_neg (by decide), if_neg (by decide), if_pos (by decide), if_neg (by decide), if_pos rfl, hc, Option.bind_some, if_neg (show ¬ (0 : Int32) ≤ iI (-1) by decide), ii_add, if_pos (show iI ((nv : Int) + (ns : Int)) = 6 by rw [il_6, ii_eq (by omega) (by omega) (by omega) (by omega)]; omega), sm_tot_u (st := fn_MO_fault 2 (pp j)), fn_MO_fault_q0]
  rfl
/-- the numbers of a row are looked at -/
theorem mo_497 (hR : R < 4) (hj : j < 301) {ri : Nat} (hri : ri < 301) {V : Nat → Int} (hV : ∀ c, c < 7 → dn (7 * R + c) = iI (V c) ∧ (V c).natAbs ≤ 100000000) {kj : Int} (hkj : kj = 6 ∨ kj = 0) (hkk : kk j = iI kj) :
    ∀ (d c : Nat), c + d = 7 → sm_tot (fn_MO_build kk pp vv) (497, iI j, 0, 0, iI ri, 0, iI c, 0, 0, 0, wr, iI nv, iI ns, iI R, dl, dn, ds) = if sx_alf (fun c => decide ((V c).natAbs ≤ if c = 6 then 200 else 20)) d c = true then sm_tot (fn_MO_build kk pp vv) (38, iI ((if kj = 6 then j + 1 else j : Nat) : Int), 0, 0, 0, 0, 0, 0, 0, 0, wr, iI nv, iI ns, iI ((R + 1 : Nat) : Int), dl, dn, ds) else some (iI 3, pp ri, iI nv, iI ns, iI R, dl, dn, ds) := by
  have i2 : ((j : Int)).toNat = j := by omega
  have iri : ((ri : Int)).toNat = ri := by omega
  have e553 : ∀ a b c e f g h k, sm_tot (fn_MO_build kk pp vv) (553, a, b, c, iI ri, e, f, g, h, k, wr, iI nv, iI ns, iI R, dl, dn, ds) = some (iI 3, pp ri, iI nv, iI ns, iI R, dl, dn, ds) := fun a b c e f g h k => by
    rw [sm_tot_u, fn_MO_build_q553]
    unfold fn_MO_build_b553
    rw [if_pos (ii_g (a := (ri : Int)) (N := 301) (by omega) (by omega) (by omega)), ii_nat (by omega) (by omega), iri, sm_tot_u (st := fn_MO_fault 3 (pp ri)), fn_MO_fault_q0]
    rfl
  intro d
  induction d with
  | zero =>
    intro c hc
    rw [if_pos (show sx_alf (fun c => decide ((V c).natAbs ≤ if c = 6 then 200 else 20)) 0 c = true from rfl), sm_tot_u, fn_MO_build_q497]
    unfold fn_MO_build_b497
    rw [if_pos (show (7 : Int32) ≤ iI (c : Int) by rw [il_7, ii_le (by omega) (by omega) (by omega) (by omega)]; omega), if_pos (ii_g (a := (j : Int)) (N := 301) (by omega) (by omega) (by omega)), ii_nat (by omega) (by omega), i2, hkk, il_1, ii_add, ii_add]
    have e600 : ∀ (s : Nat), sm_tot (fn_MO_build kk pp vv) (600, 0, 0, 0, 0, 0, 0, 0, iI s, 0, wr, iI nv, iI ns, iI ((R : Int) + 1), dl, dn, ds) = sm_tot (fn_MO_build kk pp vv) (38, iI s, 0, 0, 0, 0, 0, 0, 0, 0, wr, iI nv, iI ns, iI ((R + 1 : Nat) : Int), dl, dn, ds) := fun s => by
      rw [sm_tot_u, fn_MO_build_q600]
      rfl
    rcases hkj with rfl | rfl
    · rw [if_pos (show iI 6 = 6 from rfl), if_pos rfl, sm_ev_l]
      exact e600 (j + 1)
    · rw [if_neg (show ¬ iI 0 = 6 by decide), if_neg (by decide), sm_ev_l]
      exact e600 j
  | succ d ih =>
    intro c hc
    obtain ⟨h1, h2⟩ := hV c (by omega)
    have i4 : (7 * (R : Int) + (c : Int)).toNat = 7 * R + c := by omega
    have e536 : ∀ M : Nat, M ≤ 1000 → sm_tot (fn_MO_build kk pp vv) (536, iI j, 0, 0, iI ri, 0, iI c, iI (V c), iI M, 0, wr, iI nv, iI ns, iI R, dl, dn, ds) = if (V c).natAbs ≤ M then sm_tot (fn_MO_build kk pp vv) (497, iI j, 0, 0, iI ri, 0, iI ((c + 1 : Nat) : Int), 0, 0, 0, wr, iI nv, iI ns, iI R, dl, dn, ds) else some (iI 3, pp ri, iI nv, iI ns, iI R, dl, dn, ds) := fun M hM => by
      rw [sm_tot_u, fn_MO_build_q536]
      unfold fn_MO_build_b536
      rw [ie_lt (by omega) (by omega) (by omega) (by omega), ii_neg, ie_le (by omega) (by omega) (by omega) (by omega), il_1, ii_add]
      by_cases q : (M : Int) < V c
      · rw [if_pos q, sm_ev_l, e553, if_neg (by omega)]
      · rw [if_neg q]
        by_cases q2 : -(M : Int) ≤ V c
        · rw [if_pos q2, sm_ev_l, if_pos (by omega)]
          rfl
        · rw [if_neg q2, sm_ev_l, e553, if_neg (by omega)]
    rw [sx_alf_s, sm_tot_u, fn_MO_build_q497]
    unfold fn_MO_build_b497
    rw [if_neg (show ¬ (7 : Int32) ≤ iI (c : Int) by rw [il_7, ii_le (by omega) (by omega) (by omega) (by omega)]; omega), il_7, ii_mul, ii_add, if_pos (ii_g (a := 7 * (R : Int) + (c : Int)) (N := 28) (by omega) (by omega) (by omega)), ii_nat (by omega) (by omega), i4, h1, ie_n (show (iI (c : Int) = 6) = (c = 6) by rw [il_6, ii_eq (by omega) (by omega) (by omega) (by omega)]; exact propext ⟨fun q => by omega, fun q => by omega⟩)]
    have h3 := ih (c + 1) (by omega)
    by_cases q : c = 6
    · rw [if_pos q, sm_ev_l, if_pos q]
      refine (e536 200 (by omega)).trans ?_
      by_cases q2 : (V c).natAbs ≤ 200
      · rw [if_pos q2, decide_eq_true q2, Bool.true_and]
        exact h3
      · rw [if_neg q2, decide_eq_false q2, Bool.false_and, if_neg (by decide)]
    · rw [if_neg q, sm_ev_l, if_neg q]
      refine (e536 20 (by omega)).trans ?_
      by_cases q2 : (V c).natAbs ≤ 20
      · rw [if_pos q2, decide_eq_true q2, Bool.true_and]
        exact h3
      · rw [if_neg q2, decide_eq_false q2, Bool.false_and, if_neg (by decide)]
end MSW
