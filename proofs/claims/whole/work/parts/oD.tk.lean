/-! the reference takes what it has built -/
def bj_AA (nv : Nat) (A : Nat → Nat → Int) (sgn : Nat → Int) (r c : Nat) : Int := if sgn r ≠ 0 ∧ c = nv + bj_c sgn r then sgn r else A r c
section MTK
variable {R nv ns : Nat} {A : Nat → Nat → Int} {B sgn : Nat → Int} {dl dn ds : Nat → Int32} {wr kn va co sp be : Int32} {le il sz td cs : Nat → Int32}
theorem tk_zero {r : Nat} (hr : r < 4) {x1 : Int32} {nu : Nat → Int32} : ∀ (d c : Nat) (u : Nat → Int32), c + d = 7 → (∀ q, q < c → u (7 * r + q) = iI 0) → (∀ q, q < 7 * r ∨ 7 * r + 7 ≤ q → u q = nu q) → ∃ u', sm_tot (fn_MO_take (iI nv) (iI ns) (iI R) dl dn ds) (56, x1, iI r, iI c, 0, 0, wr, kn, iI R, iI nv, co, sp, be, le, u, il, sz, td, cs) = sm_tot (fn_MO_take (iI nv) (iI ns) (iI R) dl dn ds) (82, x1, iI r, iI ((0 : Nat) : Int), 0, 0, wr, kn, iI R, iI nv, co, sp, be, le, u', il, sz, td, cs) ∧ (∀ q, q < 7 → u' (7 * r + q) = iI 0) ∧ ∀ q, q < 7 * r ∨ 7 * r + 7 ≤ q → u' q = nu q := by
  intro d
  induction d with
  | zero =>
    intro c u hc h1 h2
    refine ⟨u, ?_, fun q hq => h1 q (by omega), h2⟩
    rw [sm_tot_u, fn_MO_take_q56]
    unfold fn_MO_take_b56
    rw [if_pos (show (7 : Int32) ≤ iI (c : Int) by rw [il_7, ii_le (by omega) (by omega) (by omega) (by omega)]; omega), sm_ev_l]
    rfl
  | succ d ih =>
    intro c u hc h1 h2
    have i4 : (7 * (r : Int) + (c : Int)).toNat = 7 * r + c := by omega
    obtain ⟨u', a1, a2, a3⟩ := ih (c + 1) (upd u (7 * r + c) 0) (by omega) (fun q hq => by
      show (if 7 * r + q = 7 * r + c then 0 else u (7 * r + q)) = iI 0
      by_cases e : q = c
      · rw [if_pos (by omega)]; rfl
      · rw [if_neg (by omega)]; exact h1 q (by omega)) (fun q hq => (if_neg (by omega)).trans (h2 q hq))
    refine ⟨u', ?_, a2, a3⟩
    rw [← a1, sm_tot_u, fn_MO_take_q56]
    unfold fn_MO_take_b56
    rw [if_neg (show ¬ (7 : Int32) ≤ iI (c : Int) by rw [il_7, ii_le (by omega) (by omega) (by omega) (by omega)]; omega), il_7, ii_mul, ii_add, if_pos (ii_g (a := 7 * (r : Int) + (c : Int)) (N := 28) (by omega) (by omega) (by omega)), ii_nat (by omega) (by omega), i4, ii_s, sm_ev_l]
theorem tk_copy {r : Nat} (hr : r < 4) (hn : nv ≤ 6) (hA : ∀ c, c < 6 → dn (7 * r + c) = iI (A r c)) {x1 : Int32} {nu : Nat → Int32} : ∀ (d c : Nat) (u : Nat → Int32), c + d = nv → (∀ q, q < 7 → u (7 * r + q) = iI (if q < c then A r q else 0)) → (∀ q, q < 7 * r ∨ 7 * r + 7 ≤ q → u q = nu q) → ∃ u', sm_tot (fn_MO_take (iI nv) (iI ns) (iI R) dl dn ds) (82, x1, iI r, iI c, 0, 0, wr, kn, iI R, iI nv, co, sp, be, le, u, il, sz, td, cs) = sm_tot (fn_MO_take (iI nv) (iI ns) (iI R) dl dn ds) (82, x1, iI r, iI nv, 0, 0, wr, kn, iI R, iI nv, co, sp, be, le, u', il, sz, td, cs) ∧ (∀ q, q < 7 → u' (7 * r + q) = iI (if q < nv then A r q else 0)) ∧ ∀ q, q < 7 * r ∨ 7 * r + 7 ≤ q → u' q = nu q := by
  intro d
  induction d with
  | zero =>
    intro c u hc h1 h2
    have e : c = nv := by omega
    subst e
    exact ⟨u, rfl, h1, h2⟩
  | succ d ih =>
    intro c u hc h1 h2
    have i4 : (7 * (r : Int) + (c : Int)).toNat = 7 * r + c := by omega
    obtain ⟨u', a1, a2, a3⟩ := ih (c + 1) (upd u (7 * r + c) (iI (A r c))) (by omega) (fun q hq => by
      show (if 7 * r + q = 7 * r + c then iI (A r c) else u (7 * r + q)) = _
      by_cases e : q = c
      · rw [if_pos (by omega), if_pos (by omega), e]
      · rw [if_neg (by omega), h1 q hq]
        by_cases e2 : q < c
        · rw [if_pos e2, if_pos (by omega)]
        · rw [if_neg e2, if_neg (by omega)]) (fun q hq => (if_neg (by omega)).trans (h2 q hq))
    refine ⟨u', ?_, a2, a3⟩
    rw [← a1, sm_tot_u, fn_MO_take_q82]
    unfold fn_MO_take_b82
    rw [if_neg (show ¬ iI (nv : Int) ≤ iI (c : Int) by rw [ii_le (by omega) (by omega) (by omega) (by omega)]; omega), il_7, ii_mul, ii_add, if_pos (ii_g (a := 7 * (r : Int) + (c : Int)) (N := 28) (by omega) (by omega) (by omega)), if_pos (ii_g (a := 7 * (r : Int) + (c : Int)) (N := 28) (by omega) (by omega) (by omega)), ii_nat (by omega) (by omega), i4, hA c (by omega), ii_s, sm_ev_l]
theorem tk_row {r : Nat} (hr : r < 4) (hns : nv + ns ≤ 6) (hcr : bj_c sgn r + (if sgn r = 0 then 0 else 1) ≤ ns) (hA : ∀ c, c < 6 → dn (7 * r + c) = iI (A r c)) (hB : dn (7 * r + 6) = iI (B r)) (hs : ds r = iI (sgn r)) (hs1 : -1 ≤ sgn r ∧ sgn r ≤ 1) (hz : ∀ c, nv ≤ c → A r c = 0) (nu : Nat → Int32) :
    ∃ u', sm_tot (fn_MO_take (iI nv) (iI ns) (iI R) dl dn ds) (56, iI ((nv + bj_c sgn r : Nat) : Int), iI r, iI ((0 : Nat) : Int), 0, 0, wr, kn, iI R, iI nv, iI ((nv + ns : Nat) : Int), sp, be, le, nu, il, sz, td, cs) = sm_tot (fn_MO_take (iI nv) (iI ns) (iI R) dl dn ds) (46, iI ((nv + bj_c sgn (r + 1) : Nat) : Int), iI ((r + 1 : Nat) : Int), 0, 0, 0, wr, kn, iI R, iI nv, iI ((nv + ns : Nat) : Int), sp, be, le, u', il, sz, td, cs) ∧ (∀ c, c < nv + ns → u' (7 * r + c) = iI (bj_AA nv A sgn r c)) ∧ u' (7 * r + (nv + ns)) = iI (B r) ∧ ∀ q, q < 7 * r ∨ 7 * r + 7 ≤ q → u' q = nu q := by
  obtain ⟨u1, a1, a2, a3⟩ := tk_zero (nv := nv) (ns := ns) (R := R) (dl := dl) (dn := dn) (ds := ds) (wr := wr) (kn := kn) (co := iI ((nv + ns : Nat) : Int)) (sp := sp) (be := be) (le := le) (il := il) (sz := sz) (td := td) (cs := cs) hr (x1 := iI ((nv + bj_c sgn r : Nat) : Int)) (nu := nu) 7 0 nu rfl (fun q hq => by omega) (fun _ _ => rfl)
  obtain ⟨u2, b1, b2, b3⟩ := tk_copy (nv := nv) (ns := ns) (R := R) (dl := dl) (dn := dn) (ds := ds) (wr := wr) (kn := kn) (co := iI ((nv + ns : Nat) : Int)) (sp := sp) (be := be) (le := le) (il := il) (sz := sz) (td := td) (cs := cs) hr (by omega) hA (x1 := iI ((nv + bj_c sgn r : Nat) : Int)) (nu := nu) nv 0 u1 (by omega) (fun q hq => by rw [a2 q hq, if_neg (by omega)]) a3
  have ir : ((r : Int)).toNat = r := by omega
  have i6 : (7 * (r : Int) + 6).toNat = 7 * r + 6 := by omega
  have in_ : (7 * (r : Int) + ((nv + ns : Nat) : Int)).toNat = 7 * r + (nv + ns) := by omega
  have isl : (7 * (r : Int) + ((nv + bj_c sgn r : Nat) : Int)).toNat = 7 * r + (nv + bj_c sgn r) := by omega
  have gr : ¬ (iI (r : Int) < 0 ∨ 4 ≤ (iI (r : Int)).toNatClampNeg) := ii_g (by omega) (by omega) (by omega)
  have e147 : ∀ x y z x1 (u : Nat → Int32), sm_tot (fn_MO_take (iI nv) (iI ns) (iI R) dl dn ds) (147, x1, iI r, x, y, z, wr, kn, iI R, iI nv, iI ((nv + ns : Nat) : Int), sp, be, le, u, il, sz, td, cs) = sm_tot (fn_MO_take (iI nv) (iI ns) (iI R) dl dn ds) (46, x1, iI ((r + 1 : Nat) : Int), 0, 0, 0, wr, kn, iI R, iI nv, iI ((nv + ns : Nat) : Int), sp, be, le, upd u (7 * r + (nv + ns)) (iI (B r)), il, sz, td, cs) := fun x y z x1 u => by
    rw [sm_tot_u, fn_MO_take_q147]
    unfold fn_MO_take_b147
    rw [il_7, il_6, ii_mul, ii_add, ii_add, if_pos (ii_g (a := 7 * (r : Int) + 6) (N := 28) (by omega) (by omega) (by omega)), if_pos (ii_g (a := 7 * (r : Int) + ((nv + ns : Nat) : Int)) (N := 28) (by omega) (by omega) (by omega)), ii_nat (by omega) (by omega), in_, ii_nat (by omega) (by omega), i6, hB, ii_s, sm_ev_l]
  have e82 : sm_tot (fn_MO_take (iI nv) (iI ns) (iI R) dl dn ds) (82, iI ((nv + bj_c sgn r : Nat) : Int), iI r, iI nv, 0, 0, wr, kn, iI R, iI nv, iI ((nv + ns : Nat) : Int), sp, be, le, u2, il, sz, td, cs) = sm_tot (fn_MO_take (iI nv) (iI ns) (iI R) dl dn ds) (46, iI ((nv + bj_c sgn (r + 1) : Nat) : Int), iI ((r + 1 : Nat) : Int), 0, 0, 0, wr, kn, iI R, iI nv, iI ((nv + ns : Nat) : Int), sp, be, le, upd (if sgn r = 0 then u2 else upd u2 (7 * r + (nv + bj_c sgn r)) (iI (sgn r))) (7 * r + (nv + ns)) (iI (B r)), il, sz, td, cs) := by
    rw [sm_tot_u, fn_MO_take_q82]
    unfold fn_MO_take_b82
    rw [if_pos (show iI (nv : Int) ≤ iI (nv : Int) by rw [ii_le (by omega) (by omega) (by omega) (by omega)]; omega), if_pos gr, if_pos gr, ii_nat (a := (r : Int)) (by omega) (by omega), ir, hs, ie_n (show (iI (sgn r) = 0) = (sgn r = 0) by rw [il_0, ii_eq (by omega) (by omega) (by omega) (by omega)]), bj_c_s]
    by_cases q : sgn r = 0
    · rw [if_pos q, if_pos q, if_pos q, sm_ev_l, e147]
      rfl
    · rw [if_neg q] at hcr
      rw [if_neg q, if_neg q, if_neg q, il_7, ii_mul, ii_add, if_pos (ii_g (a := 7 * (r : Int) + ((nv + bj_c sgn r : Nat) : Int)) (N := 28) (by omega) (by omega) (by omega)), ii_nat (by omega) (by omega), isl, ii_s, sm_ev_l, e147]
      rfl
  refine ⟨_, a1.trans (b1.trans e82), fun c hc => ?_, if_pos rfl, fun q hq => ?_⟩
  · refine (if_neg (by omega)).trans ?_
    have h2 := b2 c (by omega)
    have h3 : (if c < nv then A r c else 0) = A r c := by
      by_cases e : c < nv
      · rw [if_pos e]
      · rw [if_neg e, hz c (by omega)]
    rw [h3] at h2
    unfold bj_AA
    by_cases q : sgn r = 0
    · rw [if_pos q, if_neg (fun x => x.1 q)]
      exact h2
    · rw [if_neg q]
      by_cases q2 : c = nv + bj_c sgn r
      · rw [if_pos ⟨q, q2⟩, q2]
        exact if_pos rfl
      · rw [if_neg (fun x => q2 x.2)]
        exact (if_neg (by omega)).trans h2
  · refine (if_neg (by omega)).trans ?_
    by_cases e : sgn r = 0
    · rw [if_pos e]
      exact b3 q hq
    · rw [if_neg e] at hcr ⊢
      exact (if_neg (by omega)).trans (b3 q hq)
theorem tk_all (hR : R ≤ 4) (hns : nv + ns ≤ 6) (hcR : bj_c sgn R = ns) (hA : ∀ r c, r < R → c < 6 → dn (7 * r + c) = iI (A r c)) (hB : ∀ r, r < R → dn (7 * r + 6) = iI (B r)) (hs : ∀ r, r < R → ds r = iI (sgn r) ∧ -1 ≤ sgn r ∧ sgn r ≤ 1) (hz : ∀ r c, nv ≤ c → A r c = 0) :
    ∀ (d r : Nat) (u : Nat → Int32), r + d = R → (∀ r', r' < r → (∀ c, c < nv + ns → u (7 * r' + c) = iI (bj_AA nv A sgn r' c)) ∧ u (7 * r' + (nv + ns)) = iI (B r')) → ∃ u', sm_tot (fn_MO_take (iI nv) (iI ns) (iI R) dl dn ds) (46, iI ((nv + bj_c sgn r : Nat) : Int), iI r, 0, 0, 0, wr, kn, iI R, iI nv, iI ((nv + ns : Nat) : Int), sp, be, le, u, il, sz, td, cs) = sm_tot (fn_MO_take (iI nv) (iI ns) (iI R) dl dn ds) (181, 0, iI ((0 : Nat) : Int), 0, 0, 0, wr, kn, iI R, iI nv, iI ((nv + ns : Nat) : Int), sp, be, le, u', il, sz, td, cs) ∧ ∀ r', r' < R → (∀ c, c < nv + ns → u' (7 * r' + c) = iI (bj_AA nv A sgn r' c)) ∧ u' (7 * r' + (nv + ns)) = iI (B r') := by
  intro d
  induction d with
  | zero =>
    intro r u hr hu
    refine ⟨u, ?_, fun r' h' => hu r' (by omega)⟩
    rw [sm_tot_u, fn_MO_take_q46]
    unfold fn_MO_take_b46
    rw [if_pos (show iI (R : Int) ≤ iI (r : Int) by rw [ii_le (by omega) (by omega) (by omega) (by omega)]; omega), sm_ev_l]
    rfl
  | succ d ih =>
    intro r u hr hu
    have hm := bj_c_mono (sgn := sgn) (r := r + 1) R (by omega)
    rw [bj_c_s] at hm
    obtain ⟨u1, a1, a2, a3, a4⟩ := tk_row (nv := nv) (ns := ns) (R := R) (B := B) (dl := dl) (dn := dn) (ds := ds) (wr := wr) (kn := kn) (sp := sp) (be := be) (le := le) (il := il) (sz := sz) (td := td) (cs := cs) (show r < 4 by omega) hns (by omega) (fun c hc => hA r c (by omega) hc) (hB r (by omega)) (hs r (by omega)).1 (hs r (by omega)).2 (hz r) u
    obtain ⟨u', b1, b2⟩ := ih (r + 1) u1 (by omega) (fun r' h' => by
      by_cases e : r' = r
      · subst e
        exact ⟨a2, a3⟩
      · obtain ⟨c1, c2⟩ := hu r' (by omega)
        refine ⟨fun c hc => ?_, ?_⟩
        · rw [a4 _ (by omega)]; exact c1 c hc
        · rw [a4 _ (by omega)]; exact c2)
    refine ⟨u', Eq.trans ?_ (a1.trans b1), b2⟩
    rw [sm_tot_u, fn_MO_take_q46]
    unfold fn_MO_take_b46
    rw [if_neg (show ¬ iI (R : Int) ≤ iI (r : Int) by rw [ii_le (by omega) (by omega) (by omega) (by omega)]; omega), sm_ev_l]
    rfl
theorem tk_let {lt : Nat → Int} (hn : nv ≤ 6) (hl : ∀ c, c < nv → dl c = iI (lt c)) {nu : Nat → Int32} : ∀ (d c : Nat) (le td cs : Nat → Int32), c + d = 6 → (∀ q, q < c → q < nv → le q = iI (lt q)) → (∀ q, q < c → td q = 0 ∧ cs q = 0) → ∃ le' td' cs', sm_tot (fn_MO_take (iI nv) (iI ns) (iI R) dl dn ds) (181, 0, iI c, 0, 0, 0, wr, kn, iI R, iI nv, co, sp, be, le, nu, il, sz, td, cs) = sm_tot (fn_MO_take (iI nv) (iI ns) (iI R) dl dn ds) (233, 0, iI ((0 : Nat) : Int), 0, 0, 0, wr, kn, iI R, iI nv, co, sp, be, le', nu, il, sz, td', cs') ∧ (∀ q, q < nv → le' q = iI (lt q)) ∧ ∀ q, q < 6 → td' q = 0 ∧ cs' q = 0 := by
  intro d
  induction d with
  | zero =>
    intro c le td cs hc h1 h2
    refine ⟨le, td, cs, ?_, fun q hq => h1 q (by omega) hq, fun q hq => h2 q (by omega)⟩
    rw [sm_tot_u, fn_MO_take_q181]
    unfold fn_MO_take_b181
    rw [if_pos (show (6 : Int32) ≤ iI (c : Int) by rw [il_6, ii_le (by omega) (by omega) (by omega) (by omega)]; omega), sm_ev_l]
    rfl
  | succ d ih =>
    intro c le td cs hc h1 h2
    have i2 : ((c : Int)).toNat = c := by omega
    have gc : ¬ (iI (c : Int) < 0 ∨ 6 ≤ (iI (c : Int)).toNatClampNeg) := ii_g (by omega) (by omega) (by omega)
    have e210 : ∀ x y s, sm_tot (fn_MO_take (iI nv) (iI ns) (iI R) dl dn ds) (210, x, iI c, y, s, iI c, wr, kn, iI R, iI nv, co, sp, be, le, nu, il, sz, td, cs) = sm_tot (fn_MO_take (iI nv) (iI ns) (iI R) dl dn ds) (181, 0, iI ((c + 1 : Nat) : Int), 0, 0, 0, wr, kn, iI R, iI nv, co, sp, be, upd le c s, nu, il, sz, upd td c 0, upd cs c 0) := fun x y s => by
      rw [sm_tot_u, fn_MO_take_q210]
      unfold fn_MO_take_b210
      rw [if_pos gc, if_pos gc, if_pos gc, ii_nat (by omega) (by omega), i2, ii_s, sm_ev_l]
    obtain ⟨le', td', cs', a1, a2, a3⟩ := ih (c + 1) (upd le c (if c < nv then iI (lt c) else -1)) (upd td c 0) (upd cs c 0) (by omega) (fun q h3 h4 => by
      show (if q = c then (if c < nv then iI (lt c) else -1) else le q) = _
      by_cases e : q = c
      · rw [if_pos e, if_pos (by omega), e]
      · rw [if_neg e]; exact h1 q (by omega) h4) (fun q hq => by
      show (if q = c then 0 else td q) = 0 ∧ (if q = c then 0 else cs q) = 0
      by_cases e : q = c
      · rw [if_pos e, if_pos e]; exact ⟨rfl, rfl⟩
      · rw [if_neg e, if_neg e]; exact h2 q (by omega))
    refine ⟨le', td', cs', ?_, a2, a3⟩
    rw [← a1, sm_tot_u, fn_MO_take_q181]
    unfold fn_MO_take_b181
    rw [if_neg (show ¬ (6 : Int32) ≤ iI (c : Int) by rw [il_6, ii_le (by omega) (by omega) (by omega) (by omega)]; omega)]
    by_cases e : c < nv
    · rw [if_neg (show ¬ iI (nv : Int) ≤ iI (c : Int) by rw [ii_le (by omega) (by omega) (by omega) (by omega)]; omega), if_pos gc, ii_nat (by omega) (by omega), i2, hl c e, sm_ev_l, e210, if_pos e]
    · rw [if_pos (show iI (nv : Int) ≤ iI (c : Int) by rw [ii_le (by omega) (by omega) (by omega) (by omega)]; omega), sm_ev_l, e210, if_neg e]
theorem tk_lst {nu : Nat → Int32} : ∀ (d c : Nat) (il sz : Nat → Int32), c + d = 3 → (∀ q, q < c → il q = 0 ∧ sz q = 0) → ∃ il' sz', sm_tot (fn_MO_take (iI nv) (iI ns) (iI R) dl dn ds) (233, 0, iI c, 0, 0, 0, wr, kn, iI R, iI nv, co, sp, be, le, nu, il, sz, td, cs) = some (wr, kn, iI R, iI nv, co, 0, 0, le, nu, il', sz', td, cs) ∧ ∀ q, q < 3 → il' q = 0 ∧ sz' q = 0 := by
  intro d
  induction d with
  | zero =>
    intro c il sz hc h1
    refine ⟨il, sz, ?_, fun q hq => h1 q (by omega)⟩
    rw [sm_tot_u, fn_MO_take_q233]
    unfold fn_MO_take_b233
    rw [if_pos (show (3 : Int32) ≤ iI (c : Int) by rw [il_3, ii_le (by omega) (by omega) (by omega) (by omega)]; omega), sm_ev_r]
  | succ d ih =>
    intro c il sz hc h1
    have i2 : ((c : Int)).toNat = c := by omega
    have gc : ¬ (iI (c : Int) < 0 ∨ 3 ≤ (iI (c : Int)).toNatClampNeg) := ii_g (by omega) (by omega) (by omega)
    obtain ⟨il', sz', a1, a2⟩ := ih (c + 1) (upd il c 0) (upd sz c 0) (by omega) (fun q hq => by
      show (if q = c then 0 else il q) = 0 ∧ (if q = c then 0 else sz q) = 0
      by_cases e : q = c
      · rw [if_pos e, if_pos e]; exact ⟨rfl, rfl⟩
      · rw [if_neg e, if_neg e]; exact h1 q (by omega))
    refine ⟨il', sz', ?_, a2⟩
    rw [← a1, sm_tot_u, fn_MO_take_q233]
    unfold fn_MO_take_b233
    rw [if_neg (show ¬ (3 : Int32) ≤ iI (c : Int) by rw [il_3, ii_le (by omega) (by omega) (by omega) (by omega)]; omega), if_pos gc, if_pos gc, ii_nat (by omega) (by omega), i2, show vp_nar .boolean 0 = 0 by decide, ii_s, sm_ev_l]
theorem mo_take {lt : Nat → Int} (hR : R ≤ 4) (hns : nv + ns ≤ 6) (hcR : bj_c sgn R = ns) (hA : ∀ r c, r < R → c < 6 → dn (7 * r + c) = iI (A r c)) (hB : ∀ r, r < R → dn (7 * r + 6) = iI (B r)) (hs : ∀ r, r < R → ds r = iI (sgn r) ∧ -1 ≤ sgn r ∧ sgn r ≤ 1) (hz : ∀ r c, nv ≤ c → A r c = 0) (hl : ∀ c, c < nv → dl c = iI (lt c)) (x1 x2 x3 x4 x5 x6 x7 : Int32) (le nu il sz td cs : Nat → Int32) :
    ∃ le' nu' il' sz' td' cs', sm_tot (fn_MO_take (iI nv) (iI ns) (iI R) dl dn ds) (0, 0, 0, 0, 0, 0, x1, x2, x3, x4, x5, x6, x7, le, nu, il, sz, td, cs) = some (-1, 1, iI R, iI nv, iI ((nv + ns : Nat) : Int), 0, 0, le', nu', il', sz', td', cs') ∧ (∀ c, c < nv → le' c = iI (lt c)) ∧ (∀ r', r' < R → (∀ c, c < nv + ns → nu' (7 * r' + c) = iI (bj_AA nv A sgn r' c)) ∧ nu' (7 * r' + (nv + ns)) = iI (B r')) ∧ (∀ q, q < 3 → il' q = 0 ∧ sz' q = 0) ∧ ∀ q, q < 6 → td' q = 0 ∧ cs' q = 0 := by
  obtain ⟨nu', a1, a2⟩ := tk_all (nv := nv) (ns := ns) (R := R) (A := A) (B := B) (sgn := sgn) (dl := dl) (dn := dn) (ds := ds) (wr := -1) (kn := 1) (sp := x6) (be := x7) (le := le) (il := il) (sz := sz) (td := td) (cs := cs) hR hns hcR hA hB hs hz R 0 nu (by omega) (fun r' h' => by omega)
  obtain ⟨le', td', cs', b1, b2, b3⟩ := tk_let (nv := nv) (ns := ns) (R := R) (dl := dl) (dn := dn) (ds := ds) (wr := -1) (kn := 1) (co := iI ((nv + ns : Nat) : Int)) (sp := x6) (be := x7) (il := il) (sz := sz) (by omega) hl (nu := nu') 6 0 le td cs (by omega) (fun q hq => by omega) (fun q hq => by omega)
  obtain ⟨il', sz', c1, c2⟩ := tk_lst (nv := nv) (ns := ns) (R := R) (dl := dl) (dn := dn) (ds := ds) (wr := -1) (kn := 1) (co := iI ((nv + ns : Nat) : Int)) (sp := x6) (be := x7) (le := le') (td := td') (cs := cs') (nu := nu') 3 0 il sz (by omega) (fun q hq => by omega)
  refine ⟨le', nu', il', sz', td', cs', ?_, b2, a2, c2, b3⟩
  rw [sm_tot_u, fn_MO_take_q0]
  unfold fn_MO_take_b0
  rw [sm_ev_l, ii_add]
  exact a1.trans (b1.trans c1)
end MTK
