/-! the two builders, word by word to the end -/
def bj_K (X : List (Int × Nat × Int)) (L j : Nat) : Int := ((X ++ [((0 : Int), L, (0 : Int))]).getD j ps_z).1
def bj_pd (k : Int) (s : Nat) (sd sg op : Int) : Int := if s = 2 ∧ ¬ (k = 2 ∨ k = 5) then sd * sg * op else 0
def bj_at (X : List (Int × Nat × Int)) (j s : Nat) (op : Int) : Prop :=
  (s = 2 → 1 ≤ j ∧ (X.getD (j - 1) ps_z).1 = 1 ∧ (X.getD (j - 1) ps_z).2.2 = op ∧ 0 ≤ op ∧ op ≤ 9999) ∧
  (s = 3 → 2 ≤ j ∧ (X.getD (j - 1) ps_z).1 = 5 ∧ (X.getD (j - 2) ps_z).1 = 1 ∧ (X.getD (j - 2) ps_z).2.2 = op ∧ 0 ≤ op ∧ op ≤ 9999) ∧
  (s ≠ 2 → s ≠ 3 → op = -1) ∧ (s < 2 → j = 0 ∨ (1 ≤ j ∧ (X.getD (j - 1) ps_z).1 ≠ 1 ∧ (X.getD (j - 1) ps_z).1 ≠ 5))
def bj_rl (X : List (Int × Nat × Int)) (r : Bool) (rel rep x4 : Int32) : Prop := r = true → ∃ (ri : Nat) (rl : Int), ri < X.length ∧ (rl = 7 ∨ rl = 8 ∨ rl = 9) ∧ (X.getD ri ps_z).1 = rl ∧ rel = iI (rl - 1) ∧ rep = iI ((X.getD ri ps_z).2.1 : Int) ∧ x4 = iI ri
theorem bj_op {X : List (Int × Nat × Int)} {j s : Nat} {op : Int} (h : bj_at X j s op) : -1 ≤ op ∧ op ≤ 9999 := by
  obtain ⟨h1, h2, h3, _⟩ := h
  by_cases q : s = 2
  · have := h1 q; omega
  · by_cases q3 : s = 3
    · have := h2 q3; omega
    · have := h3 q q3; omega
/-- where a sum is whole, what is open is what is due -/
theorem bj_pd_ov {X : List (Int × Nat × Int)} {j s : Nat} {sd sg op k : Int} (h : bj_at X j s op) (ho : ps_ov s = true) (hk : k ≠ 2 ∧ k ≠ 5) : bj_pd k s sd sg op = if op = -1 then 0 else sd * sg * op := by
  unfold bj_pd
  unfold ps_ov at ho
  rw [Bool.or_eq_true, decide_eq_true_iff, decide_eq_true_iff] at ho
  rcases ho with q | q
  · have := h.1 q
    rw [if_pos ⟨q, fun x => by omega⟩, if_neg (by omega)]
  · have := h.2.2.1 (by omega) (by omega)
    rw [if_neg (fun x => by omega), if_pos this]
theorem bj_pd_n {s : Nat} {sd sg op k : Int} (h : s ≠ 2) : bj_pd k s sd sg op = 0 := if_neg (fun x => h x.1)
section BJM
variable {X : List (Int × Nat × Int)} {n L : Nat} {kk pp vv rk rp rv : Nat → Int32}
theorem bj_K_in {j : Nat} (hj : j < X.length) : bj_K X L j = (X.getD j ps_z).1 := by
  unfold bj_K
  rw [List.getD_eq_getElem?_getD, List.getD_eq_getElem?_getD, List.getElem?_append_left hj]
theorem bj_K_end : bj_K X L X.length = 0 := by
  unfold bj_K
  rw [List.getD_eq_getElem?_getD, List.getElem?_append_right (Nat.le_refl _), Nat.sub_self]
  rfl
theorem bj_ref_in (hr : mo_wpic 0 (X ++ [((0 : Int), L, (0 : Int))]) rk rp rv) {j : Nat} (hj : j < X.length) : rk j = iI (X.getD j ps_z).1 ∧ rp j = iI ((X.getD j ps_z).2.1 : Int) ∧ ((X.getD j ps_z).1 = 1 ∨ (X.getD j ps_z).1 = 2 → rv j = iI (X.getD j ps_z).2.2) := by
  have h := hr j (by rw [List.length_append]; omega)
  rw [Nat.zero_add, show (X ++ [((0 : Int), L, (0 : Int))]).getD j ps_z = X.getD j ps_z by rw [List.getD_eq_getElem?_getD, List.getD_eq_getElem?_getD, List.getElem?_append_left hj]] at h
  exact h
theorem bj_ref_K (hr : mo_wpic 0 (X ++ [((0 : Int), L, (0 : Int))]) rk rp rv) {j : Nat} (hj : j ≤ X.length) : rk j = iI (bj_K X L j) := by
  have h := (hr j (by rw [List.length_append]; show j < X.length + 1; omega)).1
  rw [Nat.zero_add] at h
  exact h
theorem bj_K_r (htk : ∀ j, j < X.length → ps_tk (X.getD j ps_z)) {j : Nat} (hj : j ≤ X.length) : 0 ≤ bj_K X L j ∧ bj_K X L j ≤ 9 := by
  rcases Nat.lt_or_ge j X.length with h | h
  · rw [bj_K_in h]
    have := htk j h
    unfold ps_tk at this
    omega
  · rw [show j = X.length by omega, bj_K_end]
    omega
/-- the goal at a word -/
def bj_goal (n : Nat) (kk pp vv rk rp rv : Nat → Int32) (j R nv ns : Nat) (sd sg op : Int) (rel rep x4 wr : Int32) (ca : Nat → Nat → Int32) (cb cl c1 c2 dl dn ds : Nat → Int32) : Prop :=
  ∃ oc orf, bu_V n kk pp vv j (iI R, iI sd, iI sg, iI op, rel, rep, -1, iI ((R + 1 : Nat) : Int), iI nv, iI ns, ca, cb, cl, c1, c2) = some oc ∧ sm_tot (fn_MO_build rk rp rv) (74, iI j, iI sg, iI sd, x4, 0, 0, 0, 0, 0, wr, iI nv, iI ns, iI R, dl, dn, ds) = some orf ∧ bj_out oc orf
/-- a row's end: a fault of both, or both go on -/
theorem bj_rowend (hX : X.length ≤ 300) (hpl : ∀ j, j < X.length → (X.getD j ps_z).2.1 ≤ 300) (hr : mo_wpic 0 (X ++ [((0 : Int), L, (0 : Int))]) rk rp rv) {j R nv : Nat} {lt : Nat → Int} {A : Nat → Nat → Int} {B sgn : Nat → Int} {pend : Int} {ca : Nat → Nat → Int32} {cb cl c1 c2 dl dn ds : Nat → Int32} {sd sg op : Int} {rel rep x4 wr : Int32}
    (hj : j ≤ X.length) (hR : R < 4) (hsd : sd = 1 ∨ sd = -1) (hsg : sg = 1 ∨ sg = -1) (hop : -1 ≤ op ∧ op ≤ 9999) (hpd : pend = if op = -1 then 0 else sd * sg * op) (hinv : bj_inv R nv lt A B sgn j pend ca cb cl c1 c2 dl dn ds) (hrl : bj_rl X true rel rep x4) (hk : bj_K X L j = 6 ∨ bj_K X L j = 0) :
    (∃ (fc : Int) (pl : Nat) (ns' : Int32) (cb' c1' c2' : Nat → Int32) (ca' : Nat → Nat → Int32), ∃ orf, (fc = 2 ∨ fc = 3) ∧ pl ≤ 300 ∧ sm_tot (fn_BU_endRow (iI R) (iI sd) (iI sg) (iI op) rel rep (iI nv) ca) (0, 0, 0, -1, iI (bj_c sgn R), cb, c1, c2) = some (iI fc, iI pl, ns', cb', c1', c2') ∧ sm_tot (fn_EQ_placeSlacks (iI nv) ns' c1' c2') (0, 0, ca) = some ca' ∧
      sm_tot (fn_MO_build rk rp rv) (74, iI j, iI sg, iI sd, x4, 0, 0, 0, 0, 0, wr, iI nv, iI (bj_c sgn R), iI R, dl, dn, ds) = some orf ∧ orf.1 = iI fc ∧ orf.2.1 = iI pl) ∨
    (∃ (B' sgn' : Nat → Int) (cb' c1' c2' ds' : Nat → Int32), bj_inv (R + 1) nv lt A B' sgn' (j + 1) 0 ca cb' cl c1' c2' dl dn ds' ∧ sm_tot (fn_BU_endRow (iI R) (iI sd) (iI sg) (iI op) rel rep (iI nv) ca) (0, 0, 0, -1, iI (bj_c sgn R), cb, c1, c2) = some (0, -1, iI (bj_c sgn' (R + 1)), cb', c1', c2') ∧
      sm_tot (fn_MO_build rk rp rv) (74, iI j, iI sg, iI sd, x4, 0, 0, 0, 0, 0, wr, iI nv, iI (bj_c sgn R), iI R, dl, dn, ds) = sm_tot (fn_MO_build rk rp rv) (38, iI ((if bj_K X L j = 6 then j + 1 else j : Nat) : Int), 0, 0, 0, 0, 0, 0, 0, 0, wr, iI nv, iI (bj_c sgn' (R + 1)), iI ((R + 1 : Nat) : Int), dl, dn, ds')) := by
  obtain ⟨ri, rl, r1, r2, r3, r4, r5, r6⟩ := hrl rfl
  subst r4 r5 r6
  have hrr := bj_ref_in hr r1
  rw [r3] at hrr
  have hpr := hpl ri r1
  have hn6 := hinv.1
  have hbb := bj_eb_b hR hinv hpd
  have hinv2 := bj_eb hR hinv hsd hsg hop hpd
  have hz := hinv.2.2.2.2.2.2.1
  have hAb := hinv.2.2.2.2.2.2.2.2.1
  have hBb := hinv2.2.2.2.2.2.2.2.2.2.1 R
  have hBb' : (B R - pend).natAbs ≤ 10000 * (j + 1) := by
    have h2 : (if R = R then B R - pend else B R).natAbs ≤ 10000 * (j + 1) := hBb
    rw [if_pos rfl] at h2
    exact h2
  have hlg : ∀ b, b = bj_lg nv (A R) (B R - pend) → True := fun _ _ => trivial
  have hce := bu_endRow (R := R) (nv := nv) (ns := bj_c sgn R) (sd := sd) (sg := sg) (op := op) (ca := ca) (cb := cb) (c1 := c1) (c2 := c2) hR (by omega) hn6 r2 (rp := iI ((X.getD ri ps_z).2.1 : Int)) (fp := -1) (A := A R) (b := B R - pend) (fun c hc => ⟨(hinv.2.2.2.1 R c hR (by omega)).1, Nat.le_trans (hAb R c) (by omega)⟩) ⟨hbb, Nat.le_trans hBb' (by omega)⟩
  have hre : sm_tot (fn_MO_build rk rp rv) (74, iI j, iI sg, iI sd, iI ri, 0, 0, 0, 0, 0, wr, iI nv, iI (bj_c sgn R), iI R, dl, dn, ds) = _ := (mo_74e (by omega) hk (bj_ref_K hr hj)).trans (mo_409 hR (by omega) (by omega) r2 hrr.1 hn6)
  have hV : ∀ (c : Nat), c < 7 → dn (7 * R + c) = iI (if c = 6 then B R - pend else A R c) ∧ (if c = 6 then B R - pend else A R c).natAbs ≤ 100000000 := fun c hc => by
    by_cases q : c = 6
    · rw [if_pos q, q]
      have h5 := (hinv.2.2.2.2.1 R hR).2
      rw [if_pos rfl] at h5
      exact ⟨h5, Nat.le_trans hBb' (by omega)⟩
    · rw [if_neg q]
      exact ⟨(hinv.2.2.2.1 R c hR (by omega)).2, Nat.le_trans (hAb R c) (by omega)⟩
  by_cases qf : rl ≠ 7 ∧ nv + bj_c sgn R = 6
  · rw [if_pos qf] at hce hre
    obtain ⟨ca', p1, _⟩ := bj_place (by omega) hinv
    exact Or.inl ⟨2, (X.getD ri ps_z).2.1, _, _, _, _, ca', _, Or.inl rfl, hpr, hce, p1, hre, rfl, hrr.2.1⟩
  · rw [if_neg qf] at hce hre
    have hn' : rl = 7 ∨ nv + bj_c sgn R < 6 := by
      by_cases q : rl = 7
      · exact Or.inl q
      · right
        have : ¬ (nv + bj_c sgn R = 6) := fun e => qf ⟨q, e⟩
        omega
    have h497 := mo_497 (kk := rk) (pp := rp) (vv := rv) (wr := wr) (nv := nv) (ns := (if rl = 7 then bj_c sgn R else bj_c sgn R + 1)) (dl := dl) (ds := upd ds R (iI (if rl = 7 then 0 else if rl = 8 then 1 else -1))) hR (show j < 301 by omega) (show ri < 301 by omega) hV hk (bj_ref_K hr hj) 7 0 rfl
    rw [h497, mo_lg (nv := nv) (V := fun c => if c = 6 then B R - pend else A R c) (A := A R) (b := B R - pend) (by omega) (fun c hc => if_neg (by omega)) (if_pos rfl) (fun c hc => hz R c hc)] at hre
    cases e : bj_lg nv (A R) (B R - pend) with
    | true =>
      rw [e, if_pos (show true = true from rfl), if_pos (show true = true from rfl)] at hce
      rw [e, Bool.not_true, if_neg (show ¬ (false = true) by decide)] at hre
      obtain ⟨ca', p1⟩ := bj_rowp hR hinv r2 hn'
      exact Or.inl ⟨3, (X.getD ri ps_z).2.1, _, _, _, _, ca', _, Or.inr rfl, hpr, hce, p1, hre, rfl, hrr.2.1⟩
    | false =>
      rw [e, if_neg (show ¬ (false = true) by decide), if_neg (show ¬ (false = true) by decide)] at hce
      rw [e, Bool.not_false, if_pos (show true = true from rfl)] at hre
      have hlg' : bj_lg nv (A R) ((fun r => if r = R then B r - pend else B r) R) = false := by
        show bj_lg nv (A R) (if R = R then B R - pend else B R) = false
        rw [if_pos rfl]
        exact e
      have h3 := bj_row hR hinv2 r2 hn' hlg'
      have h4 := (bj_row6 hR hinv2 r2 hn').1
      rw [← h4] at hce hre
      exact Or.inr ⟨_, _, _, _, _, _, h3, hce, hre⟩
end BJM
