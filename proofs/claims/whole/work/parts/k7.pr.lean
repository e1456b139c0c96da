/-! what each row can reach; the search made ready -/
section SEV
variable {n r : Nat} {sg : Bool} {a : Nat → Int} {ca : Nat → Nat → Int32}
theorem se_find_l (hn : n ≤ 6) (hr : r < 4) (ha : ∀ c, c < n → ca r c = iI (a c) ∧ (a c).natAbs ≤ 20) : ∀ (c : Nat) (ulo uhi : Nat → Nat → Int32), c ≤ n → (∀ c', c ≤ c' → c' < n → ∃ l u, ulo r c' = iI l ∧ uhi r c' = iI u ∧ se_reach sg n a c' l u) →
    ∃ ulo' uhi', sm_tot (fn_SE_findReach (iI r) (iI n) (bI sg) ca) (7, iI ((c : Int) - 1), 0, 0, 0, 0, 0, ulo, uhi) = some (ulo', uhi') ∧ (∀ q, q ≠ r → ulo' q = ulo q ∧ uhi' q = uhi q) ∧ ∀ c', c' < n → ∃ l u, ulo' r c' = iI l ∧ uhi' r c' = iI u ∧ se_reach sg n a c' l u := by
  intro c
  induction c with
  | zero =>
    intro ulo uhi hc hinv
    refine ⟨ulo, uhi, ?_, fun q _ => ⟨rfl, rfl⟩, fun c' hc' => hinv c' (by omega) hc'⟩
    rw [sm_tot_u, fn_SE_findReach_q7]
    unfold fn_SE_findReach_b7
    simp (disch := omega) only [il_0, ii_lt, if_pos, sm_ev_r]
  | succ c ih =>
    intro ulo uhi hc hinv
    have e1 : ((c + 1 : Nat) : Int) - 1 = (c : Int) := by omega
    obtain ⟨h1, h2⟩ := ha c (by omega)
    obtain ⟨lp, hp, k1, k2, k3, k4⟩ : ∃ lp hp : Int, (c + 1 < n → ulo r (c + 1) = iI lp) ∧ (c + 1 < n → uhi r (c + 1) = iI hp) ∧ (c + 1 < n → se_reach sg n a (c + 1) lp hp) ∧ lp.natAbs ≤ 20 ∧ hp.natAbs ≤ 20 := by
      by_cases e : c + 1 < n
      · obtain ⟨l, u, a1, a2, a3⟩ := hinv (c + 1) (Nat.le_refl _) e
        exact ⟨l, u, fun _ => a1, fun _ => a2, fun _ => a3, a3.1, a3.2.1⟩
      · exact ⟨0, 0, fun q => absurd q e, fun q => absurd q e, fun q => absurd q e, by omega, by omega⟩
    rw [e1, se_find_s hn hr (by omega) h1 h2 k1 k2 k4.1 k4.2]
    have hnew : se_reach sg n a c (if c + 1 = n then se_least sg (a c) else if lp < se_least sg (a c) then lp else se_least sg (a c)) (if c + 1 = n then se_most sg (a c) else if se_most sg (a c) < hp then hp else se_most sg (a c)) := by
      unfold se_least se_most
      by_cases e : c + 1 = n
      · rw [if_pos e, if_pos e]
        refine ⟨by split <;> omega, by split <;> omega, fun q => by rw [if_pos q, if_pos q], fun j j1 j2 => ?_⟩
        have hj : j = c := by omega
        subst hj
        exact ⟨fun q => by rw [q]; simp, fun q => by rw [if_pos q]; omega⟩
      · obtain ⟨b1, b2, b3, b4⟩ := k3 (by omega)
        rw [if_neg e, if_neg e]
        cases sg with
        | false =>
          simp only [Bool.false_eq_true, if_false]
          refine ⟨by split <;> omega, by split <;> omega, fun q => (by cases q), fun j j1 j2 => ⟨fun _ => ?_, fun q => by cases q⟩⟩
          by_cases ej : j = c
          · subst ej; split <;> split <;> omega
          · have := (b4 j (by omega) j2).1 rfl
            split <;> split <;> omega
        | true =>
          simp only [if_true]
          have b5 := b3 rfl
          refine ⟨by split <;> omega, by split <;> omega, fun _ => by split <;> split <;> omega, fun j j1 j2 => ⟨fun q => (by cases q), fun _ => ?_⟩⟩
          by_cases ej : j = c
          · subst ej; split <;> omega
          · have := (b4 j (by omega) j2).2 rfl
            split <;> omega
    obtain ⟨ulo', uhi', r1, r2, r3⟩ := ih (up2 ulo r (upd (ulo r) c (iI (if c + 1 = n then se_least sg (a c) else if lp < se_least sg (a c) then lp else se_least sg (a c))))) (up2 uhi r (upd (uhi r) c (iI (if c + 1 = n then se_most sg (a c) else if se_most sg (a c) < hp then hp else se_most sg (a c))))) (by omega) (fun c' d1 d2 => by
      by_cases ec : c' = c
      · subst ec
        exact ⟨_, _, by rw [up2_eq]; exact if_pos rfl, by rw [up2_eq]; exact if_pos rfl, hnew⟩
      · obtain ⟨l, u, a1, a2, a3⟩ := hinv c' (by omega) d2
        exact ⟨l, u, by rw [up2_eq]; exact (if_neg ec).trans a1, by rw [up2_eq]; exact (if_neg ec).trans a2, a3⟩)
    exact ⟨ulo', uhi', r1, fun q hq => ⟨by rw [(r2 q hq).1, up2_ne _ _ hq], by rw [(r2 q hq).2, up2_ne _ _ hq]⟩, r3⟩
theorem se_find (hn : n ≤ 6) (hr : r < 4) (ha : ∀ c, c < n → ca r c = iI (a c) ∧ (a c).natAbs ≤ 20) (ulo uhi : Nat → Nat → Int32) :
    ∃ ulo' uhi', sm_tot (fn_SE_findReach (iI r) (iI n) (bI sg) ca) (0, 0, 0, 0, 0, 0, 0, ulo, uhi) = some (ulo', uhi') ∧ (∀ q, q ≠ r → ulo' q = ulo q ∧ uhi' q = uhi q) ∧ ∀ c', c' < n → ∃ l u, ulo' r c' = iI l ∧ uhi' r c' = iI u ∧ se_reach sg n a c' l u := by
  obtain ⟨ulo', uhi', r1, r2⟩ := se_find_l (sg := sg) hn hr ha n ulo uhi (Nat.le_refl _) (fun c' h1 h2 => by omega)
  refine ⟨ulo', uhi', ?_, r2⟩
  rw [← r1, sm_tot_u, fn_SE_findReach_q0]
  unfold fn_SE_findReach_b0
  rw [sm_ev_l, il_1, ii_sub]
end SEV
theorem eq_columns {nv ns : Nat} : sm_tot (fn_EQ_columns (iI nv) (iI ns)) 0 = some (iI ((nv + ns : Nat) : Int)) := by
  rw [sm_tot_u, fn_EQ_columns_q0]
  unfold fn_EQ_columns_b0
  rw [sm_ev_r, ii_add]
  rfl
section SEW
variable {m nv ns : Nat} {sg hom : Bool} {A : Nat → Nat → Int} {b : Nat → Int} {ea : Nat → Nat → Int32} {eb : Nat → Int32}
def se_b (hom : Bool) (b : Nat → Int) : Nat → Int := fun r => if hom = true then 0 else b r
theorem se_prep_l (hm : m ≤ 4) (hn : nv + ns ≤ 6) (hA : ∀ r c, r < m → c < nv + ns → ea r c = iI (A r c) ∧ (A r c).natAbs ≤ 20) (hb : ∀ r, r < m → eb r = iI (b r)) :
    ∀ (d r : Nat) (clk : Nat → Int32) (clo chi ca : Nat → Nat → Int32), r + d = m → (∀ q, q < r → clk q = iI (se_b hom b q) ∧ (∀ c, c < nv + ns → ca q c = iI (A q c)) ∧ ∀ c, c < nv + ns → ∃ l u, clo q c = iI l ∧ chi q c = iI u ∧ se_reach sg (nv + ns) (A q) c l u) →
    ∃ clk' clo' chi' ca', sm_tot (fn_SE_prepare (bI hom) (bI sg) (iI m) (iI nv) (iI ns) ea eb) (24, iI r, 0, 0, iI m, iI ((nv + ns : Nat) : Int), bI sg, clk, clo, chi, ca) = some (iI m, iI ((nv + ns : Nat) : Int), bI sg, clk', clo', chi', ca') ∧ ∀ q, q < m → clk' q = iI (se_b hom b q) ∧ (∀ c, c < nv + ns → ca' q c = iI (A q c)) ∧ ∀ c, c < nv + ns → ∃ l u, clo' q c = iI l ∧ chi' q c = iI u ∧ se_reach sg (nv + ns) (A q) c l u := by
  intro d
  induction d with
  | zero =>
    intro r clk clo chi ca hr hinv
    have e : r = m := by omega
    subst e
    refine ⟨clk, clo, chi, ca, ?_, hinv⟩
    rw [sm_tot_u, fn_SE_prepare_q24]
    unfold fn_SE_prepare_b24
    simp (disch := omega) only [ii_le, if_pos, sm_ev_r]
  | succ d ih =>
    intro r clk clo chi ca hr hinv
    have i1 : ((r : Int)).toNat = r := by omega
    have hbr := hb r (by omega)
    have hcp : ∀ c, c < nv + ns → (up2 ca r (va_cpy (ea r) (ca r) (0 : Int32).toNatClampNeg (0 : Int32).toNatClampNeg (6 : Int32).toNatClampNeg)) r c = iI (A r c) := fun c hc => by
      rw [up2_eq]
      show (if 0 ≤ c ∧ c < 0 + 6 then ea r (0 + (c - 0)) else ca r c) = _
      rw [if_pos (by omega), Nat.zero_add, Nat.sub_zero]
      exact (hA r c (by omega) hc).1
    obtain ⟨clo1, chi1, f1, f2, f3⟩ := se_find (sg := sg) (ca := up2 ca r (va_cpy (ea r) (ca r) (0 : Int32).toNatClampNeg (0 : Int32).toNatClampNeg (6 : Int32).toNatClampNeg)) hn (show r < 4 by omega) (fun c hc => ⟨hcp c hc, (hA r c (by omega) hc).2⟩) clo chi
    obtain ⟨clk', clo', chi', ca', r1, r2⟩ := ih (r + 1) (upd clk r (iI (se_b hom b r))) clo1 chi1 (up2 ca r (va_cpy (ea r) (ca r) (0 : Int32).toNatClampNeg (0 : Int32).toNatClampNeg (6 : Int32).toNatClampNeg)) (by omega) (fun q hq => by
      by_cases e : q = r
      · subst e
        exact ⟨if_pos rfl, hcp, f3⟩
      · obtain ⟨g1, g2, g3⟩ := hinv q (by omega)
        refine ⟨(if_neg e).trans g1, fun c hc => by rw [up2_ne _ _ e]; exact g2 c hc, fun c hc => ?_⟩
        rw [(f2 q e).1, (f2 q e).2]
        exact g3 c hc)
    refine ⟨clk', clo', chi', ca', ?_, r2⟩
    have h75 : sm_tot (fn_SE_prepare (bI hom) (bI sg) (iI m) (iI nv) (iI ns) ea eb) (75, iI r, iI (se_b hom b r), iI r, iI m, iI ((nv + ns : Nat) : Int), bI sg, clk, clo, chi, up2 ca r (va_cpy (ea r) (ca r) (0 : Int32).toNatClampNeg (0 : Int32).toNatClampNeg (6 : Int32).toNatClampNeg)) = some (iI m, iI ((nv + ns : Nat) : Int), bI sg, clk', clo', chi', ca') := by
      rw [← r1, sm_tot_u, fn_SE_prepare_q75]
      unfold fn_SE_prepare_b75
      rw [f1, Option.bind_some]
      simp (disch := omega) only [il_0, il_1, ii_lt, ii_add, ii_nat, i1, if_pos, sm_ev_l]
      rfl
    rw [← h75, sm_tot_u, fn_SE_prepare_q24]
    unfold fn_SE_prepare_b24
    rw [if_neg (show ¬ iI (m : Int) ≤ iI (r : Int) by rw [ii_le (by omega) (by omega) (by omega) (by omega)]; omega), if_pos (show ¬ (iI (r : Int) < 0 ∨ 4 ≤ (iI (r : Int)).toNatClampNeg) by rw [il_0, ii_lt (by omega) (by omega) (by omega) (by omega), ii_nat (by omega) (by omega)]; omega), ii_nat (by omega) (by omega), i1, hbr]
    cases hom with
    | false => rw [bI_0, if_pos rfl, sm_ev_l]; rfl
    | true => rw [bI_1, if_neg (by decide), sm_ev_l]; rfl
theorem se_prep (hm : m ≤ 4) (hn : nv + ns ≤ 6) (hA : ∀ r c, r < m → c < nv + ns → ea r c = iI (A r c) ∧ (A r c).natAbs ≤ 20) (hb : ∀ r, r < m → eb r = iI (b r) ∧ (b r).natAbs ≤ 200) (x1 x2 x3 : Int32) (clk : Nat → Int32) (clo chi ca : Nat → Nat → Int32) :
    ∃ clk' clo' chi' ca', sm_tot (fn_SE_prepare (bI hom) (bI sg) (iI m) (iI nv) (iI ns) ea eb) (0, 0, 0, 0, x1, x2, x3, clk, clo, chi, ca) = some (iI m, iI ((nv + ns : Nat) : Int), bI sg, clk', clo', chi', ca') ∧ se_sys m (nv + ns) A (fun r c => (clo' r c).toInt) (fun r c => (chi' r c).toInt) (se_b hom b) ca' clo' chi' ∧ se_lp m (nv + ns) A (se_b hom b) sx_z clk' ∧
      ∀ r c j, r < m → c ≤ j → j < nv + ns → (sg = false → (clo' r c).toInt ≤ A r j ∧ A r j ≤ (chi' r c).toInt) ∧ (sg = true → ((A r j).natAbs : Int) ≤ (chi' r c).toInt ∧ (clo' r c).toInt = - (chi' r c).toInt) := by
  obtain ⟨clk', clo', chi', ca', r1, r2⟩ := se_prep_l (sg := sg) (hom := hom) hm hn hA (fun r hr => (hb r hr).1) m 0 clk clo chi ca (by omega) (fun q hq => by omega)
  have hre : ∀ r c, r < m → c < nv + ns → se_reach sg (nv + ns) (A r) c (clo' r c).toInt (chi' r c).toInt := fun r c hr hc => by
    obtain ⟨l, u, a1, a2, a3⟩ := (r2 r hr).2.2 c hc
    have b1 := a3.1
    have b2 := a3.2.1
    rw [a1, a2, ii_to (by omega) (by omega), ii_to (by omega) (by omega)]
    exact a3
  refine ⟨clk', clo', chi', ca', ?_, ⟨hm, hn, fun r c hr hc => ⟨(r2 r hr).2.1 c hc, (hA r c hr hc).2⟩, fun r hr => ?_, fun r c _ _ => ⟨(ii_self _).symm, (ii_self _).symm⟩, fun r c hr hc => ⟨(hre r c hr hc).1, (hre r c hr hc).2.1⟩⟩, fun r hr => ?_, fun r c j hr hc hj => ?_⟩
  · rw [← r1, sm_tot_u, fn_SE_prepare_q0]
    unfold fn_SE_prepare_b0
    rw [eq_columns, Option.bind_some, if_pos bI_01, sm_ev_l]
    rfl
  · unfold se_b
    split
    · exact Nat.zero_le _
    · exact (hb r hr).2
  · rw [(r2 r hr).1]
    congr 1
    have : sx_dt (A r) sx_z (nv + ns) = 0 := by
      have h9 := sx_dt_ds (a := A r) (w := sx_z) (nv + ns) 0
      rw [Nat.zero_add] at h9
      rw [h9, sx_ds_zero (v := sx_z) _ _ (fun _ _ => rfl)]
      rfl
    omega
  · obtain ⟨a1, a2, a3, a4⟩ := hre r c hr (by omega)
    exact ⟨fun q => (a4 j hc hj).1 q, fun q => ⟨(a4 j hc hj).2 q, a3 q⟩⟩
end SEW
