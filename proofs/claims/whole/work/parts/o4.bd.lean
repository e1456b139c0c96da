/-! the first wrong word: reference and class agree -/
def ps_bd : List (Int × Nat × Int) → Nat → Bool → Nat → Int
  | [], _, _, _ => -1
  | x :: X, s, r, j => match ps_nx s r x.1 with
    | some q => ps_bd X q.1 q.2 (j + 1)
    | none => if ps_ov s = true ∧ r = true ∧ x.1 = 0 then ps_bd X s r (j + 1) else (j : Int)
section MBD
variable {n j : Nat} {ku : Nat → Int32}
noncomputable def bd_N (n : Nat) (ku : Nat → Int32) (j s : Nat) (r : Bool) : Option Int32 := sm_tot (fn_MO_bad (iI n) ku) (6, iI s, bI r, iI ((j + 1 : Nat) : Int), 0, 0, 0)
theorem bd_203 (s : Nat) (r : Bool) (a b c : Int32) : sm_tot (fn_MO_bad (iI n) ku) (203, iI s, bI r, iI j, a, b, c) = bd_N n ku j s r := by
  rw [sm_tot_u, fn_MO_bad_q203]
  unfold fn_MO_bad_b203
  rw [sm_ev_l, il_1, ii_add]
  rfl
theorem bd_201 (x y a b c : Int32) : sm_tot (fn_MO_bad (iI n) ku) (201, x, y, iI j, a, b, c) = some (iI j) := by
  rw [sm_tot_u, fn_MO_bad_q201]
  rfl

theorem bd_187 {s : Nat} {r ov : Bool} {k : Int} (hk : 0 ≤ k ∧ k ≤ 10) (x : Int32) : sm_tot (fn_MO_bad (iI n) ku) (187, iI s, bI r, iI j, iI k, bI ov, x) = if ov = true ∧ r = true ∧ k = 0 then bd_N n ku j s r else some (iI j) := by
  rw [sm_tot_u, fn_MO_bad_q187]
  unfold fn_MO_bad_b187
  rw [ie_b0, ie_b0, il_0, ie_eq (by omega) (by omega) (by omega) (by omega)]
  cases ov with
  | false => rw [if_pos rfl, sm_ev_l, bd_201, if_neg (fun q => absurd q.1 (by decide))]
  | true =>
    rw [if_neg (by decide)]
    cases r with
    | false => rw [if_pos rfl, sm_ev_l, bd_201, if_neg (fun q => absurd q.2.1 (by decide))]
    | true =>
      rw [if_neg (by decide)]
      by_cases e : k = 0
      · rw [if_pos e, sm_ev_l, bd_203, if_pos ⟨rfl, rfl, e⟩]
      · rw [if_neg e, sm_ev_l, bd_201, if_neg (fun q => e q.2.2)]
theorem bd_164 {s : Nat} {r ov : Bool} {k : Int} (hk : 0 ≤ k ∧ k ≤ 10) (x : Int32) : sm_tot (fn_MO_bad (iI n) ku) (164, iI s, bI r, iI j, iI k, bI ov, x) = if ov = true ∧ r = true ∧ k = 6 then bd_N n ku j 0 false else if ov = true ∧ r = true ∧ k = 0 then bd_N n ku j s r else some (iI j) := by
  rw [sm_tot_u, fn_MO_bad_q164]
  unfold fn_MO_bad_b164
  rw [ie_b0, ie_b0, il_6, ie_eq (by omega) (by omega) (by omega) (by omega)]
  cases ov with
  | false => rw [if_pos rfl, sm_ev_l, bd_187 hk, if_neg (fun q => absurd q.1 (by decide)), if_neg (fun q => absurd q.1 (by decide))]
  | true =>
    rw [if_neg (by decide)]
    cases r with
    | false => rw [if_pos rfl, sm_ev_l, bd_187 hk, if_neg (fun q => absurd q.2.1 (by decide)), if_neg (fun q => absurd q.2.1 (by decide))]
    | true =>
      rw [if_neg (by decide)]
      by_cases e : k = 6
      · rw [if_pos e, sm_ev_l, if_pos ⟨rfl, rfl, e⟩]
        exact bd_203 0 false _ _ _
      · rw [if_neg e, sm_ev_l, if_neg (fun q => e q.2.2), bd_187 hk]
theorem bd_134 {s : Nat} {r ov : Bool} {k : Int} (hk : 0 ≤ k ∧ k ≤ 10) (x : Int32) : sm_tot (fn_MO_bad (iI n) ku) (134, iI s, bI r, iI j, iI k, bI ov, x) = if ov = true ∧ r = false ∧ 7 ≤ k ∧ k ≤ 9 then bd_N n ku j 0 true else if ov = true ∧ r = true ∧ k = 6 then bd_N n ku j 0 false else if ov = true ∧ r = true ∧ k = 0 then bd_N n ku j s r else some (iI j) := by
  rw [sm_tot_u, fn_MO_bad_q134]
  unfold fn_MO_bad_b134
  rw [ie_b0, ie_b0, il_7, il_9, ie_lt (by omega) (by omega) (by omega) (by omega), ie_lt (by omega) (by omega) (by omega) (by omega)]
  cases ov with
  | false => rw [if_pos rfl, sm_ev_l, bd_164 hk, if_neg (fun q => absurd q.1 (by decide)), if_neg (fun q => absurd q.1 (by decide)), if_neg (fun q => absurd q.1 (by decide))]
  | true =>
    rw [if_neg (by decide)]
    cases r with
    | true => rw [if_neg (by decide), sm_ev_l, if_neg (fun q => absurd q.2.1 (by decide)), bd_164 hk]
    | false =>
      rw [if_pos rfl]
      by_cases e : k < 7
      · rw [if_pos e, sm_ev_l, if_neg (fun q => by omega), bd_164 hk]
      · rw [if_neg e]
        by_cases e2 : 9 < k
        · rw [if_pos e2, sm_ev_l, if_neg (fun q => by omega), bd_164 hk]
        · rw [if_neg e2, sm_ev_l, if_pos ⟨rfl, rfl, by omega, by omega⟩]
          exact bd_203 0 true _ _ _
theorem bd_112 {s : Nat} {r ov : Bool} {k : Int} (hk : 0 ≤ k ∧ k ≤ 10) (x : Int32) : sm_tot (fn_MO_bad (iI n) ku) (112, iI s, bI r, iI j, iI k, bI ov, x) = if ov = true ∧ (k = 3 ∨ k = 4) then bd_N n ku j 1 r else if ov = true ∧ r = false ∧ 7 ≤ k ∧ k ≤ 9 then bd_N n ku j 0 true else if ov = true ∧ r = true ∧ k = 6 then bd_N n ku j 0 false else if ov = true ∧ r = true ∧ k = 0 then bd_N n ku j s r else some (iI j) := by
  have e129 : ∀ a b c d, sm_tot (fn_MO_bad (iI n) ku) (129, a, bI r, iI j, b, c, d) = bd_N n ku j 1 r := fun a b c d => by
    rw [sm_tot_u, fn_MO_bad_q129]
    exact bd_203 1 r _ _ _
  rw [sm_tot_u, fn_MO_bad_q112]
  unfold fn_MO_bad_b112
  rw [ie_b0, il_3, il_4, ie_eq (by omega) (by omega) (by omega) (by omega), ie_eq (by omega) (by omega) (by omega) (by omega)]
  cases ov with
  | false => rw [if_pos rfl, sm_ev_l, bd_134 hk, if_neg (fun q => absurd q.1 (by decide)), if_neg (fun q => absurd q.1 (by decide)), if_neg (fun q => absurd q.1 (by decide)), if_neg (fun q => absurd q.1 (by decide))]
  | true =>
    rw [if_neg (by decide)]
    by_cases e : k = 3
    · rw [if_pos e, sm_ev_l, e129, if_pos ⟨rfl, Or.inl e⟩]
    · rw [if_neg e]
      by_cases e2 : k = 4
      · rw [if_pos e2, sm_ev_l, e129, if_pos ⟨rfl, Or.inr e2⟩]
      · rw [if_neg e2, sm_ev_l, if_neg (fun q => by omega), bd_134 hk]
/-- all that a word does -/
theorem mo_bad_s (hn : n ≤ 301) (hj : j < n) {s : Nat} {r : Bool} {k : Int} (hs : s ≤ 4) (hk : 0 ≤ k ∧ k ≤ 10) (hku : ku j = iI k) : sm_tot (fn_MO_bad (iI n) ku) (6, iI s, bI r, iI j, 0, 0, 0) = match ps_nx s r k with
    | some q => bd_N n ku j q.1 q.2
    | none => if ps_ov s = true ∧ r = true ∧ k = 0 then bd_N n ku j s r else some (iI j) := by
  have i2 : ((j : Int)).toNat = j := by omega
  have g1 : ¬ (iI (j : Int) < 0 ∨ 301 ≤ (iI (j : Int)).toNatClampNeg) := by rw [il_0, ii_lt (by omega) (by omega) (by omega) (by omega), ii_nat (by omega) (by omega)]; omega
  have e96 : ∀ (ov : Bool) x, sm_tot (fn_MO_bad (iI n) ku) (96, iI s, bI r, iI j, iI k, bI ov, x) = if s = 2 ∧ k = 5 then bd_N n ku j 3 r else sm_tot (fn_MO_bad (iI n) ku) (112, iI s, bI r, iI j, iI k, bI ov, 0) := fun ov x => by
    rw [sm_tot_u, fn_MO_bad_q96]
    unfold fn_MO_bad_b96
    rw [il_2, il_5, ie_eq (by omega) (by omega) (by omega) (by omega), ie_eq (by omega) (by omega) (by omega) (by omega)]
    by_cases e : s = 2
    · rw [if_pos (by omega)]
      by_cases e2 : k = 5
      · rw [if_pos e2, sm_ev_l, if_pos ⟨e, e2⟩]
        exact bd_203 3 r _ _ _
      · rw [if_neg e2, sm_ev_l, if_neg (fun q => e2 q.2)]
    · rw [if_neg (by omega), sm_ev_l, if_neg (fun q => e q.1)]
  have e81 : ∀ (ov : Bool) x, sm_tot (fn_MO_bad (iI n) ku) (81, iI s, bI r, iI j, iI k, bI ov, x) = if s = 0 ∧ k = 4 then bd_N n ku j 1 r else sm_tot (fn_MO_bad (iI n) ku) (96, iI s, bI r, iI j, iI k, bI ov, 0) := fun ov x => by
    rw [sm_tot_u, fn_MO_bad_q81]
    unfold fn_MO_bad_b81
    rw [il_0, il_4, ie_eq (by omega) (by omega) (by omega) (by omega), ie_eq (by omega) (by omega) (by omega) (by omega)]
    by_cases e : s = 0
    · rw [if_pos (by omega)]
      by_cases e2 : k = 4
      · rw [if_pos e2, sm_ev_l, if_pos ⟨e, e2⟩]
        exact bd_203 1 r _ _ _
      · rw [if_neg e2, sm_ev_l, if_neg (fun q => e2 q.2)]
    · rw [if_neg (by omega), sm_ev_l, if_neg (fun q => e q.1)]
  have e70 : ∀ (ov : Bool) x, sm_tot (fn_MO_bad (iI n) ku) (70, iI s, bI r, iI j, iI k, bI ov, x) = if k = 2 then bd_N n ku j 4 r else sm_tot (fn_MO_bad (iI n) ku) (81, iI s, bI r, iI j, iI k, bI ov, 0) := fun ov x => by
    rw [sm_tot_u, fn_MO_bad_q70]
    unfold fn_MO_bad_b70
    rw [il_2, ie_eq (by omega) (by omega) (by omega) (by omega)]
    by_cases e2 : k = 2
    · rw [if_pos e2, sm_ev_l, if_pos e2]
      exact bd_203 4 r _ _ _
    · rw [if_neg e2, sm_ev_l, if_neg e2]
  have e55 : ∀ (ov : Bool) x, sm_tot (fn_MO_bad (iI n) ku) (55, iI s, bI r, iI j, iI k, bI ov, x) = if s ≠ 4 ∧ k = 2 then bd_N n ku j 4 r else sm_tot (fn_MO_bad (iI n) ku) (81, iI s, bI r, iI j, iI k, bI ov, 0) := fun ov x => by
    have h70 : s ≠ 4 → (if k = 2 then bd_N n ku j 4 r else sm_tot (fn_MO_bad (iI n) ku) (81, iI s, bI r, iI j, iI k, bI ov, 0)) = if s ≠ 4 ∧ k = 2 then bd_N n ku j 4 r else sm_tot (fn_MO_bad (iI n) ku) (81, iI s, bI r, iI j, iI k, bI ov, 0) := fun h4 => by
      by_cases e : k = 2
      · rw [if_pos e, if_pos ⟨h4, e⟩]
      · rw [if_neg e, if_neg (fun q => e q.2)]
    rw [sm_tot_u, fn_MO_bad_q55]
    unfold fn_MO_bad_b55
    rw [il_2, il_3, ie_eq (by omega) (by omega) (by omega) (by omega), ie_eq (by omega) (by omega) (by omega) (by omega), ie_lt (by omega) (by omega) (by omega) (by omega)]
    by_cases e : s < 2
    · rw [if_pos (by omega), sm_ev_l, e70, h70 (by omega)]
    · rw [if_neg (by omega)]
      by_cases e2 : s = 2
      · rw [if_pos (by omega), sm_ev_l, e70, h70 (by omega)]
      · rw [if_neg (by omega)]
        by_cases e3 : s = 3
        · rw [if_pos (by omega), sm_ev_l, e70, h70 (by omega)]
        · rw [if_neg (by omega), sm_ev_l, if_neg (fun q => q.1 (by omega))]
  have e37 : ∀ (ov : Bool) x, sm_tot (fn_MO_bad (iI n) ku) (37, iI s, bI r, iI j, iI k, x, bI ov) = if s < 2 ∧ k = 1 then bd_N n ku j 2 r else sm_tot (fn_MO_bad (iI n) ku) (55, iI s, bI r, iI j, iI k, bI ov, 0) := fun ov x => by
    rw [sm_tot_u, fn_MO_bad_q37]
    unfold fn_MO_bad_b37
    rw [il_2, il_1, ie_eq (by omega) (by omega) (by omega) (by omega), ie_le (by omega) (by omega) (by omega) (by omega)]
    by_cases e : s < 2
    · rw [if_neg (by omega)]
      by_cases e2 : k = 1
      · rw [if_pos e2, sm_ev_l, if_pos ⟨e, e2⟩]
        exact bd_203 2 r _ _ _
      · rw [if_neg e2, sm_ev_l, if_neg (fun q => e2 q.2)]
    · rw [if_pos (by omega), sm_ev_l, if_neg (fun q => e q.1)]
  have e32 : ∀ x y, sm_tot (fn_MO_bad (iI n) ku) (32, iI s, bI r, iI j, iI k, x, y) = sm_tot (fn_MO_bad (iI n) ku) (37, iI s, bI r, iI j, iI k, 0, bI true) := fun x y => by
    rw [sm_tot_u, fn_MO_bad_q32]
    rfl
  have e6 : sm_tot (fn_MO_bad (iI n) ku) (6, iI s, bI r, iI j, 0, 0, 0) = sm_tot (fn_MO_bad (iI n) ku) (37, iI s, bI r, iI j, iI k, 0, bI (ps_ov s)) := by
    rw [sm_tot_u, fn_MO_bad_q6]
    unfold fn_MO_bad_b6
    rw [if_neg (show ¬ iI (n : Int) ≤ iI (j : Int) by rw [ii_le (by omega) (by omega) (by omega) (by omega)]; omega), if_pos g1, ii_nat (by omega) (by omega), i2, hku, il_2, il_4, ie_eq (by omega) (by omega) (by omega) (by omega), ie_eq (by omega) (by omega) (by omega) (by omega)]
    unfold ps_ov
    by_cases e : s = 2
    · rw [if_pos (by omega), sm_ev_l, e32, decide_eq_true e, Bool.true_or]
    · rw [if_neg (by omega), decide_eq_false e, Bool.false_or]
      by_cases e2 : s = 4
      · rw [if_pos (by omega), sm_ev_l, e32, decide_eq_true e2]
      · rw [if_neg (by omega), sm_ev_l, decide_eq_false e2]
        rfl
  rw [e6, e37, e55, e81, e96, bd_112 hk]
  have hc : s = 0 ∨ s = 1 ∨ s = 2 ∨ s = 3 ∨ s = 4 := by omega
  have hd : k = 0 ∨ k = 1 ∨ k = 2 ∨ k = 3 ∨ k = 4 ∨ k = 5 ∨ k = 6 ∨ k = 7 ∨ k = 8 ∨ k = 9 ∨ k = 10 := by omega
  clear e6 e32 e37 e55 e70 e81 e96 hku
  rcases hd with rfl | rfl | rfl | rfl | rfl | rfl | rfl | rfl | rfl | rfl | rfl <;> rcases hc with rfl | rfl | rfl | rfl | rfl <;> cases r <;> rfl
theorem mo_bad_l {X : List (Int × Nat × Int)} (hX : X.length ≤ 301) (hn : n = X.length) (hp : ∀ j, j < X.length → ku j = iI (X.getD j ps_z).1) (hr : ∀ j, j < X.length → 0 ≤ (X.getD j ps_z).1 ∧ (X.getD j ps_z).1 ≤ 10) : ∀ (d j s : Nat) (r : Bool), j + d = X.length → s ≤ 4 → sm_tot (fn_MO_bad (iI n) ku) (6, iI s, bI r, iI j, 0, 0, 0) = some (iI (ps_bd (X.drop j) s r j)) := by
  intro d
  induction d with
  | zero =>
    intro j s r hj hs
    rw [List.drop_eq_nil_of_le (by omega), sm_tot_u, fn_MO_bad_q6]
    unfold fn_MO_bad_b6
    rw [if_pos (show iI (n : Int) ≤ iI (j : Int) by rw [ii_le (by omega) (by omega) (by omega) (by omega)]; omega), sm_ev_r]
    rfl
  | succ d ih =>
    intro j s r hj hs
    have hlt : j < X.length := by omega
    have hd : X.drop j = X.getD j ps_z :: X.drop (j + 1) := by
      rw [List.drop_eq_getElem_cons hlt]
      congr 1
      rw [List.getD_eq_getElem?_getD, List.getElem?_eq_getElem hlt]
      rfl
    rw [mo_bad_s (by omega) (by omega) hs (hr j hlt) (hp j hlt), hd]
    show _ = some (iI (match ps_nx s r (X.getD j ps_z).1 with
      | some q => ps_bd (X.drop (j + 1)) q.1 q.2 (j + 1)
      | none => if ps_ov s = true ∧ r = true ∧ (X.getD j ps_z).1 = 0 then ps_bd (X.drop (j + 1)) s r (j + 1) else (j : Int)))
    cases e : ps_nx s r (X.getD j ps_z).1 with
    | some q =>
      obtain ⟨s', r'⟩ := q
      exact ih (j + 1) s' r' (by omega) (ps_nx_le e)
    | none =>
      by_cases e2 : ps_ov s = true ∧ r = true ∧ (X.getD j ps_z).1 = 0
      · show (if _ then _ else _) = some (iI (if _ then _ else _))
        rw [if_pos e2, if_pos e2]
        exact ih (j + 1) s r (by omega) hs
      · show (if _ then _ else _) = some (iI (if _ then _ else _))
        rw [if_neg e2, if_neg e2]
theorem mo_bad {X : List (Int × Nat × Int)} (hX : X.length ≤ 301) (hp : ∀ j, j < X.length → ku j = iI (X.getD j ps_z).1) (hr : ∀ j, j < X.length → 0 ≤ (X.getD j ps_z).1 ∧ (X.getD j ps_z).1 ≤ 10) : sm_tot (fn_MO_bad (iI X.length) ku) (0, 0, 0, 0, 0, 0, 0) = some (iI (ps_bd X 0 false 0)) := by
  rw [sm_tot_u, fn_MO_bad_q0]
  exact mo_bad_l hX rfl hp hr X.length 0 0 false (by omega) (by omega)
end MBD
section PSR
variable {L : Nat} {t : Nat → Int} {ct : Nat → Int32}
theorem ps_lx_len : ∀ f i, L ≤ i + f → i ≤ L → (ps_lx L t f i).length ≤ L - i + 1 := by
  intro f
  induction f with
  | zero => intro i _ _; show 1 ≤ _; omega
  | succ f ih =>
    intro i h1 h2
    show (if L ≤ i then _ else if _ then _ else if _ then _ else _ : List (Int × Nat × Int)).length ≤ _
    split
    · show 1 ≤ _; omega
    · have hw := ps_w_r (t := t) (show i < L by omega)
      split
      · have := ih (i + 1) (by omega) (by omega); omega
      · split
        · show 1 ≤ _; omega
        · rw [List.length_cons]
          have := ih (i + ps_w L t i) (by omega) (by omega)
          omega
theorem ps_lx_rng : ∀ f i j, j < (ps_lx L t f i).length → 0 ≤ ((ps_lx L t f i).getD j ps_z).1 ∧ ((ps_lx L t f i).getD j ps_z).1 ≤ 10 := by
  intro f
  induction f with
  | zero =>
    intro i j hj
    cases j with
    | zero => exact (show (0 : Int) ≤ 0 ∧ (0 : Int) ≤ 10 by omega)
    | succ j => exact absurd hj (by show ¬ (j + 1 < 1); omega)
  | succ f ih =>
    intro i j
    show j < (if L ≤ i then [(0, L, 0)] else if ps_ch L t i = 32 then ps_lx L t f (i + 1) else if ps_k L t i = 10 then [(10, i, 0)] else (ps_k L t i, i, ps_vl L t i) :: ps_lx L t f (i + ps_w L t i) : List (Int × Nat × Int)).length → 0 ≤ ((if L ≤ i then [(0, L, 0)] else if ps_ch L t i = 32 then ps_lx L t f (i + 1) else if ps_k L t i = 10 then [(10, i, 0)] else (ps_k L t i, i, ps_vl L t i) :: ps_lx L t f (i + ps_w L t i) : List (Int × Nat × Int)).getD j ps_z).1 ∧ ((if L ≤ i then [(0, L, 0)] else if ps_ch L t i = 32 then ps_lx L t f (i + 1) else if ps_k L t i = 10 then [(10, i, 0)] else (ps_k L t i, i, ps_vl L t i) :: ps_lx L t f (i + ps_w L t i) : List (Int × Nat × Int)).getD j ps_z).1 ≤ 10
    split
    · intro hj
      cases j with
      | zero => exact (show (0 : Int) ≤ 0 ∧ (0 : Int) ≤ 10 by omega)
      | succ j => exact absurd hj (by show ¬ (j + 1 < 1); omega)
    · split
      · exact ih (i + 1) j
      · split
        · intro hj
          cases j with
          | zero => exact (show (0 : Int) ≤ 10 ∧ (10 : Int) ≤ 10 by omega)
          | succ j => exact absurd hj (by show ¬ (j + 1 < 1); omega)
        · intro hj
          cases j with
          | zero =>
            have hk := ps_kc_r (ps_ch L t i) (ps_w L t i)
            have hk' : 1 ≤ ps_k L t i ∧ ps_k L t i ≤ 10 := hk
            exact ⟨by show 0 ≤ ps_k L t i; omega, hk'.2⟩
          | succ j =>
            rw [List.length_cons] at hj
            exact ih (i + ps_w L t i) j (by omega)
theorem ps_nx_0 {s : Nat} {r : Bool} : ps_nx s r 0 = none := rfl
theorem ps_nx_10 {s : Nat} {r : Bool} : ps_nx s r 10 = none := rfl
theorem ps_end {s : Nat} {r : Bool} {j : Nat} : ps_bd [((0 : Int), L, (0 : Int))] s r j = if (ps_ov s && r) = true then -1 else (j : Int) := by
  show (if ps_ov s = true ∧ r = true ∧ (0 : Int) = 0 then ps_bd [] s r (j + 1) else (j : Int)) = _
  by_cases e : (ps_ov s && r) = true
  · rw [if_pos e]
    rw [Bool.and_eq_true] at e
    rw [if_pos ⟨e.1, e.2, rfl⟩]
    rfl
  · rw [if_neg e]
    rw [Bool.and_eq_true] at e
    rw [if_neg (fun q => e ⟨q.1, q.2.1⟩)]
/-- the two ways to read agree -/
theorem ps_rel : ∀ f i s r j, L ≤ i + f → i ≤ L →
    ((ps_sc L t f i s r).2.2 = true → ps_lx L t f i = (ps_sc L t f i s r).1 ++ [((0 : Int), L, (0 : Int))] ∧ ps_bd (ps_lx L t f i) s r j = -1) ∧
    ((ps_sc L t f i s r).2.2 = false → ∃ k, k < (ps_lx L t f i).length ∧ ps_bd (ps_lx L t f i) s r j = ((j + k : Nat) : Int) ∧ ((ps_lx L t f i).getD k ps_z).2.1 = (ps_sc L t f i s r).2.1) := by
  have hend : ∀ s r j, ((ps_ov s && r) = true → [((0 : Int), L, (0 : Int))] = [] ++ [((0 : Int), L, (0 : Int))] ∧ ps_bd [((0 : Int), L, (0 : Int))] s r j = -1) ∧ ((ps_ov s && r) = false → ∃ k, k < [((0 : Int), L, (0 : Int))].length ∧ ps_bd [((0 : Int), L, (0 : Int))] s r j = ((j + k : Nat) : Int) ∧ ([((0 : Int), L, (0 : Int))].getD k ps_z).2.1 = L) := fun s r j =>
    ⟨fun e => ⟨rfl, by rw [ps_end, if_pos e]⟩, fun e => ⟨0, Nat.zero_lt_one, by rw [ps_end, if_neg (by rw [e]; decide)]; rfl, rfl⟩⟩
  intro f
  induction f with
  | zero => intro i s r j _ _; exact hend s r j
  | succ f ih =>
    intro i s r j h1 h2
    by_cases hl : L ≤ i
    · rw [show ps_lx L t (f + 1) i = [(0, L, 0)] from if_pos hl, show ps_sc L t (f + 1) i s r = ([], L, ps_ov s && r) from if_pos hl]
      exact hend s r j
    · have hw := ps_w_r (t := t) (show i < L by omega)
      by_cases hsp : ps_ch L t i = 32
      · rw [show ps_lx L t (f + 1) i = ps_lx L t f (i + 1) by
          show (if _ then _ else if _ then _ else _) = _
          rw [if_neg hl, if_pos hsp], show ps_sc L t (f + 1) i s r = ps_sc L t f (i + 1) s r by
          show (if _ then _ else if _ then _ else _) = _
          rw [if_neg hl, if_pos hsp]]
        exact ih (i + 1) s r j (by omega) (by omega)
      · have es : ps_lx L t (f + 1) i = if ps_k L t i = 10 then [(10, i, 0)] else (ps_k L t i, i, ps_vl L t i) :: ps_lx L t f (i + ps_w L t i) := by
          show (if _ then _ else if _ then _ else _) = _
          rw [if_neg hl, if_neg hsp]
        have es2 : ps_sc L t (f + 1) i s r = match ps_nx s r (ps_k L t i) with
            | none => ([], i, false)
            | some q => ((ps_k L t i, i, ps_vl L t i) :: (ps_sc L t f (i + ps_w L t i) q.1 q.2).1, (ps_sc L t f (i + ps_w L t i) q.1 q.2).2) := by
          show (if _ then _ else if _ then _ else _) = _
          rw [if_neg hl, if_neg hsp]
          cases ps_nx s r (ps_k L t i) <;> rfl
        rw [es, es2]
        have hk := ps_kc_r (ps_ch L t i) (ps_w L t i)
        have hk' : 1 ≤ ps_k L t i ∧ ps_k L t i ≤ 10 := hk
        by_cases h10 : ps_k L t i = 10
        · rw [if_pos h10, h10, ps_nx_10]
          refine ⟨(fun e => by cases e), fun _ => ⟨0, Nat.zero_lt_one, ?_, rfl⟩⟩
          show (if ps_ov s = true ∧ r = true ∧ (10 : Int) = 0 then ps_bd [] s r (j + 1) else (j : Int)) = _
          rw [if_neg (fun q => absurd q.2.2 (by decide))]
          rfl
        · rw [if_neg h10]
          have eb : ps_bd ((ps_k L t i, i, ps_vl L t i) :: ps_lx L t f (i + ps_w L t i)) s r j = match ps_nx s r (ps_k L t i) with
              | some q => ps_bd (ps_lx L t f (i + ps_w L t i)) q.1 q.2 (j + 1)
              | none => if ps_ov s = true ∧ r = true ∧ ps_k L t i = 0 then ps_bd (ps_lx L t f (i + ps_w L t i)) s r (j + 1) else (j : Int) := rfl
          rw [eb]
          cases e : ps_nx s r (ps_k L t i) with
          | none =>
            refine ⟨(fun e => by cases e), fun _ => ⟨0, by rw [List.length_cons]; omega, ?_, rfl⟩⟩
            show (if _ then _ else _) = _
            rw [if_neg (fun q => by omega)]
            rfl
          | some q =>
            obtain ⟨s', r'⟩ := q
            obtain ⟨a1, a2⟩ := ih (i + ps_w L t i) s' r' (j + 1) (by omega) (by omega)
            refine ⟨fun h => ?_, fun h => ?_⟩
            · obtain ⟨b1, b2⟩ := a1 h
              exact ⟨by rw [b1]; rfl, b2⟩
            · obtain ⟨k, b1, b2, b3⟩ := a2 h
              refine ⟨k + 1, by rw [List.length_cons]; omega, ?_, b3⟩
              show ps_bd _ s' r' (j + 1) = _
              rw [b2, show j + 1 + k = j + (k + 1) by omega]
end PSR
