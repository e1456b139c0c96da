/-! LATTICES 23: the reference's one solution: all that decides is small -/
theorem rw_nar0_le {n m F c L : Nat} {a : Nat → Int} {V : Nat → Nat → Int} (hm : 0 < m) (hF1 : 1 ≤ F) (hF : ∀ i, i < m → (rw_dot n a (V i)).natAbs ≤ F) (hV : ∀ i, i < m → (V i c).natAbs ≤ L) : (rw_nar n m a V 0 c).natAbs ≤ 2 * F * L := by
  have B : rw_B2 m (2 * F * L) (fun i => rw_dot n a (V i)) (fun i => V i c) := by
    have e : 2 * F * L = L * F + L * F := by grind
    have l : L ≤ L * F := Nat.le_mul_of_pos_right L (by omega)
    refine ⟨fun i hi => ?_, fun i k hi hk => ?_⟩
    · have := hV i hi
      show (V i c).natAbs ≤ _
      omega
    · show (V i c * rw_dot n a (V k) - V k c * rw_dot n a (V i)).natAbs ≤ _
      have a1 : (V i c * rw_dot n a (V k)).natAbs ≤ L * F := by rw [Int.natAbs_mul]; exact Nat.mul_le_mul (hV i hi) (hF k hk)
      have a2 : (V k c * rw_dot n a (V i)).natAbs ≤ L * F := by rw [Int.natAbs_mul]; exact Nat.mul_le_mul (hV k hk) (hF i hi)
      omega
  exact (rw_B2_ph (t := false) (n := rw_fu m (fun i => rw_dot n a (V i))) B).1 0 hm
section OR
variable {n r m : Nat} {A V : Nat → Nat → Int} {B o : Nat → Int} {io : Bool}
theorem rw_os_rng (hn : n ≤ 6) (hr : r ≤ 3) (haa : ∀ q c, q < r + 1 → (A q c).natAbs ≤ 20) (hB : ∀ q, q < r + 1 → (B q).natAbs ≤ 200) (Hs : rw_st n r A V m) (H : rw_os n r A B V m o io) (hio : io = true) :
    (rw_mi n (A r) (B r) o).natAbs ≤ 63360200 ∧ (∀ c, c < n → (o c).natAbs ≤ 528000)
    ∧ (r ≤ 2 → rw_io n m (A r) (B r) V o io = true → ∀ ld', rw_HNF n (rw_stp n (A r) V m).2 (rw_stp n (A r) V m).1 ld' → ∀ i, i < (rw_stp n (A r) V m).2 →
      (rw_sho (rw_stp n (A r) V m).1 ld' (rw_o1 n m (A r) (B r) V o io) i (ld' i)).natAbs ≤ 4611686018427387903) := by
  have st' := rw_st_step hn hr haa Hs
  obtain ⟨ρ, ix, ld, nn, h1, hix, h3, h4⟩ := Hs
  obtain ⟨so, sl⟩ := H.2 hio
  have ha : ∀ q c, q < ρ → (A (ix q) c).natAbs ≤ 20 := fun q c hq => haa (ix q) c (by have := hix q hq; omega)
  have hv : ∀ q, q < ρ → (rw_dot n (A (ix q)) o).natAbs ≤ 200 := fun q hq => by have := hix q hq; rw [so (ix q) this]; exact hB _ (by omega)
  have ol : ∀ c, c < n → (o c).natAbs ≤ rw_dl ρ + rw_bt ρ := fun c hc => rw_one_le h3 (by omega) ha hv (sl ld h3.2.2.2.1) hc
  have nums : rw_dl ρ + rw_bt ρ ≤ 528000 ∧ (ρ ≤ 2 → rw_dl ρ + rw_bt ρ ≤ 8800) := by
    rcases (show ρ = 0 ∨ ρ = 1 ∨ ρ = 2 ∨ ρ = 3 by omega) with e | e | e | e <;> subst e <;> decide
  have mi_le : ∀ O, (∀ c, c < n → (o c).natAbs ≤ O) → (rw_mi n (A r) (B r) o).natAbs ≤ 200 + 6 * (20 * O) := fun O hO => by
    have d : (rw_dot n (A r) o).natAbs ≤ n * (20 * O) := rw_S_abs fun c hc => by
      rw [Int.natAbs_mul]; exact Nat.mul_le_mul (haa r c (by omega)) (hO c hc)
    have d2 : n * (20 * O) ≤ 6 * (20 * O) := Nat.mul_le_mul hn (Nat.le_refl _)
    have b := hB r (by omega)
    unfold rw_mi
    omega
  refine ⟨Nat.le_trans (mi_le 528000 (fun c hc => Nat.le_trans (ol c hc) nums.1)) (by omega), fun c hc => Nat.le_trans (ol c hc) nums.1, fun hr2 hio' ld' H' i hi => ?_⟩
  have mi2 : (rw_mi n (A r) (B r) o).natAbs ≤ 1056200 := Nat.le_trans (mi_le 8800 (fun c hc => Nat.le_trans (ol c hc) (nums.2 (by omega)))) (by omega)
  -- the leads of the next basis
  obtain ⟨-, ρ', ix', ld'', nn', g1, gix, g3, -⟩ := st'
  have lead' : ∀ k, k < (rw_stp n (A r) V m).2 → ((rw_stp n (A r) V m).1 k (ld' k)).natAbs ≤ 48000 := fun k hk => by
    refine Nat.le_trans (rw_dat_all g3 (by omega) (fun q c hq => haa _ c (by have := gix q hq; omega)) hk (H' k hk).1) ?_
    rcases (show ρ' = 0 ∨ ρ' = 1 ∨ ρ' = 2 ∨ ρ' = 3 by omega) with e | e | e | e <;> subst e <;> decide
  have B0 : rw_bas n r A V m := ⟨h3.1, fun i hi => (h4 _).mp (h3.2.1 i hi), fun v hv => h3.2.2.1 v ((h4 v).mpr hv), ld, h3.2.2.2.1⟩
  have B1 := rw_bas_step B0
  have fF : ∀ i, i < m → (rw_dot n (A r) (V i)).natAbs ≤ 48000 := fun i hi => by
    have e2 : ∀ q c, q < ρ → A (ix q) c = A (if q = ρ then r else ix q) c := fun q c hq => by rw [if_neg (by omega)]
    have h3' : rw_dat n ρ m (fun q => A (if q = ρ then r else ix q)) V ld nn := rw_dat_rows e2 h3
    have := rw_dat_F h3' (by omega) (fun q c hq => by
      show (A (if q = ρ then r else ix q) c).natAbs ≤ 20
      by_cases e : q = ρ
      · rw [if_pos e]; exact haa r c (by omega)
      · rw [if_neg e]; exact haa _ c (by have := hix q (by omega); omega)) hi
    simp only [if_pos] at this
    refine Nat.le_trans this ?_
    rcases (show ρ = 0 ∨ ρ = 1 ∨ ρ = 2 by omega) with e | e | e <;> subst e <;> decide
  have N : ∀ k, k < (rw_stp n (A r) V m).2 → (rw_o1 n m (A r) (B r) V o io (ld' k)).natAbs ≤ 101395200001 * ((rw_stp n (A r) V m).1 k (ld' k)).natAbs := fun k hk => by
    have pk := (H' k hk).2.2.1
    obtain ⟨j, hj, ej, dv⟩ := rw_lead_at h3.2.2.2.1 (B0.2.2.1 _ (fun q hq => B1.2.1 k hk q (by omega))) (H' k hk).1 (H' k hk).2.1 (by omega)
    have le := Int.le_of_dvd pk dv
    have oj := sl ld h3.2.2.2.1 j hj
    rw [ej] at oj
    have pj := (h3.2.2.2.1 j hj).2.2.1
    rw [ej] at pj
    have colj : ∀ i, i < m → (V i (ld' k)).natAbs ≤ (V j (ld' k)).natAbs := fun i hi => by
      rcases Nat.lt_trichotomy i j with h | h | h
      · have := ((h3.2.2.2.1 j hj).2.2.2 i h).2
        rw [ej] at this
        omega
      · rw [h]; exact Nat.le_refl _
      · have := (h3.2.2.2.1 i hi).2.1 (ld j) ((h3.2.2.2.1 i hi).2.2.2 j h).1
        rw [ej] at this
        rw [this]; exact Nat.zero_le _
    have fin : (rw_o1 n m (A r) (B r) V o io (ld' k)).natAbs ≤ 101395200001 * (V j (ld' k)).natAbs := by
      unfold rw_o1
      by_cases hz : rw_cnt m (fun i => rw_dot n (A r) (V i)) = 0
      · rw [if_pos hz]; omega
      · rw [if_neg hz, if_pos hio']
        have hm : 0 < m := by have := (rw_lst_spec hz).1; omega
        have n0 := rw_nar0_le hm (show 1 ≤ 48000 by omega) fF colj
        have q : ((rw_mi n (A r) (B r) o).tdiv (rw_dot n (A r) (rw_nar n m (A r) V 0))).natAbs ≤ 1056200 := by
          rw [rw_tdiv_abs]; exact Nat.le_trans (Nat.div_le_self _ _) mi2
        have t : ((rw_mi n (A r) (B r) o).tdiv (rw_dot n (A r) (rw_nar n m (A r) V 0)) * rw_nar n m (A r) V 0 (ld' k)).natAbs ≤ 1056200 * (2 * 48000 * (V j (ld' k)).natAbs) := by
          rw [Int.natAbs_mul]; exact Nat.mul_le_mul q n0
        omega
    omega
  have s := (rw_sho_le H' N i (by omega) i hi).1
  have l := lead' i hi
  have m6 : i ≤ 5 := by
    have := rw_cov_n g3.2.2.2.2.1
    omega
  have p : 2 ^ i ≤ 2 ^ 5 := Nat.pow_le_pow_right (by omega) m6
  have t := Nat.mul_le_mul (Nat.mul_le_mul p (Nat.le_refl 101395200001)) l
  exact Nat.le_trans s (Nat.le_trans t (by decide +kernel))
end OR
