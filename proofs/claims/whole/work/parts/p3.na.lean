/-! narrow: its rounds -/
theorem rf_6m (a : Nat) : (6 : Int32) * nI a = nI (6 * a) := by rw [show (6 : Int32) = nI 6 from rfl, pk_mul]
theorem rf_cnt_lt {s : Nat} {f : Nat → Int} (hs : s ≤ 100) : rw_cnt s f < 2 ^ 31 := by
  have hh : ∀ s f, rw_cnt s f ≤ s := by
    intro s f
    induction s with
    | zero => exact Nat.le_refl _
    | succ s ih =>
      show rw_cnt s f + (if f s = 0 then 0 else 1) ≤ s + 1
      split <;> omega
  have := hh s f
  omega
section NA
variable {r m n : Nat} {cn : Nat → Int32} {A : Nat → Int}
theorem rf_dotG (hr : r < 4) (hn : n ≤ 6) (hA : ∀ c, c < n → cn (7 * r + c) = iI (A c) ∧ (A c).natAbs ≤ 20) {no fr : Nat} {co : Nat → Int64} {v : Nat → Int} (hf : fr + n ≤ no) (hno : no < 2 ^ 31) (hv : ∀ c, c < n → co (fr + c) = Int64.ofInt (v c)) :
    sm_tot (fn_MO_dot (nI r) no co (nI fr) (nI n) cn) (0, 0, 0) = some (Int64.ofInt (rw_dot n A v)) := by
  rw [rf_dot hr hn hf hno]
  have e : ∀ k, k ≤ n → rf_SL k (fun c => (cn (7 * r + c)).toInt64 * co (fr + c)) = Int64.ofInt (rw_S k (fun c => A c * v c)) := by
    intro k
    induction k with
    | zero => intro _; rfl
    | succ k ih =>
      intro hk
      obtain ⟨h1, h2⟩ := hA k (by omega)
      show rf_SL k (fun c => (cn (7 * r + c)).toInt64 * co (fr + c)) + (cn (7 * r + k)).toInt64 * co (fr + k) = Int64.ofInt (rw_S k (fun c => A c * v c) + A k * v k)
      rw [ih (by omega), hv k (by omega), rg_i, h1, ii_to (by omega) (by omega), Int64.ofInt_add, Int64.ofInt_mul]
  rw [e n (Nat.le_refl _)]
  rfl
theorem rf_dotV (hr : r < 4) (hm : m ≤ 6) (hn : n ≤ 6) (hA : ∀ c, c < n → cn (7 * r + c) = iI (A c) ∧ (A c).natAbs ≤ 20) {u : Nat → Int64} {V : Nat → Nat → Int} (h : rf_pic m n u V) {i : Nat} (hi : i < m) :
    sm_tot (fn_MO_dot (nI r) 36 u (nI (6 * i)) (nI n) cn) (0, 0, 0) = some (Int64.ofInt (rw_dot n A (V i))) := rf_dotG hr hn hA (by omega) (by omega) (fun c hc => h i c hi hc)
variable {one : Nat → Int64} {io : Int32}
theorem rf_na1 (hr : r < 4) (hm : m ≤ 6) (hn : n ≤ 6) (hA : ∀ c, c < n → cn (7 * r + c) = iI (A c) ∧ (A c).natAbs ≤ 20) {u : Nat → Int64} {V : Nat → Nat → Int} (h : rf_pic m n u V) (hb : ∀ i, i < m → (rw_dot n A (V i)).natAbs ≤ 4611686018427387903) {t : Nat} (ht : t < m) :
    sm_tot (fn_MO_narrow (nI r) (nI n) cn) (16, 0, nI (rw_cnt t (fun j => rw_dot n A (V j))), rf_L 0 (rw_least t (fun j => rw_dot n A (V j))), 0, nI t, 0, 0, 0, 0, 0, nI m, io, u, one) = sm_tot (fn_MO_narrow (nI r) (nI n) cn) (16, 0, nI (rw_cnt (t + 1) (fun j => rw_dot n A (V j))), rf_L 0 (rw_least (t + 1) (fun j => rw_dot n A (V j))), 0, nI (t + 1), 0, 0, 0, 0, 0, nI m, io, u, one) := by
  have e91 : ∀ a b, sm_tot (fn_MO_narrow (nI r) (nI n) cn) (91, 0, a, b, 0, nI t, 0, 0, 0, 0, 0, nI m, io, u, one) = sm_tot (fn_MO_narrow (nI r) (nI n) cn) (16, 0, a, b, 0, nI (t + 1), 0, 0, 0, 0, 0, nI m, io, u, one) := fun a b => by
    rw [sm_tot_u, fn_MO_narrow_q91]
    unfold fn_MO_narrow_b91
    rw [sm_ev_l, rf_s]
  have e89 : ∀ a b s, sm_tot (fn_MO_narrow (nI r) (nI n) cn) (89, 0, a, b, 0, nI t, 0, 0, 0, 0, s, nI m, io, u, one) = sm_tot (fn_MO_narrow (nI r) (nI n) cn) (16, 0, a, s, 0, nI (t + 1), 0, 0, 0, 0, 0, nI m, io, u, one) := fun a b s => by
    rw [sm_tot_u, fn_MO_narrow_q89]
    exact e91 _ _
  have e82 : ∀ a b s, sm_tot (fn_MO_narrow (nI r) (nI n) cn) (82, 0, a, b, 0, nI t, 0, 0, 0, 0, s, nI m, io, u, one) = sm_tot (fn_MO_narrow (nI r) (nI n) cn) (16, 0, a, nI t, 0, nI (t + 1), 0, 0, 0, 0, 0, nI m, io, u, one) := fun a b s => by
    rw [sm_tot_u, fn_MO_narrow_q82]
    exact e89 _ _ _
  have hft := hb t ht
  have hl : ∀ p, rw_least t (fun j => rw_dot n A (V j)) = some p → p < t := fun p hp => (rw_least_some hp).1
  have hcmp0 : (lg_cmp (Int64.ofInt ((rw_dot n A (V t)).natAbs : Int)) 0 = 0) = (rw_dot n A (V t) = 0) := by
    refine propext ⟨fun q => ?_, fun q => ?_⟩
    · have := (lg_cmp_eq _ _).mp q
      rw [rg_zero (by omega)] at this
      omega
    · refine (lg_cmp_eq _ _).mpr ?_
      rw [rg_zero (by omega)]
      omega
  rw [sm_tot_u, fn_MO_narrow_q16]
  unfold fn_MO_narrow_b16
  rw [if_neg (nI_ge ht (by omega)), rf_6m, rf_dotV hr hm hn hA h ht, Option.bind_some, rf_size, Option.bind_some, rg_size hft, ie_n hcmp0]
  by_cases c0 : rw_dot n A (V t) = 0
  · have hk1 : rw_cnt (t + 1) (fun j => rw_dot n A (V j)) = rw_cnt t (fun j => rw_dot n A (V j)) := by
      show rw_cnt t (fun j => rw_dot n A (V j)) + (if rw_dot n A (V t) = 0 then 0 else 1) = _
      rw [if_pos c0]
      rfl
    have hk2 : rw_least (t + 1) (fun j => rw_dot n A (V j)) = rw_least t (fun j => rw_dot n A (V j)) := by
      cases hp : rw_least t (fun j => rw_dot n A (V j)) with
      | none =>
        simp only [rw_least, hp]
        rw [if_pos c0]
      | some p =>
        simp only [rw_least, hp]
        rw [if_neg (fun x => x.1 c0)]
    rw [if_pos c0, sm_ev_l, e91, hk1, hk2]
  · have hk1 : rw_cnt (t + 1) (fun j => rw_dot n A (V j)) = rw_cnt t (fun j => rw_dot n A (V j)) + 1 := by
      show rw_cnt t (fun j => rw_dot n A (V j)) + (if rw_dot n A (V t) = 0 then 0 else 1) = _
      rw [if_neg c0]
    rw [if_neg c0, hk1]
    cases hp : rw_least t (fun j => rw_dot n A (V j)) with
    | none =>
      have hk2 : rw_least (t + 1) (fun j => rw_dot n A (V j)) = some t := by
        simp only [rw_least, hp]
        rw [if_neg c0]
      rw [if_pos (show rf_L 0 none < 0 by decide), sm_ev_l, e82, hk2, rf_s, show rf_L 0 (some t) = nI t by show nI (0 + t) = nI t; rw [Nat.zero_add]]
    | some p =>
      have hpt := hl p hp
      have hfp := hb p (by omega)
      have hk2 : rw_least (t + 1) (fun j => rw_dot n A (V j)) = if rw_dot n A (V t) ≠ 0 ∧ (rw_dot n A (V t)).natAbs < (rw_dot n A (V p)).natAbs then some t else some p := by
        simp only [rw_least, hp]
      rw [show rf_L 0 (some p) = nI p by show nI (0 + p) = nI p; rw [Nat.zero_add]]
      rw [if_neg (show ¬ nI p < 0 by rw [ii_nI, il_0, ii_lt (by omega) (by omega) (by omega) (by omega)]; omega), rf_6m, rf_dotV hr hm hn hA h (show p < m by omega), Option.bind_some, rf_size, Option.bind_some, rg_size hfp, rf_s, hk2]
      by_cases c1 : (rw_dot n A (V t)).natAbs < (rw_dot n A (V p)).natAbs
      · rw [if_neg (show ¬ (0 : Int32) ≤ lg_cmp (Int64.ofInt ((rw_dot n A (V t)).natAbs : Int)) (Int64.ofInt ((rw_dot n A (V p)).natAbs : Int)) by
          intro x
          have h' := (lg_cmp_ge _ _).mp x
          rw [rg_le (by omega) (by omega)] at h'
          omega), sm_ev_l, e82, if_pos (show rw_dot n A (V t) ≠ 0 ∧ (rw_dot n A (V t)).natAbs < (rw_dot n A (V p)).natAbs from ⟨c0, c1⟩), show rf_L 0 (some t) = nI t by show nI (0 + t) = nI t; rw [Nat.zero_add]]
      · rw [if_pos (show (0 : Int32) ≤ lg_cmp (Int64.ofInt ((rw_dot n A (V t)).natAbs : Int)) (Int64.ofInt ((rw_dot n A (V p)).natAbs : Int)) by
          refine (lg_cmp_ge _ _).mpr ?_
          rw [rg_le (by omega) (by omega)]
          omega), sm_ev_l, e89, if_neg (show ¬ (rw_dot n A (V t) ≠ 0 ∧ (rw_dot n A (V t)).natAbs < (rw_dot n A (V p)).natAbs) from fun x => c1 x.2), show rf_L 0 (some p) = nI p by show nI (0 + p) = nI p; rw [Nat.zero_add]]
theorem rf_na0 (hr : r < 4) (hm : m ≤ 6) (hn : n ≤ 6) (hA : ∀ c, c < n → cn (7 * r + c) = iI (A c) ∧ (A c).natAbs ≤ 20) {u : Nat → Int64} {V : Nat → Nat → Int} (h : rf_pic m n u V) (hb : ∀ i, i < m → (rw_dot n A (V i)).natAbs ≤ 4611686018427387903) : ∀ t, t ≤ m →
    sm_tot (fn_MO_narrow (nI r) (nI n) cn) (16, 0, 0, -1, 0, 0, 0, 0, 0, 0, 0, nI m, io, u, one) = sm_tot (fn_MO_narrow (nI r) (nI n) cn) (16, 0, nI (rw_cnt t (fun j => rw_dot n A (V j))), rf_L 0 (rw_least t (fun j => rw_dot n A (V j))), 0, nI t, 0, 0, 0, 0, 0, nI m, io, u, one) := by
  intro t
  induction t with
  | zero => intro _; rfl
  | succ t ih => intro ht; exact (ih (by omega)).trans (rf_na1 hr hm hn hA h hb (by omega))
/-- the rows behind row 0, one after the other -/
theorem rf_na5 (hr : r < 4) (hm : m ≤ 6) (hn : n ≤ 6) (hA : ∀ c, c < n → cn (7 * r + c) = iI (A c) ∧ (A c).natAbs ≤ 20) {u : Nat → Int64} {V : Nat → Nat → Int} (h : rf_pic m n u V) (hb : ∀ i, i < m → (rw_dot n A (V i)).natAbs ≤ 4611686018427387903) (h0 : rw_dot n A (V 0) ≠ 0) (hm0 : 0 < m) {x : Int32} : ∀ t, 1 + t ≤ m →
    ∃ u', sm_tot (fn_MO_narrow (nI r) (nI n) cn) (123, 0, x, 0, 0, 0, Int64.ofInt (rw_dot n A (V 0)), 0, nI 1, 0, 0, nI m, io, u, one) = sm_tot (fn_MO_narrow (nI r) (nI n) cn) (123, 0, x, 0, 0, 0, Int64.ofInt (rw_dot n A (V 0)), 0, nI (1 + t), 0, 0, nI m, io, u', one)
      ∧ rf_pic m n u' (fun a c' => if 0 < a ∧ a < 1 + t then V a c' - (rw_dot n A (V a)).tdiv (rw_dot n A (V 0)) * V 0 c' else V a c') := by
  intro t
  induction t with
  | zero => intro _; exact ⟨u, rfl, rf_pic_congr h (fun a c' _ _ => by rw [if_neg (by omega)])⟩
  | succ t ih =>
    intro ht
    obtain ⟨u1, e1, p1⟩ := ih (by omega)
    have hz : ¬ Int64.ofInt (rw_dot n A (V 0)) = 0 := fun z => h0 ((rg_zero (hb 0 hm0)).mp z)
    have hd : sm_tot (fn_MO_dot (nI r) 36 u1 (nI (6 * (1 + t))) (nI n) cn) (0, 0, 0) = some (Int64.ofInt (rw_dot n A (V (1 + t)))) := by
      rw [rf_dotV hr hm hn hA p1 (show 1 + t < m by omega)]
      rw [show (fun c' => if 0 < 1 + t ∧ 1 + t < 1 + t then V (1 + t) c' - (rw_dot n A (V (1 + t))).tdiv (rw_dot n A (V 0)) * V 0 c' else V (1 + t) c') = V (1 + t) from funext fun c' => if_neg (by omega)]
    refine ⟨rf_lose n (1 + t) 0 (Int64.ofInt ((rw_dot n A (V (1 + t))).tdiv (rw_dot n A (V 0)))) u1, e1.trans ?_, ?_⟩
    · rw [sm_tot_u, fn_MO_narrow_q123]
      unfold fn_MO_narrow_b123
      rw [if_neg (nI_ge (show 1 + t < m by omega) (by omega)), rf_6m, hd, Option.bind_some, if_pos hz, rg_div (hb _ (by omega)) (hb 0 hm0)]
      have hlo := rf_lose_tot (i := 1 + t) (j := 0) (n := n) (q := Int64.ofInt ((rw_dot n A (V (1 + t))).tdiv (rw_dot n A (V 0)))) (by omega) (by omega) (by omega) hn u1
      rw [show nI 0 = 0 from rfl] at hlo
      rw [hlo, Option.bind_some, sm_ev_l, rf_s]
      rfl
    · refine rf_pic_congr (rf_pic_lose (i := 1 + t) hn p1 hm0 _) (fun a c' ha hc' => ?_)
      by_cases e : a = 1 + t
      · rw [if_pos e, if_neg (by omega), if_neg (by omega), if_pos (by omega), e]
      · rw [if_neg e]
        by_cases e2 : 0 < a ∧ a < 1 + t
        · rw [if_pos e2, if_pos (by omega)]
        · rw [if_neg e2, if_neg (by omega)]
/-- a round -/
theorem rf_nar (hr : r < 4) (hm : m ≤ 6) (hn : n ≤ 6) (hA : ∀ c, c < n → cn (7 * r + c) = iI (A c) ∧ (A c).natAbs ≤ 20) {u : Nat → Int64} {V : Nat → Nat → Int} (h : rf_pic m n u V) (hb : ∀ i, i < m → (rw_dot n A (V i)).natAbs ≤ 4611686018427387903) (hcn : rw_cnt m (fun j => rw_dot n A (V j)) ≠ 0) (x3 : Int32) :
    ∃ u', sm_tot (fn_MO_narrow (nI r) (nI n) cn) (4, 1, x3, 0, 0, 0, 0, 0, 0, 0, 0, nI m, io, u, one) = sm_tot (fn_MO_narrow (nI r) (nI n) cn) (4, (if rw_cnt m (fun j => rw_dot n A (V j)) ≤ 1 then 0 else 1), nI (rw_cnt m (fun j => rw_dot n A (V j))), 0, 0, 0, 0, 0, 0, 0, 0, nI m, io, u', one) ∧ rf_pic m n u' (fun i c' => rw_rnd false m (fun j => rw_dot n A (V j)) (fun j => V j c') i) := by
  obtain ⟨p1, p2, p3⟩ := rw_lst_spec hcn
  have hle : rw_least m (fun j => rw_dot n A (V j)) = some (rw_lst m (fun j => rw_dot n A (V j))) := by
    cases e : rw_least m (fun j => rw_dot n A (V j)) with
    | none => exact absurd (rw_least_none e) hcn
    | some q => unfold rw_lst; rw [e]; rfl
  have hcl := rf_cnt_lt (s := m) (f := fun j => rw_dot n A (V j)) (by omega)
  have e0 := rf_na0 (io := io) (one := one) hr hm hn hA h hb m (Nat.le_refl _)
  rw [hle] at e0
  generalize hp : rw_lst m (fun j => rw_dot n A (V j)) = p at *
  have hm0 : 0 < m := by omega
  have pic1 := rf_pic_exch (i := 0) (j := p) hn h hm0 p1
  have pic2 : rf_pic m n (rf_exch n 0 p u) (fun i c' => rw_pre false m (fun j => rw_dot n A (V j)) (fun j => V j c') i) := rf_pic_congr pic1 (fun i c' hi hc' => by
    show _ = rw_ng (false && decide (rw_dot n A (V (rw_lst m (fun j => rw_dot n A (V j)))) < 0)) i * V (rw_sg (rw_lst m (fun j => rw_dot n A (V j))) i) c'
    rw [hp, Bool.false_and]
    unfold rw_ng rw_sg
    rw [if_neg (show ¬ (i = 0 ∧ false = true) from fun x => absurd x.2 (by decide)), Int.one_mul]
    by_cases q : i = 0
    · rw [if_pos q, if_pos q]
    · rw [if_neg q, if_neg q]
      by_cases q1 : i = p
      · rw [if_pos q1, if_pos q1]
      · rw [if_neg q1, if_neg q1])
  have hW : ∀ i, (fun c' => rw_pre false m (fun j => rw_dot n A (V j)) (fun j => V j c') i) = V (rw_sg p i) := fun i => funext fun c' => by
    show rw_ng (false && decide (rw_dot n A (V (rw_lst m (fun j => rw_dot n A (V j)))) < 0)) i * V (rw_sg (rw_lst m (fun j => rw_dot n A (V j))) i) c' = _
    rw [hp, Bool.false_and]
    unfold rw_ng
    rw [if_neg (fun x => absurd x.2 (by decide)), Int.one_mul]
  have hsg0 : rw_sg p 0 = p := by simp [rw_sg]
  have hpre : ∀ i, rw_pre false m (fun j => rw_dot n A (V j)) (fun j => rw_dot n A (V j)) i = rw_dot n A (V (rw_sg p i)) := fun i => by
    show rw_ng (false && decide (rw_dot n A (V (rw_lst m (fun j => rw_dot n A (V j)))) < 0)) i * rw_dot n A (V (rw_sg (rw_lst m (fun j => rw_dot n A (V j))) i)) = _
    rw [hp, Bool.false_and]
    unfold rw_ng
    rw [if_neg (fun x => absurd x.2 (by decide)), Int.one_mul]
  obtain ⟨u', e3, pic3⟩ := rf_na5 (io := io) (one := one) hr hm hn hA pic2 (fun i hi => by
    rw [hW]
    exact hb _ (rw_sg_lt p1 hi)) (by
    rw [hW, hsg0]
    exact p2) hm0 (x := nI (rw_cnt m (fun j => rw_dot n A (V j)))) (m - 1) (by omega)
  rw [hW 0, hsg0, show 1 + (m - 1) = m by omega] at e3
  have e4 : sm_tot (fn_MO_narrow (nI r) (nI n) cn) (4, 1, x3, 0, 0, 0, 0, 0, 0, 0, 0, nI m, io, u, one) = sm_tot (fn_MO_narrow (nI r) (nI n) cn) (16, 0, 0, -1, 0, 0, 0, 0, 0, 0, 0, nI m, io, u, one) := by
    rw [sm_tot_u, fn_MO_narrow_q4]
    unfold fn_MO_narrow_b4
    rw [if_neg (show ¬ (1 : Int32) = 0 by decide), sm_ev_l]
  have e16 : sm_tot (fn_MO_narrow (nI r) (nI n) cn) (16, 0, nI (rw_cnt m (fun j => rw_dot n A (V j))), rf_L 0 (some p), 0, nI m, 0, 0, 0, 0, 0, nI m, io, u, one) = sm_tot (fn_MO_narrow (nI r) (nI n) cn) (123, 0, nI (rw_cnt m (fun j => rw_dot n A (V j))), 0, 0, 0, Int64.ofInt (rw_dot n A (V p)), 0, nI 1, 0, 0, nI m, io, rf_exch n 0 p u, one) := by
    rw [sm_tot_u, fn_MO_narrow_q16]
    unfold fn_MO_narrow_b16
    have hex := rf_exch_tot (i := 0) (j := p) (n := n) (by omega) (by omega) hn u
    have hdt := rf_dotV (r := r) (A := A) hr hm hn hA pic2 hm0
    rw [hW 0, hsg0] at hdt
    rw [show nI 0 = 0 from rfl] at hex
    rw [show nI (6 * 0) = 0 from rfl] at hdt
    rw [if_pos (nI_le (Nat.le_refl _) (by omega)), if_neg (show ¬ nI (rw_cnt m (fun j => rw_dot n A (V j))) ≤ 0 by
      rw [ii_nI, il_0, ii_le (by omega) (by omega) (by omega) (by omega)]
      omega), show rf_L 0 (some p) = nI p by show nI (0 + p) = nI p; rw [Nat.zero_add], hex, Option.bind_some, hdt, Option.bind_some, sm_ev_l]
    rfl
  have e172 : ∀ a, sm_tot (fn_MO_narrow (nI r) (nI n) cn) (172, 0, nI (rw_cnt m (fun j => rw_dot n A (V j))), 0, 0, 0, 0, 0, 0, 0, a, nI m, io, u', one) = sm_tot (fn_MO_narrow (nI r) (nI n) cn) (4, a, nI (rw_cnt m (fun j => rw_dot n A (V j))), 0, 0, 0, 0, 0, 0, 0, 0, nI m, io, u', one) := fun a => by
    rw [sm_tot_u, fn_MO_narrow_q172]
    rfl
  have e123 : sm_tot (fn_MO_narrow (nI r) (nI n) cn) (123, 0, nI (rw_cnt m (fun j => rw_dot n A (V j))), 0, 0, 0, Int64.ofInt (rw_dot n A (V p)), 0, nI m, 0, 0, nI m, io, u', one) = sm_tot (fn_MO_narrow (nI r) (nI n) cn) (4, (if rw_cnt m (fun j => rw_dot n A (V j)) ≤ 1 then 0 else 1), nI (rw_cnt m (fun j => rw_dot n A (V j))), 0, 0, 0, 0, 0, 0, 0, 0, nI m, io, u', one) := by
    rw [sm_tot_u, fn_MO_narrow_q123]
    unfold fn_MO_narrow_b123
    rw [if_pos (nI_le (Nat.le_refl _) (by omega)), sm_ev_l, sm_tot_u, fn_MO_narrow_q162]
    unfold fn_MO_narrow_b162
    by_cases q : rw_cnt m (fun j => rw_dot n A (V j)) ≤ 1
    · rw [if_pos (show nI (rw_cnt m (fun j => rw_dot n A (V j))) ≤ 1 from (nI_leI (b := 1) hcl (by omega)).mpr q), if_pos q, sm_ev_l, e172]
    · rw [if_neg (show ¬ nI (rw_cnt m (fun j => rw_dot n A (V j))) ≤ 1 from fun x => q ((nI_leI (b := 1) hcl (by omega)).mp x)), if_neg q, sm_ev_l, e172]
  refine ⟨u', e4.trans (e0.trans (e16.trans (e3.trans e123))), rf_pic_congr pic3 (fun i c' hi hc' => ?_)⟩
  by_cases q0 : i = 0
  · subst q0
    rw [if_neg (show ¬ (0 < 0 ∧ 0 < 1 + (m - 1)) by omega)]
    unfold rw_rnd
    rw [rw_red0]
  · rw [if_pos (show 0 < i ∧ i < 1 + (m - 1) by omega), hW, hW, ← hpre, ← hpre]
    unfold rw_rnd
    rw [rw_red1 _ _ (show 0 < i by omega) hi]
    rfl
theorem rf_nar_dot {V : Nat → Nat → Int} (hcn : rw_cnt m (fun j => rw_dot n A (V j)) ≠ 0) : ∀ i, i < m → rw_dot n A (fun c' => rw_rnd false m (fun j => rw_dot n A (V j)) (fun j => V j c') i) = rw_rnd false m (fun j => rw_dot n A (V j)) (fun j => rw_dot n A (V j)) i := by
  intro i hi
  have hW : ∀ i, (fun c' => rw_pre false m (fun j => rw_dot n A (V j)) (fun j => V j c') i) = V (rw_sg (rw_lst m (fun j => rw_dot n A (V j))) i) := fun i => funext fun c' => by
    show rw_ng (false && decide (rw_dot n A (V (rw_lst m (fun j => rw_dot n A (V j)))) < 0)) i * V (rw_sg (rw_lst m (fun j => rw_dot n A (V j))) i) c' = _
    rw [Bool.false_and]
    unfold rw_ng
    rw [if_neg (fun x => absurd x.2 (by decide)), Int.one_mul]
  have hpre : ∀ i, rw_pre false m (fun j => rw_dot n A (V j)) (fun j => rw_dot n A (V j)) i = rw_dot n A (V (rw_sg (rw_lst m (fun j => rw_dot n A (V j))) i)) := fun i => by
    show rw_ng (false && decide (rw_dot n A (V (rw_lst m (fun j => rw_dot n A (V j)))) < 0)) i * rw_dot n A (V (rw_sg (rw_lst m (fun j => rw_dot n A (V j))) i)) = _
    rw [Bool.false_and]
    unfold rw_ng
    rw [if_neg (fun x => absurd x.2 (by decide)), Int.one_mul]
  unfold rw_rnd
  by_cases q0 : i = 0
  · subst q0
    rw [rw_red0, hpre 0, ← hW 0]
    congr 1
    funext c'
    rw [rw_red0]
  · rw [rw_red1 _ _ (show 0 < i by omega) hi, hpre i, hpre 0, ← hW i, ← hW 0, ← rw_dot_sub]
    congr 1
    funext c'
    rw [rw_red1 _ _ (show 0 < i by omega) hi]
theorem rf_nar_l (hr : r < 4) (hm : m ≤ 6) (hn : n ≤ 6) (hA : ∀ c, c < n → cn (7 * r + c) = iI (A c) ∧ (A c).natAbs ≤ 20) : ∀ (N : Nat) (V : Nat → Nat → Int) (u : Nat → Int64) (x3 : Int32), rf_pic m n u V → (∀ i, i < m → (rw_dot n A (V i)).natAbs ≤ 4611686018427387903) → ((rw_dot n A (V (rw_lst m (fun j => rw_dot n A (V j))))).natAbs < N ∨ (rw_cnt m (fun j => rw_dot n A (V j)) ≤ 1 ∧ 0 < N)) →
    ∃ u' k, sm_tot (fn_MO_narrow (nI r) (nI n) cn) (4, 1, x3, 0, 0, 0, 0, 0, 0, 0, 0, nI m, io, u, one) = sm_tot (fn_MO_narrow (nI r) (nI n) cn) (4, 0, nI k, 0, 0, 0, 0, 0, 0, 0, 0, nI m, io, u', one) ∧ k ≤ 6 ∧ (k = 0 ↔ rw_cnt m (fun j => rw_dot n A (V j)) = 0) ∧ rf_pic m n u' (fun i c' => rw_ph false m N (fun j => rw_dot n A (V j)) (fun j => V j c') i) := by
  have hcle : ∀ s f, rw_cnt s f ≤ s := by
    intro s f
    induction s with
    | zero => exact Nat.le_refl _
    | succ s ih =>
      show rw_cnt s f + (if f s = 0 then 0 else 1) ≤ s + 1
      split <;> omega
  intro N
  induction N with
  | zero => intro V u x3 _ _ h; omega
  | succ N ih =>
    intro V u x3 h hb hN
    have hc6 := hcle m (fun j => rw_dot n A (V j))
    by_cases c0 : rw_cnt m (fun j => rw_dot n A (V j)) = 0
    · refine ⟨u, 0, ?_, by omega, ⟨fun _ => c0, fun _ => rfl⟩, rf_pic_congr h (fun i c' hi hc' => ?_)⟩
      · have e0 := rf_na0 (io := io) (one := one) hr hm hn hA h hb m (Nat.le_refl _)
        rw [c0] at e0
        rw [sm_tot_u, fn_MO_narrow_q4]
        unfold fn_MO_narrow_b4
        rw [if_neg (show ¬ (1 : Int32) = 0 by decide), sm_ev_l, e0, sm_tot_u, fn_MO_narrow_q16]
        unfold fn_MO_narrow_b16
        rw [if_pos (nI_le (Nat.le_refl _) (by omega)), if_pos (show nI 0 ≤ 0 by decide), sm_ev_l, sm_tot_u, fn_MO_narrow_q162]
        unfold fn_MO_narrow_b162
        rw [if_pos (show nI 0 ≤ 1 by decide), sm_ev_l, sm_tot_u, fn_MO_narrow_q172]
        rfl
      · show _ = (if rw_cnt m (fun j => rw_dot n A (V j)) = 0 then (fun j => V j c') else _) i
        rw [if_pos c0]
    · obtain ⟨u1, e1, pic1⟩ := rf_nar (io := io) (one := one) hr hm hn hA h hb c0 x3
      have hf : (fun j => rw_dot n A ((fun i c' => rw_rnd false m (fun j => rw_dot n A (V j)) (fun j => V j c') i) j)) = fun j => rw_dot n A (fun c' => rw_rnd false m (fun j => rw_dot n A (V j)) (fun j => V j c') j) := rfl
      by_cases c1 : rw_cnt m (fun j => rw_dot n A (V j)) = 1
      · rw [if_pos (show rw_cnt m (fun j => rw_dot n A (V j)) ≤ 1 by omega)] at e1
        refine ⟨u1, _, e1, by omega, ⟨fun q => q, fun q => q⟩, rf_pic_congr pic1 (fun i c' hi hc' => ?_)⟩
        show _ = (if rw_cnt m (fun j => rw_dot n A (V j)) = 0 then (fun j => V j c') else if rw_cnt m (fun j => rw_dot n A (V j)) = 1 then _ else _) i
        rw [if_neg c0, if_pos c1]
      · rw [if_neg (show ¬ rw_cnt m (fun j => rw_dot n A (V j)) ≤ 1 by omega)] at e1
        have hfu := rw_rnd_fu (t := false) (s := m) (N := N) (f := fun j => rw_dot n A (V j)) (by omega) (by omega)
        have hd := rf_nar_dot (A := A) c0
        have hg1 := rw_cnt_cong hd
        have hg2 := rw_least_cong hd
        have hl : rw_lst m (fun j => rw_dot n A (fun c' => rw_rnd false m (fun j => rw_dot n A (V j)) (fun j => V j c') j)) = rw_lst m (rw_rnd false m (fun j => rw_dot n A (V j)) (fun j => rw_dot n A (V j))) := by
          unfold rw_lst
          rw [hg2]
        have hne : rw_cnt m (rw_rnd false m (fun j => rw_dot n A (V j)) (fun j => rw_dot n A (V j))) ≠ 0 := by
          intro q
          have h0 := rw_cnt0.mp q 0 (by omega)
          have h1 := rw_rnd_abs0 false m (fun j => rw_dot n A (V j))
          rw [h0] at h1
          have h2 := (rw_lst_spec c0).2.1
          omega
        have hlt : rw_lst m (rw_rnd false m (fun j => rw_dot n A (V j)) (fun j => rw_dot n A (V j))) < m := (rw_lst_spec hne).1
        obtain ⟨u', k, e2, k6, hk, pic2⟩ := ih _ u1 (nI (rw_cnt m (fun j => rw_dot n A (V j)))) pic1 (fun i hi => by
          rw [hd i hi]
          exact rw_rnd_abs c0 hi (fun j hj => hb j hj)) (by
          rw [hl, hd _ hlt, hg1]
          exact hfu)
        rw [hg1] at hk
        refine ⟨u', k, e1.trans e2, k6, ⟨fun q => absurd (hk.mp q) hne, fun q => absurd q c0⟩, rf_pic_congr pic2 (fun i c' hi hc' => ?_)⟩
        show _ = (if rw_cnt m (fun j => rw_dot n A (V j)) = 0 then (fun j => V j c') else if rw_cnt m (fun j => rw_dot n A (V j)) = 1 then _ else _) i
        rw [if_neg c0, if_neg c1]
        rw [rw_ph_cong hd]
end NA
