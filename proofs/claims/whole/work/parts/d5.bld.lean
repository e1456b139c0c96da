/-! LATTICES 28: the class's basis of all (A x, x) -/
/-- for any number of columns: the basis, and how large it is -/
theorem rw_st_any {n r m : Nat} {A V : Nat → Nat → Int} (hr : r ≤ 3) (haa : ∀ q c, q < r + 1 → (A q c).natAbs ≤ 20) (H : rw_st n r A V m) : rw_st n (r + 1) A (rw_stp n (A r) V m).1 (rw_stp n (A r) V m).2 := by
  obtain ⟨ρ, ix, ld, nn, h1, hix, h3, h4⟩ := H
  have hker : ∀ v, rw_ker n (r + 1) A v ↔ rw_ker n r A v ∧ rw_dot n (A r) v = 0 := fun v =>
    ⟨fun h => ⟨fun q hq => h q (by omega), h r (by omega)⟩, fun ⟨h, h'⟩ q hq => by
      by_cases e : q = r
      · rw [e]; exact h'
      · exact h q (by omega)⟩
  by_cases hz : rw_cnt m (fun i => rw_dot n (A r) (V i)) = 0
  · have es : rw_stp n (A r) V m = (V, m) := by unfold rw_stp; rw [if_pos hz, (rw_fix h3.2.2.2.1 n (Nat.le_refl n)).1]
    rw [es]
    refine ⟨ρ, ix, ld, nn, by omega, fun q hq => by have := hix q hq; omega, h3, fun v => ?_⟩
    rw [hker, ← h4]
    constructor
    · intro h
      refine ⟨h, ?_⟩
      obtain ⟨X, hX⟩ := h3.2.2.1 v h
      rw [rw_dot_congr hX, rw_dot_S]
      exact rw_S_zero fun k hk => by rw [rw_cnt0.mp hz k hk, Int.mul_zero]
    · exact fun h => h.1
  · let ix' : Nat → Nat := fun q => if q = ρ then r else ix q
    let α' : Nat → Nat → Int := fun q => A (ix' q)
    have eα : ∀ q c, q < ρ → A (ix q) c = α' q c := fun q c hq => by show A (ix q) c = A (if q = ρ then r else ix q) c; rw [if_neg (by omega)]
    have eρ : α' ρ = A r := by show A (if ρ = ρ then r else ix ρ) = A r; rw [if_pos rfl]
    have h3' : rw_dat n ρ m α' V ld nn := rw_dat_rows eα h3
    have hz' : rw_cnt m (fun i => rw_dot n (α' ρ) (V i)) ≠ 0 := by rw [eρ]; exact hz
    have hk2 : ∀ v, rw_ker n (ρ + 1) α' v ↔ rw_ker n (r + 1) A v := fun v => by
      rw [hker, ← h4]
      constructor
      · intro h
        exact ⟨(rw_ker_rows eα).mpr (fun q hq => h q (by omega)), by rw [← eρ]; exact h ρ (by omega)⟩
      · intro ⟨h, h'⟩ q hq
        by_cases e : q = ρ
        · show rw_dot n (α' q) v = 0
          rw [e, eρ]; exact h'
        · exact (rw_ker_rows eα).mp h q (by omega)
    have B0 : rw_bas n ρ α' V m := ⟨h3'.1, h3'.2.1, h3'.2.2.1, ld, h3'.2.2.2.1⟩
    have es : rw_stp n (A r) V m = ((rw_ordN (m - 1) (fun i => rw_nar n m (A r) V (i + 1)) n).1, m - 1) := by unfold rw_stp; rw [if_neg hz]
    have B1 := rw_bas_step B0
    rw [eρ, es] at B1
    rw [es]
    obtain ⟨f1, f2, f3, ld', f4⟩ := B1
    obtain ⟨p, -, -, -, -, D'⟩ := rw_dat_step h3' (by omega) hz' f1 f2 f3 f4
    exact ⟨ρ + 1, ix', ld', _, by omega, fun q hq => by
      show (if q = ρ then r else ix q) < r + 1
      by_cases e : q = ρ
      · rw [if_pos e]; omega
      · rw [if_neg e]; have := hix q (by omega); omega, D', hk2⟩
theorem rw_sol_any {n r : Nat} {A : Nat → Nat → Int} (hr : r ≤ 4) (ha : ∀ q c, q < r → (A q c).natAbs ≤ 20) : rw_st n r A (rw_sol n A r).1 (rw_sol n A r).2 := by
  induction r with
  | zero => exact rw_st_zero n A
  | succ r ih => exact rw_st_any (by omega) ha (ih (by omega) (fun q c hq => ha q c (by omega)))
/-- column k of the system, with its own 1 -/
def rw_fr (h : Nat) (A : Nat → Nat → Int) (k : Nat) : Nat → Int := fun c => if c < h then A c k else if c = h + k then 1 else 0
/-- the rows that all (A x, x) solve with 0 -/
def rw_al (h : Nat) (A : Nat → Nat → Int) : Nat → Nat → Int := fun q c => if c < h then rw_u q c else - A q (c - h)
theorem rw_S_fr (h c : Nat) (A : Nat → Nat → Int) (y : Nat → Int) (k : Nat) : rw_S c (fun j => y j * rw_fr h A j k) = if k < h then rw_S c (fun j => A k j * y j) else if k < h + c then y (k - h) else 0 := by
  by_cases hk : k < h
  · rw [if_pos hk]
    exact rw_S_congr fun j _ => by unfold rw_fr; rw [if_pos hk, Int.mul_comm]
  · rw [if_neg hk]
    by_cases hk2 : k < h + c
    · rw [if_pos hk2, rw_S_one (i := k - h) (by omega) (fun j hj hne => by unfold rw_fr; rw [if_neg hk, if_neg (by omega), Int.mul_zero])]
      unfold rw_fr
      rw [if_neg hk, if_pos (by omega), Int.mul_one]
    · rw [if_neg hk2]
      exact rw_S_zero fun j hj => by unfold rw_fr; rw [if_neg hk, if_neg (by omega), Int.mul_zero]
theorem rw_al_ker {h c : Nat} {A : Nat → Nat → Int} {x : Nat → Int} : rw_ker (h + c) h (rw_al h A) x ↔ rw_in (h + c) c (rw_fr h A) x := by
  have dot : ∀ q, q < h → rw_dot (h + c) (rw_al h A q) x = x q - rw_S c (fun j => A q j * x (h + j)) := fun q hq => by
    unfold rw_dot
    rw [rw_S_split]
    have e1 : rw_S h (fun k => rw_al h A q k * x k) = rw_S h (fun k => rw_u q k * x k) := rw_S_congr fun k hk => by unfold rw_al; rw [if_pos hk]
    have e2 : rw_S c (fun j => rw_al h A q (h + j) * x (h + j)) = rw_S c (fun j => (-1) * (A q j * x (h + j))) := rw_S_congr fun j _ => by
      unfold rw_al; rw [if_neg (by omega), Nat.add_sub_cancel_left]; grind
    rw [e1, rw_S_u hq x, e2, rw_S_mul]; omega
  constructor
  · intro H
    refine ⟨fun j => x (h + j), fun k hk => ?_⟩
    rw [rw_S_fr]
    by_cases hk1 : k < h
    · rw [if_pos hk1]
      have := H k hk1
      rw [dot k hk1] at this
      omega
    · rw [if_neg hk1, if_pos hk, show h + (k - h) = k by omega]
  · intro ⟨y, hy⟩ q hq
    rw [dot q hq]
    have e0 := hy q (by omega)
    rw [rw_S_fr, if_pos hq] at e0
    have e1 : rw_S c (fun j => A q j * x (h + j)) = rw_S c (fun j => A q j * y j) := rw_S_congr fun j hj => by
      have := hy (h + j) (by omega)
      rw [rw_S_fr, if_neg (by omega), if_pos (by omega), Nat.add_sub_cancel_left] at this
      rw [this]
    rw [e0, e1]; omega
def rw_bld (w h : Nat) (A : Nat → Nat → Int) : Nat → Nat → Nat → Int
  | 0 => fun _ _ => 0
  | c + 1 => rw_ra w (rw_insN w (rw_bld w h A c) (rw_fr h A c) w).1 w
/-- what the class has behind c columns -/
def rw_bp (w h : Nat) (A : Nat → Nat → Int) (c : Nat) (U : Nat → Nat → Int) : Prop :=
  rw_tri w U ∧ rw_trd w U ∧ (∀ x, rw_in w w U x ↔ rw_in w c (rw_fr h A) x) ∧ ∀ a b, a < w → b < w → (U a b).natAbs ≤ 3840000
section BL
variable {w h n : Nat} {A : Nat → Nat → Int}
/-- the numbers of such rows -/
theorem rw_bp_le {c : Nat} {U : Nat → Nat → Int} (hw : w = h + n) (hh : h ≤ 4) (hc : c ≤ n) (ha : ∀ q k, q < h → (A q k).natAbs ≤ 20) (H : rw_tri w U) (Hr : rw_trd w U) (hs : ∀ x, rw_in w w U x ↔ rw_in w c (rw_fr h A) x) :
    (∃ (m : Nat) (V : Nat → Nat → Int) (ld : Nat → Nat), rw_HNF (h + c) m V ld ∧ (∀ i, i < m → ∀ k, k < h + c → U (ld i) k = V i k) ∧ (∀ a, a < h + c → (U a a ≠ 0 ↔ ∃ i, i < m ∧ ld i = a)) ∧ ∃ (ρ : Nat) (ix nn : Nat → Nat), ρ ≤ h ∧ (∀ q, q < ρ → ix q < h) ∧ rw_dat (h + c) ρ m (fun q => rw_al h A (ix q)) V ld nn)
    ∧ (∀ a b, a < w → b < w → (U a b).natAbs ≤ 3840000) ∧ ∀ a b, a < w → h + c ≤ b → b < w → U a b = 0 := by
  have haα : ∀ q k, q < h → (rw_al h A q k).natAbs ≤ 20 := fun q k hq => by
    unfold rw_al
    by_cases hk : k < h
    · rw [if_pos hk]; have := rw_u_abs q k; omega
    · rw [if_neg hk]; have := ha q (k - h) hq; omega
  obtain ⟨ρ, ix, ld, nn, h1, hix, h3, h4⟩ := rw_sol_any (n := h + c) hh haα
  generalize (rw_sol (h + c) (rw_al h A) h).1 = V at *
  generalize (rw_sol (h + c) (rw_al h A) h).2 = m at *
  -- what lies behind the columns that have come in is 0
  have z : ∀ a b, a < w → h + c ≤ b → b < w → U a b = 0 := fun a b ha' hb1 hb2 => by
    obtain ⟨y, hy⟩ := (hs (U a)).mp (rw_in_row U ha')
    rw [hy b hb2, rw_S_fr, if_neg (by omega), if_neg (by omega)]
  have tri' : rw_tri (h + c) U := fun a ha' => ⟨(H a (by omega)).1, (H a (by omega)).2.1, fun e k hk => (H a (by omega)).2.2 e k (by omega)⟩
  have trd' : rw_trd (h + c) U := fun a a' h1 h2 h3 => Hr a a' h1 (by omega) h3
  have s1 : ∀ i, i < m → rw_in (h + c) (h + c) U (V i) := fun i hi => by
    have k := (h4 (V i)).mp (h3.2.1 i hi)
    obtain ⟨y, hy⟩ := rw_al_ker.mp k
    have : rw_in w w U (fun k => rw_S c (fun j => y j * rw_fr h A j k)) := (hs _).mpr ⟨y, fun k _ => rfl⟩
    obtain ⟨X, hX'⟩ := this
    have hX : ∀ k, k < w → rw_S c (fun j => y j * rw_fr h A j k) = rw_S w (fun j => X j * U j k) := hX'
    refine ⟨X, fun k hk => ?_⟩
    rw [hy k hk, hX k (by omega), rw_S_spl (show h + c ≤ w by omega), rw_S_zero (n := w - (h + c)) (fun a ha' => by rw [(H (h + c + a) (by omega)).1 k (by omega), Int.mul_zero]), Int.add_zero]
  have s2 : ∀ a, a < h + c → rw_in (h + c) m V (U a) := fun a ha' => by
    obtain ⟨y, hy⟩ := (hs (U a)).mp (rw_in_row U (by omega))
    exact h3.2.2.1 _ ((h4 _).mpr (rw_al_ker.mpr ⟨y, fun k hk => hy k (by omega)⟩))
  obtain ⟨t1, t2⟩ := rw_tri_HNF tri' trd' h3.2.2.2.1 s1 s2
  refine ⟨⟨m, V, ld, h3.2.2.2.1, t1, t2, ρ, ix, nn, h1, hix, h3⟩, fun a b ha' hb => ?_, z⟩
  by_cases hb2 : h + c ≤ b
  · rw [z a b ha' hb2 hb]; exact Nat.zero_le _
  · by_cases ha2 : h + c ≤ a
    · rw [(H a ha').1 b (by omega)]; exact Nat.zero_le _
    · by_cases hd : U a a = 0
      · rw [(H a ha').2.2 hd b hb]; exact Nat.zero_le _
      · obtain ⟨i, hi, e⟩ := (t2 a (by omega)).mp hd
        rw [← e, t1 i hi b (by omega)]
        exact Nat.le_trans (rw_dat_all h3 (by omega) (fun q k hq => haα _ k (hix q hq)) hi (by omega)) (rw_dl_le (by omega))
theorem rw_bp_step {c : Nat} {U : Nat → Nat → Int} (hw : w = h + n) (hh : h ≤ 4) (hc : c < n) (ha : ∀ q k, q < h → (A q k).natAbs ≤ 20) (H : rw_bp w h A c U) :
    rw_bp w h A (c + 1) (rw_ra w (rw_insN w U (rw_fr h A c) w).1 w) := by
  obtain ⟨h1, h2, h3, h4⟩ := H
  have fv : ∀ b, b < w → 0 < U b b → (rw_fr h A c b).natAbs ≤ 20 * (U b b).natAbs := fun b hb hp => by
    have : (rw_fr h A c b).natAbs ≤ 20 := by
      unfold rw_fr
      by_cases hk : b < h
      · rw [if_pos hk]; exact ha b c hk
      · rw [if_neg hk]; split <;> decide
    omega
  obtain ⟨i1, i2⟩ := rw_ins_all h1 fv (fun b hb => h4 b b hb hb)
  obtain ⟨r1, -, -, r4, r5⟩ := rw_ra_inv i1 w (Nat.le_refl w)
  have hr : rw_trd w (rw_ra w (rw_insN w U (rw_fr h A c) w).1 w) := fun a a' e1 e2 e3 => r4 a a' (by omega) e1 e2 e3
  have hsp : ∀ x, rw_in w w (rw_ra w (rw_insN w U (rw_fr h A c) w).1 w) x ↔ rw_in w (c + 1) (rw_fr h A) x := fun x => by
    refine (r5 x).symm.trans ((i2 x).symm.trans ?_)
    constructor
    · refine rw_in_trans fun b hb => ?_
      by_cases e : b = w
      · subst e; rw [rw_uv_last]; exact rw_in_row _ (by omega)
      · rw [rw_uv_row (by omega)]
        have := (h3 (U b)).mp (rw_in_row U (by omega))
        exact rw_in_trans (fun k hk => rw_in_row (rw_fr h A) (by omega)) this
    · refine rw_in_trans fun k hk => ?_
      by_cases e : k = c
      · subst e
        have := rw_in_row (n := w) (m := w + 1) (rw_uv w U (rw_fr h A k)) (show w < w + 1 by omega)
        rw [rw_uv_last] at this
        exact this
      · have q := (h3 (rw_fr h A k)).mpr (rw_in_row _ (by omega))
        refine rw_in_trans (fun b hb => ?_) q
        have := rw_in_row (n := w) (m := w + 1) (rw_uv w U (rw_fr h A c)) (show b < w + 1 by omega)
        rw [rw_uv_row hb] at this
        exact this
  exact ⟨r1, hr, hsp, (rw_bp_le hw hh (show c + 1 ≤ n by omega) ha r1 hr hsp).2.1⟩
theorem rw_bld_bp (hw : w = h + n) (hh : h ≤ 4) (ha : ∀ q k, q < h → (A q k).natAbs ≤ 20) : ∀ c, c ≤ n → rw_bp w h A c (rw_bld w h A c) := by
  intro c
  induction c with
  | zero =>
    intro _
    refine ⟨fun a _ => ⟨fun _ _ => rfl, Int.le_refl _, fun _ _ _ => rfl⟩, fun a a' _ _ h => absurd h (Int.lt_irrefl 0), fun x => ⟨fun ⟨X, hX⟩ => ⟨X, fun k hk => ?_⟩, fun ⟨X, hX⟩ => ⟨X, fun k hk => ?_⟩⟩, fun a b _ _ => Nat.zero_le _⟩
    · rw [hX k hk]; exact rw_S_zero fun j _ => Int.mul_zero _
    · rw [hX k hk]; exact (rw_S_zero fun j _ => Int.mul_zero _).symm
  | succ c ih => intro hc; exact rw_bp_step hw hh (by omega) ha (ih (by omega))
/-- the class's kernel is the reference's -/
theorem rw_bld_ker (hw : w = h + n) (hh : h ≤ 4) (ha : ∀ q k, q < h → (A q k).natAbs ≤ 20) {m : Nat} {V : Nat → Nat → Int} {ld : Nat → Nat} (Hb : rw_bas n h A V m) (Hl : rw_HNF n m V ld) :
    (∀ i, i < m → ∀ c, c < n → rw_bld w h A n (h + ld i) (h + c) = V i c) ∧ ∀ a, a < n → (rw_bld w h A n (h + a) (h + a) ≠ 0 ↔ ∃ i, i < m ∧ ld i = a) := by
  obtain ⟨b1, b2, b3, -⟩ := rw_bld_bp hw hh ha n (Nat.le_refl n)
  generalize rw_bld w h A n = U at *
  have tri' : rw_tri n (fun a c => U (h + a) (h + c)) := fun a ha' => ⟨fun c hc => (b1 (h + a) (by omega)).1 (h + c) (by omega), (b1 (h + a) (by omega)).2.1, fun e c hc => (b1 (h + a) (by omega)).2.2 e (h + c) (by omega)⟩
  have trd' : rw_trd n (fun a c => U (h + a) (h + c)) := fun a a' e1 e2 e3 => b2 (h + a) (h + a') (by omega) (by omega) e3
  -- (0, x) with A x = 0
  have kx : ∀ x : Nat → Int, rw_ker n h A x → rw_in w n (rw_fr h A) (fun k => if k < h then 0 else x (k - h)) := fun x hx => ⟨x, fun k hk => by
    show (if k < h then 0 else x (k - h)) = rw_S n (fun j => x j * rw_fr h A j k)
    rw [rw_S_fr]
    by_cases hk1 : k < h
    · rw [if_pos hk1, if_pos hk1]; exact (hx k hk1).symm
    · rw [if_neg hk1, if_neg hk1, if_pos (by omega)]⟩
  have s1 : ∀ i, i < m → rw_in n n (fun a c => U (h + a) (h + c)) (V i) := fun i hi => by
    obtain ⟨X, hX'⟩ := (b3 _).mpr (kx (V i) (Hb.2.1 i hi))
    have hX : ∀ k, k < w → (if k < h then 0 else V i (k - h)) = rw_S w (fun j => X j * U j k) := hX'
    have zz : ∀ a, a < h → ∀ c, c < w → X a * U a c = 0 := by
      intro a
      induction a using Nat.strongRecOn with
      | ind a ih =>
        intro ha' c hc
        have e := hX a (by omega)
        rw [if_pos ha', rw_S_one (i := a) (by omega) (fun j hj hne => by
          rcases Nat.lt_or_ge j a with hlt | hge
          · exact ih j hlt (by omega) a (by omega)
          · rw [(b1 j hj).1 a (by omega), Int.mul_zero])] at e
        rcases Int.mul_eq_zero.mp e.symm with e | e
        · rw [e, Int.zero_mul]
        · rw [(b1 a (by omega)).2.2 e c hc, Int.mul_zero]
    refine ⟨fun a => X (h + a), fun c hc => ?_⟩
    have e := hX (h + c) (by omega)
    rw [if_neg (by omega), Nat.add_sub_cancel_left, hw, rw_S_split, rw_S_zero (n := h) (fun a ha' => zz a ha' (h + c) (by omega)), Int.zero_add] at e
    exact e
  have s2 : ∀ a, a < n → rw_in n m V (fun c => U (h + a) (h + c)) := fun a ha' => by
    obtain ⟨y, hy⟩ := (b3 (U (h + a))).mp (rw_in_row U (by omega))
    have ye : ∀ c, c < n → U (h + a) (h + c) = y c := fun c hc => by rw [hy (h + c) (by omega), rw_S_fr, if_neg (by omega), if_pos (by omega), Nat.add_sub_cancel_left]
    refine Hb.2.2.1 _ fun q hq => ?_
    have e := hy q (by omega)
    rw [(b1 (h + a) (by omega)).1 q (by omega), rw_S_fr, if_pos hq] at e
    show rw_S n (fun c => A q c * U (h + a) (h + c)) = 0
    rw [e]
    exact rw_S_congr fun c hc => by rw [ye c hc]
  exact rw_tri_HNF tri' trd' Hl s1 s2
end BL
