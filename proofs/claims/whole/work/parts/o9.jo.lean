/-! class and reference build the same rows -/
def ps_ac : List (Int × Nat × Int) → Nat → Bool → Prop
  | [], s, r => ps_ov s = true ∧ r = true
  | x :: X, s, r => match ps_nx s r x.1 with
    | none => False
    | some q => ps_ac X q.1 q.2
/-- a word as it may be in a system -/
def ps_tk (x : Int × Nat × Int) : Prop := 1 ≤ x.1 ∧ x.1 ≤ 9 ∧ (x.1 = 1 → 0 ≤ x.2.2 ∧ x.2.2 ≤ 9999) ∧ (x.1 = 2 → 97 ≤ x.2.2 ∧ x.2.2 ≤ 122)
/-- what is built so far: class's and reference's cells -/
def bj_inv (R nv : Nat) (lt : Nat → Int) (A : Nat → Nat → Int) (B sgn : Nat → Int) (N : Nat) (pend : Int) (ca : Nat → Nat → Int32) (cb cl c1 c2 dl dn ds : Nat → Int32) : Prop :=
  nv + bj_c sgn R ≤ 6 ∧
  (∀ c, c < nv → cl c = iI (lt c) ∧ dl c = iI (lt c) ∧ 97 ≤ lt c ∧ lt c ≤ 122) ∧
  (∀ c c', c < nv → c' < nv → lt c = lt c' → c = c') ∧
  (∀ r c, r < 4 → c < 6 → ca r c = iI (A r c) ∧ dn (7 * r + c) = iI (A r c)) ∧
  (∀ r, r < 4 → cb r = iI (B r) ∧ dn (7 * r + 6) = iI (B r - if r = R then pend else 0)) ∧
  (∀ r, r < R → (sgn r ≠ 0 → c1 (bj_c sgn r) = iI r ∧ c2 (bj_c sgn r) = iI (sgn r)) ∧ ds r = iI (sgn r) ∧ -1 ≤ sgn r ∧ sgn r ≤ 1) ∧
  (∀ r c, nv ≤ c → A r c = 0) ∧
  (∀ r, R < r → (∀ c, A r c = 0) ∧ B r = 0) ∧
  (∀ r c, (A r c).natAbs ≤ 10000 * N) ∧ (∀ r, (B r).natAbs ≤ 10000 * N) ∧
  (∀ r, r < R → (∀ c, (A r c).natAbs ≤ 20) ∧ (B r).natAbs ≤ 200)
/-- what comes out: a fault that both tell, or the same system -/
def bj_out (oc : Int32 × BuS) (orf : Int32 × Int32 × Int32 × Int32 × Int32 × (Nat → Int32) × (Nat → Int32) × (Nat → Int32)) : Prop :=
  (∃ (fc : Int) (pl : Nat), (fc = 2 ∨ fc = 3) ∧ pl ≤ 300 ∧ oc.1 = iI fc ∧ oc.2.2.2.2.2.2.2.1 = iI pl ∧ orf.1 = iI fc ∧ orf.2.1 = iI pl) ∨
  (∃ (R nv : Nat) (lt : Nat → Int) (A : Nat → Nat → Int) (B sgn : Nat → Int) (ca ca' : Nat → Nat → Int32) (cb cl c1 c2 dl dn ds : Nat → Int32) (N : Nat) (x1 x2 x3 x4 x5 x6 : Int32) (wr : Int32), 1 ≤ R ∧ R ≤ 4 ∧ bj_inv R nv lt A B sgn N 0 ca cb cl c1 c2 dl dn ds ∧
    oc = (0, x1, x2, x3, x4, x5, x6, -1, iI R, iI nv, iI (bj_c sgn R), ca', cb, cl, c1, c2) ∧ orf = (0, wr, iI nv, iI (bj_c sgn R), iI R, dl, dn, ds) ∧
    ∀ r c, ca' r c = if r < R ∧ sgn r ≠ 0 ∧ c = nv + bj_c sgn r then iI (sgn r) else ca r c)
section BJI
variable {R nv : Nat} {lt : Nat → Int} {A : Nat → Nat → Int} {B sgn : Nat → Int} {N : Nat} {pend : Int} {ca : Nat → Nat → Int32} {cb cl c1 c2 dl dn ds : Nat → Int32}
theorem bj_place (hR : R ≤ 4) (h : bj_inv R nv lt A B sgn N pend ca cb cl c1 c2 dl dn ds) : ∃ ca', sm_tot (fn_EQ_placeSlacks (iI nv) (iI (bj_c sgn R)) c1 c2) (0, 0, ca) = some ca' ∧ ∀ r c, ca' r c = if r < R ∧ sgn r ≠ 0 ∧ c = nv + bj_c sgn r then iI (sgn r) else ca r c :=
  eq_place hR h.1 (fun r hr hs => (h.2.2.2.2.2.1 r hr).1 hs) ca
/-- the open number is put to the right side -/
theorem bj_eb (hR : R < 4) (h : bj_inv R nv lt A B sgn N pend ca cb cl c1 c2 dl dn ds) {sd sg op : Int} (hsd : sd = 1 ∨ sd = -1) (hsg : sg = 1 ∨ sg = -1) (hop : -1 ≤ op ∧ op ≤ 9999) (hp : pend = if op = -1 then 0 else sd * sg * op) :
    bj_inv R nv lt A (fun r => if r = R then B r - pend else B r) sgn (N + 1) 0 ca (bu_eb R sd sg op cb) cl c1 c2 dl dn ds := by
  obtain ⟨i1, i2, i3, i4, i5, i6, i7, i8, i9, i10, i11⟩ := h
  have hpa : pend.natAbs ≤ 10000 := by
    rw [hp]
    rcases hsd with rfl | rfl <;> rcases hsg with rfl | rfl <;> split <;> omega
  refine ⟨i1, i2, i3, i4, fun r hr => ?_, i6, i7, fun r hr => ?_, fun r c => Nat.le_trans (i9 r c) (by omega), fun r => ?_, fun r hr => ?_⟩
  · obtain ⟨b1, b2⟩ := i5 r hr
    unfold bu_eb
    by_cases q : r = R
    · subst q
      dsimp only
      rw [if_pos rfl, if_pos rfl]
      rw [if_pos rfl] at b2
      refine ⟨?_, ?_⟩
      · by_cases q2 : op = -1
        · rw [if_pos q2] at hp ⊢
          rw [hp, Int.sub_zero]
          exact b1
        · rw [if_neg q2] at hp ⊢
          show (if r = r then cb r - iI (sd * sg * op) else cb r) = _
          rw [if_pos rfl, b1, hp, ii_sub]
      · rw [b2, Int.sub_zero]
    · dsimp only
      rw [if_neg q, if_neg q]
      rw [if_neg q] at b2
      refine ⟨?_, b2⟩
      by_cases q2 : op = -1
      · rw [if_pos q2]
        exact b1
      · rw [if_neg q2]
        exact (if_neg q).trans b1
  · dsimp only
    rw [if_neg (show ¬ r = R by omega)]
    exact i8 r hr
  · have := i10 r
    show (if r = R then B r - pend else B r).natAbs ≤ _
    split <;> omega
  · dsimp only
    rw [if_neg (show ¬ r = R by omega)]
    exact i11 r hr
theorem bj_eb_b (hR : R < 4) (h : bj_inv R nv lt A B sgn N pend ca cb cl c1 c2 dl dn ds) {sd sg op : Int} (hp : pend = if op = -1 then 0 else sd * sg * op) : bu_eb R sd sg op cb R = iI (B R - pend) := by
  obtain ⟨b1, _⟩ := h.2.2.2.2.1 R hR
  unfold bu_eb
  by_cases q2 : op = -1
  · rw [if_pos q2] at hp ⊢
    rw [hp, Int.sub_zero]
    exact b1
  · rw [if_neg q2] at hp ⊢
    show (if R = R then cb R - iI (sd * sg * op) else cb R) = _
    rw [if_pos rfl, b1, hp, ii_sub]
/-- an alone number is taken by the reference at once -/
theorem bj_num (hR : R < 4) (h : bj_inv R nv lt A B sgn N 0 ca cb cl c1 c2 dl dn ds) {p : Int} : bj_inv R nv lt A B sgn (N + 1) p ca cb cl c1 c2 dl (upd dn (7 * R + 6) (dn (7 * R + 6) - iI p)) ds := by
  obtain ⟨i1, i2, i3, i4, i5, i6, i7, i8, i9, i10, i11⟩ := h
  refine ⟨i1, i2, i3, fun r c hr hc => ⟨(i4 r c hr hc).1, (if_neg (by omega)).trans (i4 r c hr hc).2⟩, fun r hr => ⟨(i5 r hr).1, ?_⟩, i6, i7, i8, fun r c => Nat.le_trans (i9 r c) (by omega), fun r => Nat.le_trans (i10 r) (by omega), i11⟩
  have b2 := (i5 r hr).2
  show (if 7 * r + 6 = 7 * R + 6 then dn (7 * R + 6) - iI p else dn (7 * r + 6)) = _
  by_cases q : r = R
  · subst q
    rw [if_pos rfl, b2, if_pos rfl, if_pos rfl, ii_sub, Int.sub_zero]
  · rw [if_neg (by omega), b2, if_neg q, if_neg q]
theorem bj_mono (h : bj_inv R nv lt A B sgn N pend ca cb cl c1 c2 dl dn ds) {M : Nat} (hM : N ≤ M) : bj_inv R nv lt A B sgn M pend ca cb cl c1 c2 dl dn ds := by
  obtain ⟨i1, i2, i3, i4, i5, i6, i7, i8, i9, i10, i11⟩ := h
  exact ⟨i1, i2, i3, i4, i5, i6, i7, i8, fun r c => Nat.le_trans (i9 r c) (by omega), fun r => Nat.le_trans (i10 r) (by omega), i11⟩
/-- a number is put into a column -/
theorem bj_var (hR : R < 4) (h : bj_inv R nv lt A B sgn N pend ca cb cl c1 c2 dl dn ds) {k : Nat} (hk : k < nv) {p : Int} (hp : p.natAbs ≤ 10000) :
    bj_inv R nv lt (fun r c => if r = R ∧ c = k then A r c + p else A r c) B sgn (N + 1) pend (up2 ca R (upd (ca R) k (ca R k + iI p))) cb cl c1 c2 dl (upd dn (7 * R + k) (dn (7 * R + k) + iI p)) ds := by
  obtain ⟨i1, i2, i3, i4, i5, i6, i7, i8, i9, i10, i11⟩ := h
  refine ⟨i1, i2, i3, fun r c hr hc => ?_, fun r hr => ⟨(i5 r hr).1, (if_neg (by omega)).trans (i5 r hr).2⟩, i6, fun r c hc => ?_, fun r hr => ⟨fun c => ?_, (i8 r hr).2⟩, fun r c => ?_, fun r => Nat.le_trans (i10 r) (by omega), fun r hr => ⟨fun c => ?_, (i11 r hr).2⟩⟩
  · obtain ⟨a1, a2⟩ := i4 r c hr hc
    obtain ⟨a3, a4⟩ := i4 R k hR (by omega)
    by_cases q : r = R
    · subst q
      rw [up2_eq]
      show (if c = k then ca r k + iI p else ca r c) = iI (if r = r ∧ c = k then A r c + p else A r c) ∧ (if 7 * r + c = 7 * r + k then dn (7 * r + k) + iI p else dn (7 * r + c)) = iI (if r = r ∧ c = k then A r c + p else A r c)
      by_cases q2 : c = k
      · subst q2
        rw [if_pos rfl, if_pos rfl, if_pos ⟨rfl, rfl⟩, a1, a2, ii_add]
        exact ⟨rfl, rfl⟩
      · rw [if_neg q2, if_neg (show ¬ 7 * r + c = 7 * r + k by omega), if_neg (show ¬ (r = r ∧ c = k) from fun x => q2 x.2)]
        exact ⟨a1, a2⟩
    · rw [up2_ne _ _ q]
      show ca r c = iI (if r = R ∧ c = k then A r c + p else A r c) ∧ (if 7 * r + c = 7 * R + k then dn (7 * R + k) + iI p else dn (7 * r + c)) = iI (if r = R ∧ c = k then A r c + p else A r c)
      rw [if_neg (fun x => q x.1), if_neg (by omega)]
      exact ⟨a1, a2⟩
  · show (if r = R ∧ c = k then A r c + p else A r c) = 0
    rw [if_neg (fun x => by omega)]
    exact i7 r c hc
  · show (if r = R ∧ c = k then A r c + p else A r c) = 0
    rw [if_neg (fun x => by omega)]
    exact (i8 r hr).1 c
  · have := i9 r c
    show (if r = R ∧ c = k then A r c + p else A r c).natAbs ≤ _
    split <;> omega
  · show (if r = R ∧ c = k then A r c + p else A r c).natAbs ≤ _
    rw [if_neg (fun x => by omega)]
    exact (i11 r hr).1 c
/-- a letter gets a column -/
theorem bj_new (h : bj_inv R nv lt A B sgn N pend ca cb cl c1 c2 dl dn ds) (hn : nv + bj_c sgn R < 6) {v : Int} (hv : 97 ≤ v ∧ v ≤ 122) (hno : ∀ c, c < nv → lt c ≠ v) :
    bj_inv R (nv + 1) (fun c => if c = nv then v else lt c) A B sgn N pend ca cb (upd cl nv (iI v)) c1 c2 (upd dl nv (iI v)) dn ds := by
  obtain ⟨i1, i2, i3, i4, i5, i6, i7, i8, i9, i10, i11⟩ := h
  refine ⟨by omega, fun c hc => ?_, fun c c' hc hc' => ?_, i4, i5, i6, fun r c hc => i7 r c (by omega), i8, i9, i10, i11⟩
  · show (if c = nv then iI v else cl c) = iI (if c = nv then v else lt c) ∧ (if c = nv then iI v else dl c) = iI (if c = nv then v else lt c) ∧ 97 ≤ (if c = nv then v else lt c) ∧ (if c = nv then v else lt c) ≤ 122
    by_cases q : c = nv
    · rw [if_pos q, if_pos q, if_pos q]
      exact ⟨rfl, rfl, hv.1, hv.2⟩
    · rw [if_neg q, if_neg q, if_neg q]
      exact i2 c (by omega)
  · show (if c = nv then v else lt c) = (if c' = nv then v else lt c') → c = c'
    by_cases q : c = nv
    · rw [if_pos q]
      by_cases q' : c' = nv
      · intro _; omega
      · rw [if_neg q']
        intro e
        exact absurd e.symm (hno c' (by omega))
    · rw [if_neg q]
      by_cases q' : c' = nv
      · rw [if_pos q']
        intro e
        exact absurd e (hno c (by omega))
      · rw [if_neg q']
        exact i3 c c' (by omega) (by omega)
/-- the slack of a row is put down -/
theorem bj_row6 (hR : R < 4) (h : bj_inv R nv lt A B sgn N pend ca cb cl c1 c2 dl dn ds) {rl : Int} (hrl : rl = 7 ∨ rl = 8 ∨ rl = 9) (hn : rl = 7 ∨ nv + bj_c sgn R < 6) :
    bj_c (fun r => if r = R then (if rl = 7 then 0 else if rl = 8 then 1 else -1) else sgn r) (R + 1) = (if rl = 7 then bj_c sgn R else bj_c sgn R + 1) ∧
    nv + bj_c (fun r => if r = R then (if rl = 7 then 0 else if rl = 8 then 1 else -1) else sgn r) (R + 1) ≤ 6 ∧
    ∀ r, r < R + 1 → ((if r = R then (if rl = 7 then 0 else if rl = 8 then 1 else -1) else sgn r) ≠ 0 → (if rl = 7 then c1 else upd c1 (bj_c sgn R) (iI R)) (bj_c (fun r => if r = R then (if rl = 7 then 0 else if rl = 8 then 1 else -1) else sgn r) r) = iI r ∧ (if rl = 7 then c2 else upd c2 (bj_c sgn R) (iI (if rl = 8 then 1 else -1))) (bj_c (fun r => if r = R then (if rl = 7 then 0 else if rl = 8 then 1 else -1) else sgn r) r) = iI (if r = R then (if rl = 7 then 0 else if rl = 8 then 1 else -1) else sgn r)) ∧ (upd ds R (iI (if rl = 7 then 0 else if rl = 8 then 1 else -1))) r = iI (if r = R then (if rl = 7 then 0 else if rl = 8 then 1 else -1) else sgn r) ∧ -1 ≤ (if r = R then (if rl = 7 then 0 else if rl = 8 then 1 else -1) else sgn r) ∧ (if r = R then (if rl = 7 then 0 else if rl = 8 then 1 else -1) else sgn r) ≤ 1 := by
  obtain ⟨i1, i2, i3, i4, i5, i6, i7, i8, i9, i10, i11⟩ := h
  have hc : bj_c (fun r => if r = R then (if rl = 7 then 0 else if rl = 8 then 1 else -1) else sgn r) (R + 1) = if rl = 7 then bj_c sgn R else bj_c sgn R + 1 := by
    rw [bj_c_s, bj_c_upd R (Nat.le_refl _), if_pos rfl]
    rcases hrl with rfl | rfl | rfl
    · rfl
    · rfl
    · rfl
  refine ⟨hc, ?_, fun r hr => ?_⟩
  · rw [hc]
    split <;> omega
  · by_cases q : r = R
    · subst q
      rw [bj_c_upd r (Nat.le_refl _), if_pos rfl]
      refine ⟨fun hs => ?_, if_pos rfl, ?_, ?_⟩
      · have h7 : ¬ rl = 7 := fun e => hs (by rw [if_pos e])
        rw [if_neg h7, if_neg h7, if_neg h7]
        exact ⟨if_pos rfl, if_pos rfl⟩
      · rcases hrl with rfl | rfl | rfl <;> decide
      · rcases hrl with rfl | rfl | rfl <;> decide
    · obtain ⟨j1, j2, j3, j4⟩ := i6 r (by omega)
      rw [bj_c_upd r (by omega), if_neg q]
      refine ⟨fun hs => ?_, (if_neg q).trans j2, j3, j4⟩
      have hlt := bj_c_lt (sgn := sgn) (show r < R by omega) hs
      obtain ⟨k1, k2⟩ := j1 hs
      by_cases h7 : rl = 7
      · rw [if_pos h7, if_pos h7]
        exact ⟨k1, k2⟩
      · rw [if_neg h7, if_neg h7]
        exact ⟨(if_neg (by omega)).trans k1, (if_neg (by omega)).trans k2⟩
theorem bj_rowp (hR : R < 4) (h : bj_inv R nv lt A B sgn N pend ca cb cl c1 c2 dl dn ds) {rl : Int} (hrl : rl = 7 ∨ rl = 8 ∨ rl = 9) (hn : rl = 7 ∨ nv + bj_c sgn R < 6) : ∃ ca', sm_tot (fn_EQ_placeSlacks (iI nv) (iI ((if rl = 7 then bj_c sgn R else bj_c sgn R + 1 : Nat) : Int)) (if rl = 7 then c1 else upd c1 (bj_c sgn R) (iI R)) (if rl = 7 then c2 else upd c2 (bj_c sgn R) (iI (if rl = 8 then 1 else -1)))) (0, 0, ca) = some ca' := by
  obtain ⟨a1, a2, a3⟩ := bj_row6 hR h hrl hn
  obtain ⟨ca', e1, _⟩ := eq_place (R := R + 1) (by omega) a2 (fun r hr hs => (a3 r hr).1 hs) ca
  rw [a1] at e1
  exact ⟨ca', e1⟩
/-- a row ends well -/
theorem bj_row (hR : R < 4) (h : bj_inv R nv lt A B sgn N 0 ca cb cl c1 c2 dl dn ds) {rl : Int} (hrl : rl = 7 ∨ rl = 8 ∨ rl = 9) (hn : rl = 7 ∨ nv + bj_c sgn R < 6) (hlg : bj_lg nv (A R) (B R) = false) :
    bj_inv (R + 1) nv lt A B (fun r => if r = R then (if rl = 7 then 0 else if rl = 8 then 1 else -1) else sgn r) N 0 ca cb cl (if rl = 7 then c1 else upd c1 (bj_c sgn R) (iI R)) (if rl = 7 then c2 else upd c2 (bj_c sgn R) (iI (if rl = 8 then 1 else -1))) dl dn (upd ds R (iI (if rl = 7 then 0 else if rl = 8 then 1 else -1))) := by
  obtain ⟨a1, a2, a3⟩ := bj_row6 hR h hrl hn
  obtain ⟨i1, i2, i3, i4, i5, i6, i7, i8, i9, i10, i11⟩ := h
  obtain ⟨l1, l2⟩ := bj_lg_f hlg
  refine ⟨a2, i2, i3, i4, fun r hr => ⟨(i5 r hr).1, ?_⟩, a3, i7, fun r hr => i8 r (by omega), i9, i10, fun r hr => ?_⟩
  · have := (i5 r hr).2
    rw [ite_self] at this ⊢
    exact this
  · by_cases q : r = R
    · subst q
      refine ⟨fun c => ?_, l2⟩
      rcases Nat.lt_or_ge c nv with h1 | h1
      · exact l1 c h1
      · rw [i7 r c h1]; decide
    · exact i11 r (by omega)
end BJI
