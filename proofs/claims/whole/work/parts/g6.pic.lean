/-! a table of longs is the picture of a table of whole numbers, mod 2 ^ 64 -/
def rf_pic (m n : Nat) (u : Nat → Int64) (V : Nat → Nat → Int) : Prop := ∀ i c, i < m → c < n → u (6 * i + c) = Int64.ofInt (V i c)
section PI
variable {m n i j : Nat} {u : Nat → Int64} {V : Nat → Nat → Int}
theorem rf_pic_lose (hn : n ≤ 6) (h : rf_pic m n u V) (hj : j < m) (q : Int) : rf_pic m n (rf_lose n i j (Int64.ofInt q) u) (fun a c => if a = i then V a c - q * V j c else V a c) := by
  intro a c ha hc
  unfold rf_lose
  have e1 : (6 * a + c) / 6 = a := by omega
  have e2 : (6 * a + c) % 6 = c := by omega
  rw [e1, e2]
  by_cases e : a = i
  · rw [if_pos ⟨e, hc⟩]
    simp only [if_pos e]
    rw [h a c ha hc, h j c hj hc, Int64.ofInt_sub, Int64.ofInt_mul]
  · rw [if_neg (fun z => e z.1)]
    simp only [if_neg e]
    exact h a c ha hc
theorem rf_pic_exch (hn : n ≤ 6) (h : rf_pic m n u V) (hi : i < m) (hj : j < m) : rf_pic m n (rf_exch n i j u) (fun a c => if a = i then V j c else if a = j then V i c else V a c) := by
  intro a c ha hc
  unfold rf_exch
  have e1 : (6 * a + c) / 6 = a := by omega
  have e2 : (6 * a + c) % 6 = c := by omega
  rw [e1, e2, if_pos hc]
  by_cases e : a = i
  · simp only [if_pos e]; exact h j c hj hc
  · simp only [if_neg e]
    by_cases e3 : a = j
    · simp only [if_pos e3]; exact h i c hi hc
    · simp only [if_neg e3]; exact h a c ha hc
theorem rf_pic_turn (hn : n ≤ 6) (h : rf_pic m n u V) : rf_pic m n (rf_turn n i u) (fun a c => if a = i then - V a c else V a c) := by
  intro a c ha hc
  unfold rf_turn
  have e1 : (6 * a + c) / 6 = a := by omega
  have e2 : (6 * a + c) % 6 = c := by omega
  rw [e1, e2]
  by_cases e : a = i
  · rw [if_pos ⟨e, hc⟩]
    simp only [if_pos e]
    rw [h a c ha hc, Int64.ofInt_neg]
  · rw [if_neg (fun z => e z.1)]
    simp only [if_neg e]
    exact h a c ha hc
/-- the rows behind row d, one after the other -/
theorem rf_ga5 {d c : Nat} {x : Int32} (hm : m ≤ 6) (hc : c < n) (hn : n ≤ 6) (hd : d < m) (h : rf_pic m n u V) (hr : ∀ i, i < m → (V i c).natAbs ≤ 4611686018427387903) (h0 : V d c ≠ 0) : ∀ t, d + 1 + t ≤ m →
    ∃ u', sm_tot (fn_MO_gather (nI d) (nI c) (nI n) (nI m)) (145, 0, 0, x, nI (d + 1), 0, 0, 0, u) = sm_tot (fn_MO_gather (nI d) (nI c) (nI n) (nI m)) (145, 0, 0, x, nI (d + 1 + t), 0, 0, 0, u')
      ∧ rf_pic m n u' (fun a c' => if d < a ∧ a < d + 1 + t then V a c' - (V a c).tdiv (V d c) * V d c' else V a c') := by
  intro t
  induction t with
  | zero => intro _; exact ⟨u, rfl, fun a c' ha hc' => by rw [h a c' ha hc']; show _ = Int64.ofInt (if d < a ∧ a < d + 1 + 0 then V a c' - (V a c).tdiv (V d c) * V d c' else V a c'); rw [if_neg (by omega)]⟩
  | succ t ih =>
    intro ht
    obtain ⟨u1, e1, p1⟩ := ih (by omega)
    have p2 : ∀ a c', a < m → c' < n → u1 (6 * a + c') = Int64.ofInt (if d < a ∧ a < d + 1 + t then V a c' - (V a c).tdiv (V d c) * V d c' else V a c') := p1
    have pd : u1 (6 * d + c) = Int64.ofInt (V d c) := by rw [p2 d c hd hc, if_neg (by omega)]
    have pi : u1 (6 * (d + 1 + t) + c) = Int64.ofInt (V (d + 1 + t) c) := by rw [p2 (d + 1 + t) c (by omega) hc, if_neg (by omega)]
    have q : u1 (6 * (d + 1 + t) + c) / u1 (6 * d + c) = Int64.ofInt ((V (d + 1 + t) c).tdiv (V d c)) := by rw [pd, pi, rg_div (hr _ (by omega)) (hr d hd)]
    refine ⟨_, e1.trans (rf_ga2 hm hc hn (show d + 1 + t < m by omega) (by rw [pd]; exact fun z => h0 ((rg_zero (hr d hd)).mp z))), ?_⟩
    rw [q]
    intro a c' ha hc'
    rw [rf_pic_lose hn p1 hd _ a c' ha hc']
    show Int64.ofInt (if a = d + 1 + t then (if d < a ∧ a < d + 1 + t then V a c' - (V a c).tdiv (V d c) * V d c' else V a c') - (V (d + 1 + t) c).tdiv (V d c) * (if d < d ∧ d < d + 1 + t then V d c' - (V d c).tdiv (V d c) * V d c' else V d c') else (if d < a ∧ a < d + 1 + t then V a c' - (V a c).tdiv (V d c) * V d c' else V a c')) = Int64.ofInt (if d < a ∧ a < d + 1 + (t + 1) then V a c' - (V a c).tdiv (V d c) * V d c' else V a c')
    congr 1
    by_cases e : a = d + 1 + t
    · subst e
      rw [if_pos rfl, if_neg (by omega), if_neg (by omega), if_pos (by omega)]
    · rw [if_neg e]
      by_cases e2 : d < a ∧ a < d + 1 + t
      · rw [if_pos e2, if_pos (by omega)]
      · rw [if_neg e2, if_neg (by omega)]
end PI
