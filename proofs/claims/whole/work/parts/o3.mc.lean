/-! the reference's words -/
section MCW
variable {L : Nat} {t : Nat → Int} {ct : Nat → Int32}
theorem mo_letter0 (h : tx_ok L t ct) {i : Nat} (hi : i ≤ 1000) : sm_tot (fn_MO_letter0 (iI i) (iI L) ct) (0, 0) = some (iI (ps_ch L t i)) := by
  have hL := h.1
  have e18 : ∀ s, sm_tot (fn_MO_letter0 (iI i) (iI L) ct) (18, s) = some s := fun s => by rw [sm_tot_u, fn_MO_letter0_q18]; rfl
  rw [sm_tot_u, fn_MO_letter0_q0]
  unfold fn_MO_letter0_b0
  by_cases e : i < L
  · have i2 : ((i : Int)).toNat = i := by omega
    have h1 := (h.2 i e).1
    rw [ps_ch_in e]
    simp (disch := omega) only [il_0, ii_lt, ii_le, ii_nat, i2, h1, if_pos, if_neg, sm_ev_l, e18]
  · rw [ps_ch_out (by omega)]
    simp (disch := omega) only [il_0, ii_le, if_pos, sm_ev_l, e18]
theorem mo_word {k p v : Int32} {n : Nat} (hn : n < 301) {ku pu vu : Nat → Int32} : sm_tot (fn_MO_word k p v) (0, iI n, ku, pu, vu) = some (iI ((n + 1 : Nat) : Int), upd ku n k, upd pu n p, upd vu n v) := by
  have i2 : ((n : Int)).toNat = n := by omega
  have g1 : ¬ (iI (n : Int) < 0 ∨ 301 ≤ (iI (n : Int)).toNatClampNeg) := by rw [il_0, ii_lt (by omega) (by omega) (by omega) (by omega), ii_nat (by omega) (by omega)]; omega
  rw [sm_tot_u, fn_MO_word_q0]
  unfold fn_MO_word_b0
  rw [if_pos g1, if_pos g1, if_pos g1, ii_nat (by omega) (by omega), i2, sm_ev_r, il_1, ii_add]
  rfl
/-- the words as they are cut: up to the end, or to a wrong one -/
def ps_lx (L : Nat) (t : Nat → Int) : Nat → Nat → List (Int × Nat × Int)
  | 0, _ => [(0, L, 0)]
  | f + 1, i => if L ≤ i then [(0, L, 0)] else if ps_ch L t i = 32 then ps_lx L t f (i + 1) else if ps_k L t i = 10 then [(10, i, 0)] else (ps_k L t i, i, ps_vl L t i) :: ps_lx L t f (i + ps_w L t i)
def mo_wpic (n : Nat) (X : List (Int × Nat × Int)) (ku pu vu : Nat → Int32) : Prop := ∀ j, j < X.length → ku (n + j) = iI (X.getD j ps_z).1 ∧ pu (n + j) = iI ((X.getD j ps_z).2.1 : Int) ∧ ((X.getD j ps_z).1 = 1 ∨ (X.getD j ps_z).1 = 2 → vu (n + j) = iI (X.getD j ps_z).2.2)
section MCT
variable {W : Int32} {ku pu vu : Nat → Int32} {i : Nat}
theorem mo_cut_run (h : tx_ok L t ct) {c : Int32} : ∀ f j (a : Int32), j + f = L → i ≤ j → ∃ a', sm_tot (fn_MO_cut (iI L) ct) (55, iI i, 1, c, iI j, a, 0, 0, W, ku, pu, vu) = sm_tot (fn_MO_cut (iI L) ct) (113, iI i, 1, c, iI (ps_e L t f j : Nat), a', 0, 0, W, ku, pu, vu) ∧ (ps_e L t f j ≤ i + 4 → ∀ z : Int, a = iI z → a' = iI (ps_v t (ps_e L t f j - j) j z)) := by
  have hL := h.1
  have hst : ∀ j (a : Int32), j ≤ 1000 → ps_dg (ps_ch L t j) = false → sm_tot (fn_MO_cut (iI L) ct) (55, iI i, 1, c, iI j, a, 0, 0, W, ku, pu, vu) = sm_tot (fn_MO_cut (iI L) ct) (113, iI i, 1, c, iI j, a, 0, 0, W, ku, pu, vu) := fun j a hj hd => by
    have hr := ps_ch_r h j
    have hx := ps_dg_nf hd
    rw [sm_tot_u, fn_MO_cut_q55]
    unfold fn_MO_cut_b55
    rw [mo_letter0 h hj, Option.bind_some, Option.bind_some, il_48, il_57, ie_lt (by omega) (by omega) (by omega) (by omega), ie_lt (by omega) (by omega) (by omega) (by omega)]
    by_cases q : ps_ch L t j < 48
    · rw [if_pos q, sm_ev_l]
    · rw [if_neg q, if_pos (by omega), sm_ev_l]
  intro f
  induction f with
  | zero =>
    intro j a hj hij
    refine ⟨a, hst j a (by omega) (ps_dg_f (by rw [ps_ch_out (by omega)]; omega)), fun _ z hz => ?_⟩
    rw [show ps_e L t 0 j = j from rfl, Nat.sub_self]
    exact hz
  | succ f ih =>
    intro j a hj hij
    cases e : ps_dg (ps_ch L t j) with
    | false =>
      have he : ps_e L t (f + 1) j = j := by
        show (if _ then _ else _) = _
        rw [if_neg (by rw [e]; decide)]
      rw [he]
      refine ⟨a, hst j a (by omega) e, fun _ z hz => ?_⟩
      rw [Nat.sub_self]
      exact hz
    | true =>
      have he : ps_e L t (f + 1) j = ps_e L t f (j + 1) := if_pos e
      have hx := ps_dg_iff.mp e
      have hr := ps_ch_r h j
      have hge := ps_e_ge (L := L) (t := t) f (j + 1)
      have e105 : ∀ v x, sm_tot (fn_MO_cut (iI L) ct) (105, iI i, 1, c, iI j, x, 0, v, W, ku, pu, vu) = sm_tot (fn_MO_cut (iI L) ct) (55, iI i, 1, c, iI ((j + 1 : Nat) : Int), v, 0, 0, W, ku, pu, vu) := fun v x => by
        rw [sm_tot_u, fn_MO_cut_q105]
        unfold fn_MO_cut_b105
        rw [sm_ev_l, il_1, ii_add]
        rfl
      have e0 : sm_tot (fn_MO_cut (iI L) ct) (55, iI i, 1, c, iI j, a, 0, 0, W, ku, pu, vu) = sm_tot (fn_MO_cut (iI L) ct) (55, iI i, 1, c, iI ((j + 1 : Nat) : Int), if 5 ≤ j - i then a else 10 * a + iI (ps_ch L t j) - 48, 0, 0, W, ku, pu, vu) := by
        rw [sm_tot_u, fn_MO_cut_q55]
        unfold fn_MO_cut_b55
        rw [mo_letter0 h (show j ≤ 1000 by omega), Option.bind_some, Option.bind_some, Option.bind_some, il_48, il_57, il_5, ii_sub, ie_lt (by omega) (by omega) (by omega) (by omega), ie_lt (by omega) (by omega) (by omega) (by omega), ie_le (by omega) (by omega) (by omega) (by omega), if_neg (by omega), if_neg (by omega)]
        by_cases q : 5 ≤ j - i
        · rw [if_pos (by omega), sm_ev_l, e105, if_pos q]
        · rw [if_neg (by omega), sm_ev_l, e105, if_neg q]
      rw [e0, he]
      obtain ⟨a', a1, a2⟩ := ih (j + 1) (if 5 ≤ j - i then a else 10 * a + iI (ps_ch L t j) - 48) (by omega) (by omega)
      refine ⟨a', a1, fun hle z hz => ?_⟩
      rw [a2 hle (10 * z + t j - 48) (by rw [if_neg (by omega), hz, il_10, ii_mul, ii_add, il_48, ii_sub, ps_ch_in (by omega)]), show ps_e L t f (j + 1) - j = (ps_e L t f (j + 1) - (j + 1)) + 1 by omega]
      rfl
/-- one word is looked at -/
theorem mo_cut_tok (h : tx_ok L t ct) (hi : i < L) : ∃ en vv, sm_tot (fn_MO_cut (iI L) ct) (9, iI i, 1, 0, 0, 0, 0, 0, W, ku, pu, vu) = sm_tot (fn_MO_cut (iI L) ct) (261, iI i, 1, iI (ps_ch L t i), en, vv, iI (ps_k L t i), 0, W, ku, pu, vu) ∧ (ps_k L t i ≠ 10 ∨ ps_ch L t i = 32 → en = iI ((i + ps_w L t i : Nat) : Int)) ∧ (ps_k L t i = 1 ∨ ps_k L t i = 2 → vv = iI (ps_vl L t i)) := by
  have hL := h.1
  have hr := ps_ch_r h i
  have hr1 := ps_ch_r h (i + 1)
  have i2 : ((i : Int)).toNat = i := by omega
  have h1 := (h.2 i hi).1
  have g1 : ¬ (iI (i : Int) < 0 ∨ 300 ≤ (iI (i : Int)).toNatClampNeg) := by rw [il_0, ii_lt (by omega) (by omega) (by omega) (by omega), ii_nat (by omega) (by omega)]; omega
  have e0 : sm_tot (fn_MO_cut (iI L) ct) (9, iI i, 1, 0, 0, 0, 0, 0, W, ku, pu, vu) = if ps_dg (ps_ch L t i) = true then sm_tot (fn_MO_cut (iI L) ct) (55, iI i, 1, iI (ps_ch L t i), iI i, 0, 0, 0, W, ku, pu, vu) else sm_tot (fn_MO_cut (iI L) ct) (132, iI i, 1, iI (ps_ch L t i), iI ((i : Int) + 1), 0, 0, 0, W, ku, pu, vu) := by
    rw [sm_tot_u, fn_MO_cut_q9]
    unfold fn_MO_cut_b9
    rw [if_neg (show ¬ ((1 : Int32) = 0) by decide), if_neg (show ¬ iI (L : Int) ≤ iI (i : Int) by rw [ii_le (by omega) (by omega) (by omega) (by omega)]; omega), if_pos g1, ii_nat (by omega) (by omega), i2, h1, ← ps_ch_in (L := L) (t := t) hi, il_48, il_57, ie_lt (by omega) (by omega) (by omega) (by omega), ie_lt (by omega) (by omega) (by omega) (by omega), il_1, ii_add]
    cases e : ps_dg (ps_ch L t i) with
    | true =>
      have hx := ps_dg_iff.mp e
      rw [if_neg (by omega), if_neg (by omega), if_pos rfl, sm_ev_l]
    | false =>
      have hx := ps_dg_nf e
      rw [if_neg (show ¬ (false = true) by decide)]
      by_cases q : ps_ch L t i < 48
      · rw [if_pos q, sm_ev_l]
      · rw [if_neg q, if_pos (by omega), sm_ev_l]
  rw [e0]
  cases e : ps_dg (ps_ch L t i) with
  | true =>
    have hx := ps_dg_iff.mp e
    rw [if_pos rfl]
    obtain ⟨a', a1, a2⟩ := mo_cut_run (W := W) (ku := ku) (pu := pu) (vu := vu) (i := i) h (c := iI (ps_ch L t i)) (L - i) i (iI 0) (by omega) (Nat.le_refl _)
    have hge := ps_e_ge (L := L) (t := t) (L - i) i
    have hle := ps_e_le (L := L) (t := t) (L - i) i
    have hw : ps_w L t i = ps_e L t (L - i) i - i := if_pos e
    have hk : ps_k L t i = if ps_w L t i ≤ 4 then 1 else 10 := if_pos e
    have hvl : ps_vl L t i = ps_v t (ps_w L t i) i 0 := if_pos e
    refine ⟨iI (ps_e L t (L - i) i : Nat), a', ?_, fun _ => ?_, fun hk1 => ?_⟩
    · refine Eq.trans (b := sm_tot (fn_MO_cut (iI L) ct) (113, iI i, 1, iI (ps_ch L t i), iI (ps_e L t (L - i) i : Nat), a', 0, 0, W, ku, pu, vu)) a1 ?_
      have e127 : ∀ s, sm_tot (fn_MO_cut (iI L) ct) (127, iI i, 1, iI (ps_ch L t i), iI (ps_e L t (L - i) i : Nat), a', 0, s, W, ku, pu, vu) = sm_tot (fn_MO_cut (iI L) ct) (261, iI i, 1, iI (ps_ch L t i), iI (ps_e L t (L - i) i : Nat), a', s, 0, W, ku, pu, vu) := fun s => by
        rw [sm_tot_u, fn_MO_cut_q127]
        rfl
      rw [sm_tot_u, fn_MO_cut_q113]
      unfold fn_MO_cut_b113
      rw [il_4, ii_sub, ie_le (by omega) (by omega) (by omega) (by omega), hk]
      by_cases q : ps_w L t i ≤ 4
      · rw [if_pos (by omega), if_pos q, sm_ev_l, e127]
        rfl
      · rw [if_neg (by omega), if_neg q, sm_ev_l, e127]
        rfl
    · rw [show i + ps_w L t i = ps_e L t (L - i) i by omega]
    · have q : ps_w L t i ≤ 4 := by
        rw [hk] at hk1
        split at hk1
        · assumption
        · omega
      rw [a2 (by omega) 0 rfl, hvl, hw]
  | false =>
    have hx := ps_dg_nf e
    rw [if_neg (show ¬ (false = true) by decide)]
    have hk : ps_k L t i = if 97 ≤ ps_ch L t i ∧ ps_ch L t i ≤ 122 then 2 else if ps_ch L t i = 60 then (if ps_w L t i = 2 then 8 else 10) else if ps_ch L t i = 62 then (if ps_w L t i = 2 then 9 else 10) else if ps_ch L t i = 43 then 3 else if ps_ch L t i = 45 then 4 else if ps_ch L t i = 42 then 5 else if ps_ch L t i = 59 then 6 else if ps_ch L t i = 61 then 7 else 10 := if_neg (by rw [e]; decide)
    have hvl : ps_vl L t i = ps_ch L t i := if_neg (by rw [e]; decide)
    have hw : ps_w L t i = if (ps_ch L t i = 60 ∨ ps_ch L t i = 62) ∧ ps_ch L t (i + 1) = 61 then 2 else 1 := if_neg (by rw [e]; decide)
    have e259 : ∀ s v x en, sm_tot (fn_MO_cut (iI L) ct) (259, iI i, 1, iI (ps_ch L t i), en, v, x, s, W, ku, pu, vu) = sm_tot (fn_MO_cut (iI L) ct) (261, iI i, 1, iI (ps_ch L t i), en, v, s, 0, W, ku, pu, vu) := fun s v x en => by
      rw [sm_tot_u, fn_MO_cut_q259]
      rfl
    have e195 : ∀ s v x en, sm_tot (fn_MO_cut (iI L) ct) (195, iI i, 1, iI (ps_ch L t i), en, v, x, s, W, ku, pu, vu) = sm_tot (fn_MO_cut (iI L) ct) (261, iI i, 1, iI (ps_ch L t i), iI ((i : Int) + 2), v, s, 0, W, ku, pu, vu) := fun s v x en => by
      rw [sm_tot_u, fn_MO_cut_q195]
      unfold fn_MO_cut_b195
      rw [sm_ev_l, il_2, ii_add]
    have e165 : ∀ s v x en, sm_tot (fn_MO_cut (iI L) ct) (165, iI i, 1, iI (ps_ch L t i), en, v, x, s, W, ku, pu, vu) = sm_tot (fn_MO_cut (iI L) ct) (261, iI i, 1, iI (ps_ch L t i), iI ((i : Int) + 2), v, iI (if ps_ch L t (i + 1) = 61 then (if ps_ch L t i = 60 then 8 else 9) else 10), 0, W, ku, pu, vu) := fun s v x en => by
      rw [sm_tot_u, fn_MO_cut_q165]
      unfold fn_MO_cut_b165
      rw [ii_s, mo_letter0 h (show i + 1 ≤ 1000 by omega), Option.bind_some, il_61, ie_eq (by omega) (by omega) (by omega) (by omega), il_60, ie_eq (by omega) (by omega) (by omega) (by omega)]
      by_cases q : ps_ch L t (i + 1) = 61
      · rw [if_pos q, if_pos q]
        by_cases q2 : ps_ch L t i = 60
        · rw [if_pos q2, if_pos q2, sm_ev_l, e195]; rfl
        · rw [if_neg q2, if_neg q2, sm_ev_l, e195]; rfl
      · rw [if_neg q, if_neg q, sm_ev_l, e195]; rfl
    by_cases ca : 97 ≤ ps_ch L t i ∧ ps_ch L t i ≤ 122
    · rw [if_pos ca] at hk
      refine ⟨iI ((i : Int) + 1), iI (ps_ch L t i), ?_, fun _ => ?_, fun _ => by rw [hvl]⟩
      · rw [sm_tot_u, fn_MO_cut_q132]
        unfold fn_MO_cut_b132
        rw [il_97, il_122, ie_lt (by omega) (by omega) (by omega) (by omega), ie_lt (by omega) (by omega) (by omega) (by omega), if_neg (by omega), if_neg (by omega), sm_ev_l, hk]
        rfl
      · rw [hw, if_neg (by omega)]; rfl
    · rw [if_neg ca] at hk
      have e132 : sm_tot (fn_MO_cut (iI L) ct) (132, iI i, 1, iI (ps_ch L t i), iI ((i : Int) + 1), 0, 0, 0, W, ku, pu, vu) = sm_tot (fn_MO_cut (iI L) ct) (153, iI i, 1, iI (ps_ch L t i), iI ((i : Int) + 1), 0, 0, 0, W, ku, pu, vu) := by
        rw [sm_tot_u, fn_MO_cut_q132]
        unfold fn_MO_cut_b132
        rw [il_97, il_122, ie_lt (by omega) (by omega) (by omega) (by omega), ie_lt (by omega) (by omega) (by omega) (by omega)]
        by_cases q : ps_ch L t i < 97
        · rw [if_pos q, sm_ev_l]
        · rw [if_neg q, if_pos (by omega), sm_ev_l]
      rw [e132]
      by_cases cb : ps_ch L t i = 60 ∨ ps_ch L t i = 62
      · have hw2 : ps_w L t i = if ps_ch L t (i + 1) = 61 then 2 else 1 := by
          rw [hw]
          by_cases q : ps_ch L t (i + 1) = 61
          · rw [if_pos ⟨cb, q⟩, if_pos q]
          · rw [if_neg (fun x => q x.2), if_neg q]
        have hk2 : ps_k L t i = if ps_ch L t (i + 1) = 61 then (if ps_ch L t i = 60 then 8 else 9) else 10 := by
          rw [hk, hw2]
          by_cases q : ps_ch L t (i + 1) = 61
          · rw [if_pos q, if_pos q, if_pos rfl]
            by_cases q2 : ps_ch L t i = 60
            · rw [if_pos q2, if_pos q2]
            · rw [if_neg q2, if_pos (by omega), if_pos rfl, if_neg q2]
          · rw [if_neg q, if_neg q]
            by_cases q2 : ps_ch L t i = 60
            · rw [if_pos q2, if_neg (by decide)]
            · rw [if_neg q2, if_pos (by omega), if_neg (by decide)]
        refine ⟨iI ((i : Int) + 2), 0, ?_, fun q => ?_, fun q => ?_⟩
        · rw [sm_tot_u, fn_MO_cut_q153]
          unfold fn_MO_cut_b153
          rw [il_60, il_62, ie_eq (by omega) (by omega) (by omega) (by omega), ie_eq (by omega) (by omega) (by omega) (by omega), hk2]
          rcases cb with c | c
          · rw [if_pos c, sm_ev_l, e165]
          · rw [if_neg (show ¬ ps_ch L t i = 60 by omega), if_pos c, sm_ev_l, e165]
        · rw [hw2]
          by_cases q2 : ps_ch L t (i + 1) = 61
          · rw [if_pos q2]; rfl
          · rw [hk2, if_neg q2] at q
            omega
        · rw [hk2] at q
          exfalso
          split at q
          · split at q <;> omega
          · omega
      · have c1 : ¬ ps_ch L t i = 60 := fun q => cb (Or.inl q)
        have c2 : ¬ ps_ch L t i = 62 := fun q => cb (Or.inr q)
        rw [if_neg c1, if_neg c2] at hk
        refine ⟨iI ((i : Int) + 1), 0, ?_, fun _ => by rw [hw, if_neg (fun x => cb x.1)]; rfl, fun q => ?_⟩
        · rw [sm_tot_u, fn_MO_cut_q153]
          unfold fn_MO_cut_b153
          rw [il_60, il_62, il_43, il_45, il_42, il_59, il_61, ie_eq (by omega) (by omega) (by omega) (by omega), ie_eq (by omega) (by omega) (by omega) (by omega), ie_eq (by omega) (by omega) (by omega) (by omega), ie_eq (by omega) (by omega) (by omega) (by omega), ie_eq (by omega) (by omega) (by omega) (by omega), ie_eq (by omega) (by omega) (by omega) (by omega), ie_eq (by omega) (by omega) (by omega) (by omega), if_neg c1, if_neg c2, hk]
          by_cases d1 : ps_ch L t i = 43
          · rw [if_pos d1, if_pos d1, sm_ev_l, e259]; rfl
          by_cases d2 : ps_ch L t i = 45
          · rw [if_neg d1, if_neg d1, if_pos d2, if_pos d2, sm_ev_l, e259]; rfl
          by_cases d3 : ps_ch L t i = 42
          · rw [if_neg d1, if_neg d1, if_neg d2, if_neg d2, if_pos d3, if_pos d3, sm_ev_l, e259]; rfl
          by_cases d4 : ps_ch L t i = 59
          · rw [if_neg d1, if_neg d1, if_neg d2, if_neg d2, if_neg d3, if_neg d3, if_pos d4, if_pos d4, sm_ev_l, e259]; rfl
          by_cases d5 : ps_ch L t i = 61
          · rw [if_neg d1, if_neg d1, if_neg d2, if_neg d2, if_neg d3, if_neg d3, if_neg d4, if_neg d4, if_pos d5, if_pos d5, sm_ev_l, e259]; rfl
          · rw [if_neg d1, if_neg d1, if_neg d2, if_neg d2, if_neg d3, if_neg d3, if_neg d4, if_neg d4, if_neg d5, if_neg d5, sm_ev_l, e259]; rfl
        · rw [hk] at q
          exfalso
          repeat' split at q
          all_goals omega
end MCT
theorem mo_cut_l (h : tx_ok L t ct) : ∀ f i n (ku pu vu : Nat → Int32), L ≤ i + f → i ≤ L → n ≤ i → ∃ ku' pu' vu', sm_tot (fn_MO_cut (iI L) ct) (9, iI i, 1, 0, 0, 0, 0, 0, iI n, ku, pu, vu) = some (iI ((n + (ps_lx L t f i).length : Nat) : Int), ku', pu', vu') ∧ mo_wpic n (ps_lx L t f i) ku' pu' vu' ∧ ∀ j, j < n → ku' j = ku j ∧ pu' j = pu j ∧ vu' j = vu j := by
  have hL := h.1
  have e309 : ∀ a b c d e g x (W : Int32) (ku pu vu : Nat → Int32), sm_tot (fn_MO_cut (iI L) ct) (309, a, b, c, d, e, g, x, W, ku, pu, vu) = some (W, ku, pu, vu) := fun a b c d e g x W ku pu vu => by
    rw [sm_tot_u, fn_MO_cut_q309]
    rfl
  have hend : ∀ i n (ku pu vu : Nat → Int32), L ≤ i → i ≤ L → n ≤ i → sm_tot (fn_MO_cut (iI L) ct) (9, iI i, 1, 0, 0, 0, 0, 0, iI n, ku, pu, vu) = some (iI ((n + 1 : Nat) : Int), upd ku n 0, upd pu n (iI L), upd vu n 0) := fun i n ku pu vu h1 h2 h3 => by
    rw [sm_tot_u, fn_MO_cut_q9]
    unfold fn_MO_cut_b9
    rw [if_neg (show ¬ ((1 : Int32) = 0) by decide), if_pos (show iI (L : Int) ≤ iI (i : Int) by rw [ii_le (by omega) (by omega) (by omega) (by omega)]; omega), sm_ev_l, sm_tot_u, fn_MO_cut_q295]
    unfold fn_MO_cut_b295
    rw [if_neg (show ¬ ((1 : Int32) = 0) by decide), mo_word (by omega), Option.bind_some, sm_ev_l, e309]
  have hpend : ∀ n (ku pu vu : Nat → Int32), mo_wpic n [(0, L, 0)] (upd ku n 0) (upd pu n (iI L)) (upd vu n 0) := fun n ku pu vu j hj => by
    have e : j = 0 := by
      rw [List.length_singleton] at hj
      omega
    subst e
    exact ⟨if_pos rfl, if_pos rfl, fun _ => if_pos rfl⟩
  have hbel : ∀ (n : Nat) (ku pu vu : Nat → Int32) (x y z : Int32) j, j < n → upd ku n x j = ku j ∧ upd pu n y j = pu j ∧ upd vu n z j = vu j := fun n ku pu vu x y z j hj => ⟨if_neg (by omega), if_neg (by omega), if_neg (by omega)⟩
  intro f
  induction f with
  | zero =>
    intro i n ku pu vu h1 h2 h3
    exact ⟨_, _, _, hend i n ku pu vu (by omega) h2 h3, hpend n ku pu vu, hbel n ku pu vu _ _ _⟩
  | succ f ih =>
    intro i n ku pu vu h1 h2 h3
    by_cases hl : L ≤ i
    · rw [show ps_lx L t (f + 1) i = [(0, L, 0)] from if_pos hl]
      exact ⟨_, _, _, hend i n ku pu vu hl h2 h3, hpend n ku pu vu, hbel n ku pu vu _ _ _⟩
    · have hi : i < L := by omega
      have hw := ps_w_r (t := t) hi
      obtain ⟨en, vv, t1, t2, t3⟩ := mo_cut_tok (W := iI n) (ku := ku) (pu := pu) (vu := vu) h hi
      have hr := ps_ch_r h i
      rw [t1, sm_tot_u, fn_MO_cut_q261]
      unfold fn_MO_cut_b261
      have e289 : ∀ (b en W : Int32) (ku pu vu : Nat → Int32) a c e g x, sm_tot (fn_MO_cut (iI L) ct) (289, a, b, c, en, e, g, x, W, ku, pu, vu) = sm_tot (fn_MO_cut (iI L) ct) (9, en, b, 0, 0, 0, 0, 0, W, ku, pu, vu) := fun b en W ku pu vu a c e g x => by
        rw [sm_tot_u, fn_MO_cut_q289]
        rfl
      have e288 : ∀ (b en W : Int32) (ku pu vu : Nat → Int32) a c e g x, sm_tot (fn_MO_cut (iI L) ct) (288, a, x, c, en, e, g, b, W, ku, pu, vu) = sm_tot (fn_MO_cut (iI L) ct) (9, en, b, 0, 0, 0, 0, 0, W, ku, pu, vu) := fun b en W ku pu vu a c e g x => by
        rw [sm_tot_u, fn_MO_cut_q288]
        exact e289 _ _ _ _ _ _ _ _ _ _ _
      by_cases hsp : ps_ch L t i = 32
      · rw [show ps_lx L t (f + 1) i = ps_lx L t f (i + 1) by
          show (if _ then _ else if _ then _ else _) = _
          rw [if_neg hl, if_pos hsp]]
        rw [if_pos (show iI (ps_ch L t i) = 32 by rw [hsp]; rfl), sm_ev_l, e289, t2 (Or.inr hsp), ps_w_sp hsp]
        exact ih (i + 1) n ku pu vu (by omega) (by omega) (by omega)
      · rw [if_neg (show ¬ iI (ps_ch L t i) = 32 by rw [il_32, ii_eq (by omega) (by omega) (by omega) (by omega)]; exact hsp), mo_word (by omega), Option.bind_some]
        have hk := ps_kc_r (ps_ch L t i) (ps_w L t i)
        have hk' : 1 ≤ ps_k L t i ∧ ps_k L t i ≤ 10 := hk
        have es : ps_lx L t (f + 1) i = if ps_k L t i = 10 then [(10, i, 0)] else (ps_k L t i, i, ps_vl L t i) :: ps_lx L t f (i + ps_w L t i) := by
          show (if _ then _ else if _ then _ else _) = _
          rw [if_neg hl, if_neg hsp]
        rw [es, il_10, ie_eq (by omega) (by omega) (by omega) (by omega)]
        by_cases h10 : ps_k L t i = 10
        · rw [if_pos h10, if_pos h10, sm_ev_l, e288]
          refine ⟨upd ku n (iI (ps_k L t i)), upd pu n (iI i), upd vu n vv, ?_, fun j hj => ?_, hbel n ku pu vu _ _ _⟩
          · rw [sm_tot_u, fn_MO_cut_q9]
            unfold fn_MO_cut_b9
            rw [if_pos (show (0 : Int32) = 0 from rfl), sm_ev_l, sm_tot_u, fn_MO_cut_q295]
            unfold fn_MO_cut_b295
            rw [if_pos (show (0 : Int32) = 0 from rfl), sm_ev_l, e309]
            rfl
          · have e : j = 0 := by
              rw [List.length_singleton] at hj
              omega
            subst e
            refine ⟨(if_pos rfl).trans (by rw [h10]; rfl), if_pos rfl, fun q => ?_⟩
            exfalso
            rcases q with q | q <;> cases q
        · rw [if_neg h10, if_neg h10, sm_ev_l, e288, t2 (Or.inl h10)]
          obtain ⟨ku', pu', vu', a1, a2, a3⟩ := ih (i + ps_w L t i) (n + 1) (upd ku n (iI (ps_k L t i))) (upd pu n (iI i)) (upd vu n vv) (by omega) (by omega) (by omega)
          refine ⟨ku', pu', vu', ?_, fun j hj => ?_, fun j hj => ?_⟩
          · refine a1.trans ?_
            rw [List.length_cons, show n + 1 + (ps_lx L t f (i + ps_w L t i)).length = n + ((ps_lx L t f (i + ps_w L t i)).length + 1) by omega]
          · cases j with
            | zero =>
              obtain ⟨b1, b2, b3⟩ := a3 n (by omega)
              exact ⟨b1.trans (if_pos rfl), b2.trans (if_pos rfl), fun q => b3.trans ((if_pos rfl).trans (t3 q))⟩
            | succ j =>
              have := a2 j (by rw [List.length_cons] at hj; omega)
              rw [show n + (j + 1) = n + 1 + j by omega]
              exact this
          · obtain ⟨b1, b2, b3⟩ := a3 j (by omega)
            obtain ⟨d1, d2, d3⟩ := hbel n ku pu vu (iI (ps_k L t i)) (iI i) vv j hj
            exact ⟨b1.trans d1, b2.trans d2, b3.trans d3⟩
theorem mo_cut (h : tx_ok L t ct) (W : Int32) (ku pu vu : Nat → Int32) : ∃ ku' pu' vu', sm_tot (fn_MO_cut (iI L) ct) (0, 0, 0, 0, 0, 0, 0, 0, W, ku, pu, vu) = some (iI ((ps_lx L t L 0).length : Nat), ku', pu', vu') ∧ mo_wpic 0 (ps_lx L t L 0) ku' pu' vu' := by
  obtain ⟨ku', pu', vu', a1, a2, _⟩ := mo_cut_l h L 0 0 ku pu vu (by omega) (by omega) (by omega)
  refine ⟨ku', pu', vu', ?_, a2⟩
  rw [Nat.zero_add] at a1
  rw [sm_tot_u, fn_MO_cut_q0]
  exact a1
end MCW
