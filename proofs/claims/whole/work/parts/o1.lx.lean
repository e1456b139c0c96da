/-! the words of a text, in whole numbers; the class's eyes for them -/
theorem il_32 : (32 : Int32) = iI 32 := rfl
theorem il_42 : (42 : Int32) = iI 42 := rfl
theorem il_43 : (43 : Int32) = iI 43 := rfl
theorem il_44 : (44 : Int32) = iI 44 := rfl
theorem il_45 : (45 : Int32) = iI 45 := rfl
theorem il_46 : (46 : Int32) = iI 46 := rfl
theorem il_47 : (47 : Int32) = iI 47 := rfl
theorem il_48 : (48 : Int32) = iI 48 := rfl
theorem il_49 : (49 : Int32) = iI 49 := rfl
theorem il_50 : (50 : Int32) = iI 50 := rfl
theorem il_51 : (51 : Int32) = iI 51 := rfl
theorem il_52 : (52 : Int32) = iI 52 := rfl
theorem il_53 : (53 : Int32) = iI 53 := rfl
theorem il_54 : (54 : Int32) = iI 54 := rfl
theorem il_55 : (55 : Int32) = iI 55 := rfl
theorem il_56 : (56 : Int32) = iI 56 := rfl
theorem il_57 : (57 : Int32) = iI 57 := rfl
theorem il_58 : (58 : Int32) = iI 58 := rfl
theorem il_59 : (59 : Int32) = iI 59 := rfl
theorem il_60 : (60 : Int32) = iI 60 := rfl
theorem il_61 : (61 : Int32) = iI 61 := rfl
theorem il_62 : (62 : Int32) = iI 62 := rfl
theorem il_97 : (97 : Int32) = iI 97 := rfl
theorem il_122 : (122 : Int32) = iI 122 := rfl
theorem il_126 : (126 : Int32) = iI 126 := rfl
def ps_ch (L : Nat) (t : Nat → Int) (i : Nat) : Int := if i < L then t i else 0
def ps_dg (x : Int) : Bool := decide (48 ≤ x) && decide (x ≤ 57)
def ps_e (L : Nat) (t : Nat → Int) : Nat → Nat → Nat
  | 0, i => i
  | f + 1, i => if ps_dg (ps_ch L t i) = true then ps_e L t f (i + 1) else i
def ps_v (t : Nat → Int) : Nat → Nat → Int → Int
  | 0, _, a => a
  | d + 1, i, a => ps_v t d (i + 1) (10 * a + t i - 48)
def ps_w (L : Nat) (t : Nat → Int) (i : Nat) : Nat := if ps_dg (ps_ch L t i) = true then ps_e L t (L - i) i - i else if (ps_ch L t i = 60 ∨ ps_ch L t i = 62) ∧ ps_ch L t (i + 1) = 61 then 2 else 1
def ps_kc (x : Int) (w : Nat) : Int := if ps_dg x = true then (if w ≤ 4 then 1 else 10) else if 97 ≤ x ∧ x ≤ 122 then 2 else if x = 60 then (if w = 2 then 8 else 10) else if x = 62 then (if w = 2 then 9 else 10) else if x = 43 then 3 else if x = 45 then 4 else if x = 42 then 5 else if x = 59 then 6 else if x = 61 then 7 else 10
def ps_k (L : Nat) (t : Nat → Int) (i : Nat) : Int := ps_kc (ps_ch L t i) (ps_w L t i)
def ps_vl (L : Nat) (t : Nat → Int) (i : Nat) : Int := if ps_dg (ps_ch L t i) = true then ps_v t (ps_w L t i) i 0 else ps_ch L t i
def ps_ck (k : Int) : Int := if k = 10 then -1 else k - 1
def tx_ok (L : Nat) (t : Nat → Int) (ct : Nat → Int32) : Prop := L ≤ 300 ∧ ∀ i, i < L → ct i = iI (t i) ∧ 32 ≤ t i ∧ t i ≤ 126
theorem ps_dg_iff {x : Int} : ps_dg x = true ↔ 48 ≤ x ∧ x ≤ 57 := by
  unfold ps_dg
  rw [Bool.and_eq_true, decide_eq_true_iff, decide_eq_true_iff]
theorem ps_dg_t {x : Int} (h : 48 ≤ x ∧ x ≤ 57) : ps_dg x = true := ps_dg_iff.mpr h
theorem ps_dg_f {x : Int} (h : ¬ (48 ≤ x ∧ x ≤ 57)) : ps_dg x = false := by
  cases e : ps_dg x with
  | false => rfl
  | true => exact absurd (ps_dg_iff.mp e) h
theorem ps_dg_nf {x : Int} (h : ps_dg x = false) : ¬ (48 ≤ x ∧ x ≤ 57) := fun q => by rw [ps_dg_t q] at h; cases h
section PSP
variable {L : Nat} {t : Nat → Int} {ct : Nat → Int32}
theorem ps_ch_r (h : tx_ok L t ct) (i : Nat) : 0 ≤ ps_ch L t i ∧ ps_ch L t i ≤ 126 := by
  unfold ps_ch
  split
  · rename_i q; have := h.2 i q; omega
  · omega
theorem ps_ch_in {i : Nat} (hi : i < L) : ps_ch L t i = t i := if_pos hi
theorem ps_ch_out {i : Nat} (hi : L ≤ i) : ps_ch L t i = 0 := if_neg (by omega)
theorem ps_e_ge : ∀ f i, i ≤ ps_e L t f i := by
  intro f
  induction f with
  | zero => intro i; exact Nat.le_refl _
  | succ f ih =>
    intro i
    show i ≤ (if _ then _ else _)
    split
    · exact Nat.le_trans (Nat.le_succ _) (ih (i + 1))
    · exact Nat.le_refl _
theorem ps_e_le : ∀ f i, ps_e L t f i ≤ i + f := by
  intro f
  induction f with
  | zero => intro i; exact Nat.le_refl _
  | succ f ih =>
    intro i
    show (if _ then _ else _) ≤ i + (f + 1)
    split
    · have := ih (i + 1); omega
    · omega
theorem ps_w_dg {i : Nat} (h : ps_dg (ps_ch L t i) = true) (hi : i < L) : ps_w L t i = ps_e L t (L - i - 1) (i + 1) - i := by
  unfold ps_w
  rw [if_pos h, show L - i = (L - i - 1) + 1 by omega]
  show (if _ then _ else _) - i = _
  rw [if_pos h, show L - i - 1 + 1 - 1 = L - i - 1 by omega]
theorem ps_w_r {i : Nat} (hi : i < L) : 1 ≤ ps_w L t i ∧ i + ps_w L t i ≤ L := by
  cases h : ps_dg (ps_ch L t i) with
  | true =>
    have h1 := ps_w_dg h hi
    have h2 := ps_e_ge (L := L) (t := t) (L - i - 1) (i + 1)
    have h3 := ps_e_le (L := L) (t := t) (L - i - 1) (i + 1)
    omega
  | false =>
    unfold ps_w
    rw [if_neg (by rw [h]; decide)]
    split
    · rename_i q
      have q2 := q.2
      by_cases e : i + 1 < L
      · omega
      · rw [ps_ch_out (by omega)] at q2
        omega
    · omega
/-- what a word may be -/
theorem ps_kc_r (x : Int) (w : Nat) : 1 ≤ ps_kc x w ∧ ps_kc x w ≤ 10 := by
  unfold ps_kc
  repeat' split
  all_goals omega
theorem tx_at (h : tx_ok L t ct) {i : Nat} (hi : i ≤ 1000) : sm_tot (fn_TX_characterAt (iI i) (iI L) ct) (0, 0) = some (iI (ps_ch L t i)) := by
  have hL := h.1
  have e22 : ∀ s, sm_tot (fn_TX_characterAt (iI i) (iI L) ct) (22, s) = some s := fun s => by rw [sm_tot_u, fn_TX_characterAt_q22]; rfl
  have e21 : ∀ s, sm_tot (fn_TX_characterAt (iI i) (iI L) ct) (21, s) = some (iI 0) := fun s => by rw [sm_tot_u, fn_TX_characterAt_q21]; exact e22 0
  rw [sm_tot_u, fn_TX_characterAt_q0]
  unfold fn_TX_characterAt_b0
  by_cases e : i < L
  · have i2 : ((i : Int)).toNat = i := by omega
    have h1 := (h.2 i e).1
    rw [ps_ch_in e]
    simp (disch := omega) only [il_0, ii_lt, ii_le, ii_nat, i2, h1, if_pos, if_neg, sm_ev_l, e22]
  · rw [ps_ch_out (by omega)]
    simp (disch := omega) only [il_0, ii_lt, ii_le, if_pos, if_neg, sm_ev_l, e21]
theorem wo_digit {x : Int} (h1 : -1000 ≤ x) (h2 : x ≤ 1000) : sm_tot (fn_WO_isDigit (iI x)) (0, 0) = some (bI (ps_dg x)) := by
  have e17 : ∀ b : Bool, sm_tot (fn_WO_isDigit (iI x)) (17, bI b) = some (bI b) := fun b => by rw [sm_tot_u, fn_WO_isDigit_q17]; unfold fn_WO_isDigit_b17; rw [if_pos bI_01, sm_ev_r]
  have e16 : ∀ s, sm_tot (fn_WO_isDigit (iI x)) (16, s) = some (bI false) := fun s => by rw [sm_tot_u, fn_WO_isDigit_q16]; exact e17 false
  rw [sm_tot_u, fn_WO_isDigit_q0]
  unfold fn_WO_isDigit_b0
  by_cases h3 : 48 ≤ x
  · by_cases h4 : x ≤ 57
    · rw [ps_dg_t ⟨h3, h4⟩]
      simp (disch := omega) only [il_48, il_57, ii_lt, if_neg, sm_ev_l]
      exact e17 true
    · rw [ps_dg_f (by omega)]
      simp (disch := omega) only [il_48, il_57, ii_lt, if_neg, if_pos, sm_ev_l, e16]
  · rw [ps_dg_f (by omega)]
    simp (disch := omega) only [il_48, il_57, ii_lt, if_neg, if_pos, sm_ev_l, e16]
theorem wo_value (h : tx_ok L t ct) {i w : Nat} (hw : i + w ≤ L) : sm_tot (fn_WO_valueOf (iI i) (iI w) (iI L) ct) (0, 0, 0) = some (iI (ps_v t w i 0)) := by
  have hL := h.1
  have lp : ∀ d j a, j + d = i + w → sm_tot (fn_WO_valueOf (iI i) (iI w) (iI L) ct) (5, iI a, iI j) = some (iI (ps_v t d j a)) := by
    intro d
    induction d with
    | zero =>
      intro j a hj
      rw [sm_tot_u, fn_WO_valueOf_q5]
      unfold fn_WO_valueOf_b5
      simp (disch := omega) only [ii_add, ii_le, if_pos, sm_ev_r]
      rfl
    | succ d ih =>
      intro j a hj
      rw [sm_tot_u, fn_WO_valueOf_q5]
      unfold fn_WO_valueOf_b5
      rw [tx_at h (show j ≤ 1000 by omega), ps_ch_in (show j < L by omega)]
      simp (disch := omega) only [il_1, il_10, il_48, ii_add, ii_mul, ii_sub, ii_le, if_neg, sm_ev_l, Option.bind_some]
      exact ih (j + 1) _ (by omega)
  rw [sm_tot_u, fn_WO_valueOf_q0]
  exact lp w i 0 rfl
theorem wo_width (h : tx_ok L t ct) {i : Nat} (hi : i < L) : sm_tot (fn_WO_widthAt (iI i) (iI L) ct) (0, 0, 0) = some (iI (ps_w L t i)) := by
  have hL := h.1
  have e35 : ∀ x s, sm_tot (fn_WO_widthAt (iI i) (iI L) ct) (35, x, s) = some s := fun x s => by rw [sm_tot_u, fn_WO_widthAt_q35]; rfl
  have e74 : ∀ (j : Nat) s, sm_tot (fn_WO_widthAt (iI i) (iI L) ct) (74, iI j, s) = some (iI ((j : Int) - i)) := fun j s => by rw [sm_tot_u, fn_WO_widthAt_q74]; unfold fn_WO_widthAt_b74; rw [sm_ev_r, ii_sub]
  have lp : ∀ f j, j + f = L → i ≤ j → sm_tot (fn_WO_widthAt (iI i) (iI L) ct) (49, iI j, 0) = some (iI ((ps_e L t f j : Nat) - (i : Int))) := by
    intro f
    induction f with
    | zero =>
      intro j hj _
      rw [sm_tot_u, fn_WO_widthAt_q49]
      unfold fn_WO_widthAt_b49
      simp (disch := omega) only [ii_le, if_pos, sm_ev_l, e74]
      rfl
    | succ f ih =>
      intro j hj hij
      have hr := ps_ch_r h j
      rw [sm_tot_u, fn_WO_widthAt_q49]
      unfold fn_WO_widthAt_b49
      rw [tx_at h (show j ≤ 1000 by omega), Option.bind_some, wo_digit (by omega) (by omega), Option.bind_some]
      show _ = some (iI (((if ps_dg (ps_ch L t j) = true then ps_e L t f (j + 1) else j : Nat) : Int) - i))
      cases e : ps_dg (ps_ch L t j) with
      | false =>
        rw [bI_0, if_pos (show (0 : Int32) = 0 from rfl), if_neg (show ¬ (false = true) by decide)]
        simp (disch := omega) only [ii_le, if_neg, sm_ev_l, e74]
      | true =>
        rw [bI_1, if_neg (show ¬ ((1 : Int32) = 0) by decide), if_pos rfl]
        simp (disch := omega) only [il_1, ii_add, ii_le, if_neg, sm_ev_l]
        exact ih (j + 1) (by omega) (by omega)
  have hr := ps_ch_r h i
  have hr1 := ps_ch_r h (i + 1)
  rw [sm_tot_u, fn_WO_widthAt_q0]
  unfold fn_WO_widthAt_b0
  rw [tx_at h (show i ≤ 1000 by omega), Option.bind_some, wo_digit (by omega) (by omega), Option.bind_some]
  have h18 : ∀ x s, sm_tot (fn_WO_widthAt (iI i) (iI L) ct) (18, x, s) = some (iI (if ps_ch L t (i + 1) = 61 then 2 else 1)) := fun x s => by
    rw [sm_tot_u, fn_WO_widthAt_q18]
    unfold fn_WO_widthAt_b18
    rw [ii_s, tx_at h (show i + 1 ≤ 1000 by omega), Option.bind_some, il_61, ie_eq (by omega) (by omega) (by omega) (by omega)]
    split <;> rw [sm_ev_l, e35] <;> rfl
  by_cases c1 : ps_ch L t i = 60 ∨ ps_ch L t i = 62
  · have d1 : ps_dg (ps_ch L t i) = false := ps_dg_f (by omega)
    have hw : (ps_w L t i : Int) = if ps_ch L t (i + 1) = 61 then 2 else 1 := by
      unfold ps_w
      rw [if_neg (by rw [d1]; decide)]
      by_cases q : ps_ch L t (i + 1) = 61
      · rw [if_pos ⟨c1, q⟩, if_pos q]; rfl
      · rw [if_neg (fun x => q x.2), if_neg q]; rfl
    rw [hw, il_60, il_62, ie_eq (by omega) (by omega) (by omega) (by omega), ie_eq (by omega) (by omega) (by omega) (by omega)]
    rcases c1 with c | c
    · rw [if_pos c, sm_ev_l, h18]
    · rw [if_neg (by omega), if_pos c, sm_ev_l, h18]
  · rw [il_60, il_62, ie_eq (by omega) (by omega) (by omega) (by omega), ie_eq (by omega) (by omega) (by omega) (by omega), if_neg (fun q => c1 (Or.inl q)), if_neg (fun q => c1 (Or.inr q))]
    cases e : ps_dg (ps_ch L t i) with
    | false =>
      rw [bI_0, if_pos (show (0 : Int32) = 0 from rfl), sm_ev_r]
      unfold ps_w
      rw [if_neg (by rw [e]; decide), if_neg (fun x => c1 x.1)]
      rfl
    | true =>
      have hg := ps_e_ge (L := L) (t := t) (L - i - 1) (i + 1)
      rw [bI_1, if_neg (show ¬ ((1 : Int32) = 0) by decide), sm_ev_l, ii_s, ps_w_dg e hi]
      refine (lp (L - i - 1) (i + 1) (by omega) (by omega)).trans ?_
      rw [show ((ps_e L t (L - i - 1) (i + 1) : Nat) : Int) - (i : Int) = ((ps_e L t (L - i - 1) (i + 1) - i : Nat) : Int) by omega]
theorem wo_kind (h : tx_ok L t ct) {i w : Nat} (hi : i < L) (hw : w ≤ 1000) : sm_tot (fn_WO_kindAt (iI i) (iI w) (iI L) ct) (0, 0, 0) = some (iI (ps_ck (ps_kc (ps_ch L t i) w))) := by
  have hL := h.1
  have hr := ps_ch_r h i
  have e23 : ∀ x s, sm_tot (fn_WO_kindAt (iI i) (iI w) (iI L) ct) (23, x, s) = some s := fun x s => by rw [sm_tot_u, fn_WO_kindAt_q23]; rfl
  have e158 : ∀ x s, sm_tot (fn_WO_kindAt (iI i) (iI w) (iI L) ct) (158, x, s) = some s := fun x s => by rw [sm_tot_u, fn_WO_kindAt_q158]; rfl
  have e170 : ∀ x s, sm_tot (fn_WO_kindAt (iI i) (iI w) (iI L) ct) (170, x, s) = some s := fun x s => by rw [sm_tot_u, fn_WO_kindAt_q170]; rfl
  rw [sm_tot_u, fn_WO_kindAt_q0]
  unfold fn_WO_kindAt_b0
  rw [tx_at h (show i ≤ 1000 by omega), Option.bind_some, wo_digit (by omega) (by omega), Option.bind_some]
  generalize ps_ch L t i = x at hr
  cases e : ps_dg x with
  | true =>
    have hx := ps_dg_iff.mp e
    rw [bI_1, if_neg (show ¬ ((1 : Int32) = 0) by decide)]
    unfold ps_kc
    rw [if_pos e]
    by_cases q : w ≤ 4
    · rw [if_pos q]
      simp (disch := omega) only [il_4, ii_lt, if_neg, sm_ev_l, e23]
      rfl
    · rw [if_neg q]
      simp (disch := omega) only [il_4, ii_lt, if_pos, sm_ev_l, e23]
      rfl
  | false =>
    have hx := ps_dg_nf e
    rw [bI_0, if_pos (show (0 : Int32) = 0 from rfl)]
    have h38 : ∀ s, ¬ (97 ≤ x ∧ x ≤ 122) → sm_tot (fn_WO_kindAt (iI i) (iI w) (iI L) ct) (38, iI x, s) = some (iI (ps_ck (ps_kc x w))) := fun s hn => by
      rw [sm_tot_u, fn_WO_kindAt_q38]
      unfold fn_WO_kindAt_b38
      unfold ps_kc
      rw [if_neg (show ¬ (ps_dg x = true) by rw [e]; decide), if_neg hn]
      by_cases c1 : x = 42
      · subst c1; rfl
      by_cases c2 : x = 43
      · subst c2; rfl
      by_cases c3 : x = 45
      · subst c3; rfl
      by_cases c4 : x = 59
      · subst c4; rfl
      by_cases c5 : x = 61
      · subst c5; rfl
      by_cases c6 : x = 60
      · subst c6
        by_cases q : w = 2
        · subst q
          exact e158 _ _
        · simp (disch := omega) only [il_42, il_43, il_44, il_45, il_46, il_47, il_48, il_49, il_50, il_51, il_52, il_53, il_54, il_55, il_56, il_57, il_58, il_59, il_60, il_61, il_62, il_2, ii_eq, if_pos, if_neg, if_true, sm_ev_l, e158]
          rfl
      by_cases c7 : x = 62
      · subst c7
        by_cases q : w = 2
        · subst q
          exact e170 _ _
        · simp (disch := omega) only [il_42, il_43, il_44, il_45, il_46, il_47, il_48, il_49, il_50, il_51, il_52, il_53, il_54, il_55, il_56, il_57, il_58, il_59, il_60, il_61, il_62, il_2, ii_eq, if_pos, if_neg, if_true, sm_ev_l, e170]
          rfl
      simp (disch := omega) only [il_42, il_43, il_44, il_45, il_46, il_47, il_48, il_49, il_50, il_51, il_52, il_53, il_54, il_55, il_56, il_57, il_58, il_59, il_60, il_61, il_62, il_2, ii_eq, if_neg, ite_self, sm_ev_r]
      rfl
    by_cases c1 : x < 97
    · simp (disch := omega) only [il_97, ii_lt, if_pos, sm_ev_l]
      exact h38 _ (by omega)
    · by_cases c2 : 122 < x
      · simp (disch := omega) only [il_97, il_122, ii_lt, if_pos, if_neg, sm_ev_l]
        exact h38 _ (by omega)
      · simp (disch := omega) only [il_97, il_122, ii_lt, if_neg, sm_ev_r]
        unfold ps_kc
        rw [if_neg (show ¬ (ps_dg x = true) by rw [e]; decide), if_pos (by omega)]
        rfl
end PSP
