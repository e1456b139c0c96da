/-! the words of a system; both builders from their beginning -/
section PSF
variable {L : Nat} {t : Nat → Int} {ct : Nat → Int32}
theorem ps_e_dg : ∀ f i j, i ≤ j → j < ps_e L t f i → ps_dg (ps_ch L t j) = true := by
  intro f
  induction f with
  | zero => intro i j h1 h2; exact absurd h2 (by show ¬ j < i; omega)
  | succ f ih =>
    intro i j h1 h2
    cases e : ps_dg (ps_ch L t i) with
    | true =>
      rw [show ps_e L t (f + 1) i = ps_e L t f (i + 1) from if_pos e] at h2
      by_cases q : j = i
      · rw [q]; exact e
      · exact ih (i + 1) j (by omega) h2
    | false =>
      rw [show ps_e L t (f + 1) i = i from if_neg (by rw [e]; decide)] at h2
      omega
theorem ps_v_r {i w : Nat} (hw : w ≤ 4) (hd : ∀ j, i ≤ j → j < i + w → 48 ≤ t j ∧ t j ≤ 57) : 0 ≤ ps_v t w i 0 ∧ ps_v t w i 0 ≤ 9999 := by
  have hc : w = 0 ∨ w = 1 ∨ w = 2 ∨ w = 3 ∨ w = 4 := by omega
  rcases hc with rfl | rfl | rfl | rfl | rfl
  · show (0 : Int) ≤ 0 ∧ (0 : Int) ≤ 9999
    omega
  · have h0 := hd i (by omega) (by omega)
    show 0 ≤ 10 * 0 + t i - 48 ∧ 10 * 0 + t i - 48 ≤ 9999
    omega
  · have h0 := hd i (by omega) (by omega)
    have h1 := hd (i + 1) (by omega) (by omega)
    show 0 ≤ 10 * (10 * 0 + t i - 48) + t (i + 1) - 48 ∧ 10 * (10 * 0 + t i - 48) + t (i + 1) - 48 ≤ 9999
    omega
  · have h0 := hd i (by omega) (by omega)
    have h1 := hd (i + 1) (by omega) (by omega)
    have h2 := hd (i + 1 + 1) (by omega) (by omega)
    show 0 ≤ 10 * (10 * (10 * 0 + t i - 48) + t (i + 1) - 48) + t (i + 1 + 1) - 48 ∧ 10 * (10 * (10 * 0 + t i - 48) + t (i + 1) - 48) + t (i + 1 + 1) - 48 ≤ 9999
    omega
  · have h0 := hd i (by omega) (by omega)
    have h1 := hd (i + 1) (by omega) (by omega)
    have h2 := hd (i + 1 + 1) (by omega) (by omega)
    have h3 := hd (i + 1 + 1 + 1) (by omega) (by omega)
    show 0 ≤ 10 * (10 * (10 * (10 * 0 + t i - 48) + t (i + 1) - 48) + t (i + 1 + 1) - 48) + t (i + 1 + 1 + 1) - 48 ∧ 10 * (10 * (10 * (10 * 0 + t i - 48) + t (i + 1) - 48) + t (i + 1 + 1) - 48) + t (i + 1 + 1 + 1) - 48 ≤ 9999
    omega
theorem ps_k_tk {i : Nat} (hi : i < L) (h10 : ps_k L t i ≠ 10) : ps_tk (ps_k L t i, i, ps_vl L t i) := by
  have hk := ps_kc_r (ps_ch L t i) (ps_w L t i)
  have hk' : 1 ≤ ps_k L t i ∧ ps_k L t i ≤ 10 := hk
  refine ⟨hk'.1, by show ps_k L t i ≤ 9; omega, fun e => ?_, fun e => ?_⟩
  · have e1 : ps_k L t i = 1 := e
    show 0 ≤ ps_vl L t i ∧ ps_vl L t i ≤ 9999
    rw [ps_vl_1 e1]
    have hd : ps_dg (ps_ch L t i) = true := by
      cases q : ps_dg (ps_ch L t i) with
      | true => rfl
      | false =>
        exfalso
        unfold ps_k ps_kc at e1
        rw [if_neg (show ¬ (ps_dg (ps_ch L t i) = true) by rw [q]; decide)] at e1
        repeat' split at e1
        all_goals omega
    have hw4 : ps_w L t i ≤ 4 := by
      unfold ps_k ps_kc at e1
      rw [if_pos hd] at e1
      split at e1
      · assumption
      · omega
    have hwr := ps_w_r (t := t) hi
    have hw : ps_w L t i = ps_e L t (L - i) i - i := if_pos hd
    have hge := ps_e_ge (L := L) (t := t) (L - i) i
    refine ps_v_r hw4 (fun j h1 h2 => ?_)
    have := ps_dg_iff.mp (ps_e_dg (L := L) (t := t) (L - i) i j h1 (by omega))
    rw [ps_ch_in (by omega)] at this
    exact this
  · have e1 : ps_k L t i = 2 := e
    show 97 ≤ ps_vl L t i ∧ ps_vl L t i ≤ 122
    rw [ps_vl_2 (by omega) h10]
    unfold ps_k ps_kc at e1
    by_cases q : ps_dg (ps_ch L t i) = true
    · rw [if_pos q] at e1
      split at e1 <;> omega
    · rw [if_neg q] at e1
      by_cases q2 : 97 ≤ ps_ch L t i ∧ ps_ch L t i ≤ 122
      · exact q2
      · rw [if_neg q2] at e1
        exfalso
        repeat' split at e1
        all_goals omega
theorem ps_sc_tk : ∀ (f i s : Nat) (r : Bool), ∀ x, x ∈ (ps_sc L t f i s r).1 → ps_tk x ∧ x.2.1 ≤ L := by
  intro f
  induction f with
  | zero => intro i s r x hx; cases hx
  | succ f ih =>
    intro i s r x hx
    by_cases hl : L ≤ i
    · rw [show ps_sc L t (f + 1) i s r = ([], L, ps_ov s && r) from if_pos hl] at hx
      cases hx
    · by_cases hsp : ps_ch L t i = 32
      · rw [show ps_sc L t (f + 1) i s r = ps_sc L t f (i + 1) s r by
          show (if _ then _ else if _ then _ else _) = _
          rw [if_neg hl, if_pos hsp]] at hx
        exact ih _ _ _ x hx
      · have es2 : ps_sc L t (f + 1) i s r = match ps_nx s r (ps_k L t i) with
            | none => ([], i, false)
            | some q => ((ps_k L t i, i, ps_vl L t i) :: (ps_sc L t f (i + ps_w L t i) q.1 q.2).1, (ps_sc L t f (i + ps_w L t i) q.1 q.2).2) := by
          show (if _ then _ else if _ then _ else _) = _
          rw [if_neg hl, if_neg hsp]
          cases ps_nx s r (ps_k L t i) <;> rfl
        rw [es2] at hx
        cases e : ps_nx s r (ps_k L t i) with
        | none => rw [e] at hx; cases hx
        | some q =>
          rw [e] at hx
          have hx' : x ∈ (ps_k L t i, i, ps_vl L t i) :: (ps_sc L t f (i + ps_w L t i) q.1 q.2).1 := hx
          rcases List.mem_cons.mp hx' with h | h
          · subst h
            exact ⟨ps_k_tk (by omega) (fun h10 => by rw [h10, ps_nx_10] at e; cases e), by show i ≤ L; omega⟩
          · exact ih _ _ _ x h
theorem ps_sc_ac : ∀ (f i s : Nat) (r : Bool), (ps_sc L t f i s r).2.2 = true → ps_ac (ps_sc L t f i s r).1 s r := by
  have hend : ∀ (s : Nat) (r : Bool), (ps_ov s && r) = true → ps_ac [] s r := fun s r h => by
    rw [Bool.and_eq_true] at h
    exact h
  intro f
  induction f with
  | zero => intro i s r h; exact hend s r h
  | succ f ih =>
    intro i s r h
    by_cases hl : L ≤ i
    · rw [show ps_sc L t (f + 1) i s r = ([], L, ps_ov s && r) from if_pos hl] at h ⊢
      exact hend s r h
    · by_cases hsp : ps_ch L t i = 32
      · rw [show ps_sc L t (f + 1) i s r = ps_sc L t f (i + 1) s r by
          show (if _ then _ else if _ then _ else _) = _
          rw [if_neg hl, if_pos hsp]] at h ⊢
        exact ih _ _ _ h
      · have es2 : ps_sc L t (f + 1) i s r = match ps_nx s r (ps_k L t i) with
            | none => ([], i, false)
            | some q => ((ps_k L t i, i, ps_vl L t i) :: (ps_sc L t f (i + ps_w L t i) q.1 q.2).1, (ps_sc L t f (i + ps_w L t i) q.1 q.2).2) := by
          show (if _ then _ else if _ then _ else _) = _
          rw [if_neg hl, if_neg hsp]
          cases ps_nx s r (ps_k L t i) <;> rfl
        rw [es2] at h ⊢
        cases e : ps_nx s r (ps_k L t i) with
        | none => rw [e] at h; cases h
        | some q0 =>
          rw [e] at h
          show match ps_nx s r (ps_k L t i) with
            | none => False
            | some q => ps_ac (ps_sc L t f (i + ps_w L t i) q0.1 q0.2).1 q.1 q.2
          rw [e]
          exact ih _ _ _ h
theorem ps_sc_len : ∀ (f i s : Nat) (r : Bool), L ≤ i + f → i ≤ L → (ps_sc L t f i s r).1.length ≤ L - i := by
  intro f
  induction f with
  | zero => intro i s r _ _; exact Nat.zero_le _
  | succ f ih =>
    intro i s r h1 h2
    by_cases hl : L ≤ i
    · rw [show ps_sc L t (f + 1) i s r = ([], L, ps_ov s && r) from if_pos hl]
      exact Nat.zero_le _
    · have hw := ps_w_r (t := t) (show i < L by omega)
      by_cases hsp : ps_ch L t i = 32
      · rw [show ps_sc L t (f + 1) i s r = ps_sc L t f (i + 1) s r by
          show (if _ then _ else if _ then _ else _) = _
          rw [if_neg hl, if_pos hsp]]
        have := ih (i + 1) s r (by omega) (by omega)
        omega
      · have es2 : ps_sc L t (f + 1) i s r = match ps_nx s r (ps_k L t i) with
            | none => ([], i, false)
            | some q => ((ps_k L t i, i, ps_vl L t i) :: (ps_sc L t f (i + ps_w L t i) q.1 q.2).1, (ps_sc L t f (i + ps_w L t i) q.1 q.2).2) := by
          show (if _ then _ else if _ then _ else _) = _
          rw [if_neg hl, if_neg hsp]
          cases ps_nx s r (ps_k L t i) <;> rfl
        rw [es2]
        cases e : ps_nx s r (ps_k L t i) with
        | none => exact Nat.zero_le _
        | some q =>
          have := ih (i + ps_w L t i) q.1 q.2 (by omega) (by omega)
          show (ps_sc L t f (i + ps_w L t i) q.1 q.2).1.length + 1 ≤ _
          omega
end PSF
section BJB
variable {X : List (Int × Nat × Int)} {L : Nat} {kk pp vv rk rp rv : Nat → Int32}
theorem bj_mem (j : Nat) (hj : j < X.length) : X.getD j ps_z ∈ X := by
  rw [List.getD_eq_getElem?_getD, List.getElem?_eq_getElem hj]
  exact List.getElem_mem hj
/-- both builders -/
theorem bj_build (hX : X.length ≤ 300) (hc : wo_pic 0 X kk pp vv) (hr : mo_wpic 0 (X ++ [((0 : Int), L, (0 : Int))]) rk rp rv) (htk : ∀ x, x ∈ X → ps_tk x ∧ x.2.1 ≤ 300) (hac : ps_ac X 0 false) (st : BuS) (wr x1 x2 x3 : Int32) (dl dn ds : Nat → Int32) :
    ∃ oc orf, sm_tot (fn_BU_build (iI X.length) kk pp vv) (0, 0, 0, st) = some oc ∧ sm_tot (fn_MO_build rk rp rv) (0, 0, 0, 0, 0, 0, 0, 0, 0, 0, wr, x1, x2, x3, dl, dn, ds) = some orf ∧ bj_out oc orf := by
  obtain ⟨s1, s2, s3, s4, s5, s6, s7, s8, s9, s10, s11, s12, s13, s14, s15⟩ := st
  have hlt : 0 < X.length := by
    cases X with
    | nil => exact absurd hac.2 (by decide)
    | cons x X => exact Nat.succ_pos _
  have htk' : ∀ j, j < X.length → ps_tk (X.getD j ps_z) := fun j hj => (htk _ (bj_mem j hj)).1
  have hpl : ∀ j, j < X.length → (X.getD j ps_z).2.1 ≤ 300 := fun j hj => (htk _ (bj_mem j hj)).2
  obtain ⟨ca, cb, e1, e2, e3⟩ := eq_clear (x1 := s8) (x2 := s9) (x3 := s10) (ca := s11) (cb := s12)
  have lp : ∀ (d i : Nat) (u : Nat → Int32), i + d = 28 → (∀ q, q < i → u q = iI 0) → ∃ u', sm_tot (fn_MO_build rk rp rv) (17, iI i, 0, 0, 0, 0, 0, 0, 0, 0, wr, 0, 0, 0, dl, u, ds) = sm_tot (fn_MO_build rk rp rv) (38, iI ((0 : Nat) : Int), 0, 0, 0, 0, 0, 0, 0, 0, wr, iI ((0 : Nat) : Int), iI ((0 : Nat) : Int), iI ((0 : Nat) : Int), dl, u', ds) ∧ ∀ q, q < 28 → u' q = iI 0 := by
    intro d
    induction d with
    | zero =>
      intro i u hi hu
      refine ⟨u, ?_, fun q hq => hu q (by omega)⟩
      rw [sm_tot_u, fn_MO_build_q17]
      unfold fn_MO_build_b17
      rw [if_pos (show (28 : Int32) ≤ iI (i : Int) by rw [il_28, ii_le (by omega) (by omega) (by omega) (by omega)]; omega), sm_ev_l]
      rfl
    | succ d ih =>
      intro i u hi hu
      have i2 : ((i : Int)).toNat = i := by omega
      obtain ⟨u', a1, a2⟩ := ih (i + 1) (upd u i 0) (by omega) (fun q hq => by
        show (if q = i then 0 else u q) = iI 0
        by_cases e : q = i
        · rw [if_pos e]; rfl
        · rw [if_neg e]; exact hu q (by omega))
      refine ⟨u', ?_, a2⟩
      rw [← a1, sm_tot_u, fn_MO_build_q17]
      unfold fn_MO_build_b17
      rw [if_neg (show ¬ (28 : Int32) ≤ iI (i : Int) by rw [il_28, ii_le (by omega) (by omega) (by omega) (by omega)]; omega), if_pos (ii_g (a := (i : Int)) (N := 28) (by omega) (by omega) (by omega)), ii_nat (by omega) (by omega), i2, sm_ev_l, ii_s]
  obtain ⟨dn', l1, l2⟩ := lp 28 0 dn (by omega) (fun q hq => by omega)
  obtain ⟨oc, orf, g1, g2, g3⟩ := bj_main (n := X.length) (L := L) rfl hX hc hr htk' hpl X.length 0 0 false 1 1 (-1) 0 0 (fun _ => 0) (fun _ _ => 0) (fun _ => 0) (fun _ => 0) s5 s6 (iI ((0 : Nat) : Int)) wr ca cb s13 s14 s15 dl dn' ds (by omega) hac (by omega) (by omega) (Or.inl rfl) (Or.inl rfl) ⟨fun q => by omega, fun q => by omega, fun _ _ => rfl, fun _ => Or.inl rfl⟩ (fun q => by cases q) (by
    rw [bj_pd_n (by decide)]
    refine ⟨by decide, fun c hc => by omega, fun c c' hc => by omega, fun r c hr hc => ⟨e2 r c hr hc, l2 _ (by omega)⟩, fun r hr => ⟨e3 r hr, ?_⟩, fun r hr => by omega, fun _ _ _ => rfl, fun _ _ => ⟨fun _ => rfl, rfl⟩, fun _ _ => Nat.zero_le _, fun _ => Nat.zero_le _, fun r hr => by omega⟩
    rw [l2 _ (by omega), ite_self]
    rfl)
  have hrf := bj_ref_in hr hlt
  have ht0 := htk' 0 hlt
  refine ⟨oc, orf, ?_, ?_, g3⟩
  · rw [sm_tot_u, fn_BU_build_q0]
    unfold fn_BU_build_b0
    rw [e1, Option.bind_some, sm_ev_l]
    show sm_tot (fn_BU_build (iI X.length) kk pp vv) (16, (0 : Int32), (0 : Int32), s1, s2, s3, s4, s5, s6, (-1 : Int32), (0 : Int32), (0 : Int32), (0 : Int32), ca, cb, s13, s14, s15) = _
    rw [sm_tot_u, fn_BU_build_q16]
    unfold fn_BU_build_b16
    rw [if_neg (show ¬ iI (X.length : Int) ≤ 0 by rw [il_0, ii_le (by omega) (by omega) (by omega) (by omega)]; omega), if_pos (show (0 : Int32) = 0 from rfl), if_pos (show (0 : Int32) = 0 from rfl), sm_ev_l]
    exact (bu_44 (R := 0) (j := 0) (by omega) hlt (by omega)).trans g1
  · rw [sm_tot_u, fn_MO_build_q0]
    refine l1.trans ?_
    rw [mo_38 (j := 0) (R := 0) (by omega) (k := (X.getD 0 ps_z).1) (by unfold ps_tk at ht0; omega) hrf.1 (by omega), if_neg (by unfold ps_tk at ht0; omega), if_neg (by decide)]
    exact g2
end BJB
