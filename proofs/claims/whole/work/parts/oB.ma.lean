/-! the two builders agree -/
section BJN
variable {X : List (Int × Nat × Int)} {n L : Nat} {kk pp vv rk rp rv : Nat → Int32}
theorem bj_cls (hc : wo_pic 0 X kk pp vv) {j : Nat} (hj : j < X.length) : kk j = iI (ps_ck (X.getD j ps_z).1) ∧ pp j = iI ((X.getD j ps_z).2.1 : Int) ∧ vv j = iI (X.getD j ps_z).2.2 := by
  have h := hc j hj
  rw [Nat.zero_add] at h
  exact h
theorem bj_many (hr : mo_wpic 0 (X ++ [((0 : Int), L, (0 : Int))]) rk rp rv) (htk : ∀ j, j < X.length → ps_tk (X.getD j ps_z)) {j s : Nat} {op : Int} (hj : j < X.length) (hs : s ≤ 4) (h4 : s ≠ 4) (h : bj_at X j s op) : mo_many j rk rv (if op = -1 then 1 else op) := by
  obtain ⟨h1, h2, h3, h5⟩ := h
  by_cases q2 : s = 2
  · obtain ⟨a1, a2, a3, a4, a5⟩ := h1 q2
    have hh := bj_ref_in hr (show j - 1 < X.length by omega)
    rw [a2] at hh
    rw [if_neg (by omega)]
    refine Or.inl ⟨a1, hh.1, ?_⟩
    rw [hh.2.2 (Or.inl rfl), a3]
  · by_cases q3 : s = 3
    · obtain ⟨a1, a2, a3, a4, a5, a6⟩ := h2 q3
      have hh := bj_ref_in hr (show j - 1 < X.length by omega)
      have hg := bj_ref_in hr (show j - 2 < X.length by omega)
      rw [a2] at hh
      rw [a3] at hg
      rw [if_neg (by omega)]
      refine Or.inr (Or.inl ⟨a1, hh.1, hg.1, ?_⟩)
      rw [hg.2.2 (Or.inl rfl), a4]
    · rw [if_pos (h3 q2 q3)]
      refine Or.inr (Or.inr ⟨rfl, ?_⟩)
      rcases h5 (by omega) with h | ⟨b1, b2, b3⟩
      · exact Or.inl h
      · right
        have hh := bj_ref_in hr (show j - 1 < X.length by omega)
        have ht := htk (j - 1) (by omega)
        unfold ps_tk at ht
        exact ⟨_, hh.1, by omega, by omega, b2, b3⟩
theorem bj_sgm {sd sg m : Int} (hsd : sd = 1 ∨ sd = -1) (hsg : sg = 1 ∨ sg = -1) (hm : 0 ≤ m ∧ m ≤ 9999) : (sd * sg * m).natAbs ≤ 10000 := by
  rcases hsd with rfl | rfl <;> rcases hsg with rfl | rfl <;> omega
theorem bj_main (hn : n = X.length) (hX : X.length ≤ 300) (hc : wo_pic 0 X kk pp vv) (hr : mo_wpic 0 (X ++ [((0 : Int), L, (0 : Int))]) rk rp rv) (htk : ∀ j, j < X.length → ps_tk (X.getD j ps_z)) (hpl : ∀ j, j < X.length → (X.getD j ps_z).2.1 ≤ 300) :
    ∀ (d j s : Nat) (r : Bool) (sd sg op : Int) (R nv : Nat) (lt : Nat → Int) (A : Nat → Nat → Int) (B sgn : Nat → Int) (rel rep x4 wr : Int32) (ca : Nat → Nat → Int32) (cb cl c1 c2 dl dn ds : Nat → Int32), j + d = X.length → ps_ac (X.drop j) s r → s ≤ 4 → R < 4 → (sd = 1 ∨ sd = -1) → (sg = 1 ∨ sg = -1) → bj_at X j s op → bj_rl X r rel rep x4 → bj_inv R nv lt A B sgn j (bj_pd (bj_K X L j) s sd sg op) ca cb cl c1 c2 dl dn ds →
      bj_goal n kk pp vv rk rp rv j R nv (bj_c sgn R) sd sg op rel rep x4 wr ca cb cl c1 c2 dl dn ds := by
  subst hn
  intro d
  induction d with
  | zero =>
    intro j s r sd sg op R nv lt A B sgn rel rep x4 wr ca cb cl c1 c2 dl dn ds hj hac hs hR hsd hsg hat hrl hinv
    have ej : j = X.length := by omega
    subst ej
    rw [List.drop_eq_nil_of_le (Nat.le_refl _)] at hac
    obtain ⟨ho, hrt⟩ := hac
    subst hrt
    have hK : bj_K X L X.length = 0 := bj_K_end
    have hpd := bj_pd_ov (sd := sd) (sg := sg) (k := bj_K X L X.length) hat ho (by rw [hK]; omega)
    have hV : ∀ st, bu_V X.length kk pp vv X.length st = sm_tot (fn_BU_build (iI X.length) kk pp vv) (88, 0, 0, st) := fun st => if_neg (Nat.lt_irrefl _)
    rcases bj_rowend hX hpl hr (Nat.le_refl _) hR hsd hsg (bj_op hat) hpd hinv hrl (wr := wr) (Or.inr hK) with ⟨fc, pl, ns', cb', c1', c2', ca', orf, f1, f2, f3, f4, f5, f6, f7⟩ | ⟨B', sgn', cb', c1', c2', ds', g1, g2, g3⟩
    · refine ⟨(iI fc, iI R, iI sd, iI sg, iI op, rel, rep, iI pl, iI ((R + 1 : Nat) : Int), iI nv, ns', ca', cb', cl, c1', c2'), orf, ?_, f5, Or.inl ⟨fc, pl, f1, f2, rfl, rfl, f6, f7⟩⟩
      rw [hV, sm_tot_u, fn_BU_build_q88]
      unfold fn_BU_build_b88
      rw [if_pos (show (0 : Int32) = 0 from rfl), f3, Option.bind_some, sm_ev_l, sm_tot_u, fn_BU_build_q97]
      unfold fn_BU_build_b97
      rw [f4, Option.bind_some, sm_ev_r]
    · obtain ⟨ca', p1, p2⟩ := bj_place (by omega) g1
      refine ⟨(0, iI R, iI sd, iI sg, iI op, rel, rep, -1, iI ((R + 1 : Nat) : Int), iI nv, iI (bj_c sgn' (R + 1)), ca', cb', cl, c1', c2'), (0, wr, iI nv, iI (bj_c sgn' (R + 1)), iI ((R + 1 : Nat) : Int), dl, dn, ds'), ?_, ?_, Or.inr ⟨R + 1, nv, lt, A, B', sgn', ca, ca', cb', cl, c1', c2', dl, dn, ds', _, iI R, iI sd, iI sg, iI op, rel, rep, wr, by omega, by omega, g1, rfl, rfl, p2⟩⟩
      · rw [hV, sm_tot_u, fn_BU_build_q88]
        unfold fn_BU_build_b88
        rw [if_pos (show (0 : Int32) = 0 from rfl), g2, Option.bind_some, sm_ev_l, sm_tot_u, fn_BU_build_q97]
        unfold fn_BU_build_b97
        rw [p1, Option.bind_some, sm_ev_r]
      · rw [g3, hK, if_neg (show ¬ (0 : Int) = 6 by decide), mo_38 (by omega) (k := 0) (by omega) (by rw [bj_ref_K hr (Nat.le_refl _), hK]) (by omega), if_pos rfl]
  | succ d ih =>
    intro j s r sd sg op R nv lt A B sgn rel rep x4 wr ca cb cl c1 c2 dl dn ds hj hac hs hR hsd hsg hat hrl hinv
    have hlt : j < X.length := by omega
    have hd : X.drop j = X.getD j ps_z :: X.drop (j + 1) := by
      rw [List.drop_eq_getElem_cons hlt]
      congr 1
      rw [List.getD_eq_getElem?_getD, List.getElem?_eq_getElem hlt]
      rfl
    rw [hd] at hac
    obtain ⟨hkk, hpp, hvv⟩ := bj_cls hc hlt
    obtain ⟨hrk, hrp, hrv⟩ := bj_ref_in hr hlt
    have hK : bj_K X L j = (X.getD j ps_z).1 := bj_K_in hlt
    have ht := htk j hlt
    have hpj := hpl j hlt
    have hop := bj_op hat
    generalize hx : X.getD j ps_z = x at hac hkk hpp hvv hrk hrp hrv hK ht hpj
    obtain ⟨k, p, v⟩ := x
    have hac' : match ps_nx s r k with
        | none => False
        | some q => ps_ac (X.drop (j + 1)) q.1 q.2 := hac
    obtain ⟨t1, t2, t3, t4⟩ := ht
    dsimp only at t1 t2 t3 t4 hkk hpp hvv hrk hrp hrv hK hpj
    rw [hK] at hinv
    cases hnx : ps_nx s r k with
    | none => rw [hnx] at hac'; exact hac'.elim
    | some q =>
    obtain ⟨s', r'⟩ := q
    rw [hnx] at hac'
    have hs' := ps_nx_le hnx
    have hx1 : (X.getD (j + 1 - 1) ps_z).1 = k := by
      rw [Nat.add_sub_cancel, hx]
    have hx2 : (X.getD (j + 1 - 1) ps_z).2.2 = v := by
      rw [Nat.add_sub_cancel, hx]
    have hcases : k = 1 ∨ k = 2 ∨ (k = 3 ∨ k = 4) ∨ k = 5 ∨ k = 6 ∨ (k = 7 ∨ k = 8 ∨ k = 9) := by omega
    rcases hcases with e | e | e | e | e | e
    · -- a number
      subst e
      have hsn : s < 2 ∧ s' = 2 ∧ r' = r := by
        have h0 : (if s < 2 then some (2, r) else none) = some (s', r') := hnx
        split at h0
        · injection h0 with h0; injection h0 with h0 h00; exact ⟨by assumption, h0.symm, h00.symm⟩
        · cases h0
      obtain ⟨z1, rfl, rfl⟩ := hsn
      rw [bj_pd_n (show s ≠ 2 by omega)] at hinv
      have hv := t3 rfl
      obtain ⟨oc, orf, g1, g2, g3⟩ := ih (j + 1) 2 r' sd sg v R nv lt A B sgn rel rep x4 wr ca cb cl c1 c2 dl (if bj_K X L (j + 1) = 2 ∨ bj_K X L (j + 1) = 5 then dn else upd dn (7 * R + 6) (dn (7 * R + 6) - iI (sd * sg * v))) ds (by omega) hac' (by omega) hR hsd hsg
        ⟨fun _ => ⟨by omega, hx1, hx2, hv.1, hv.2⟩, fun q => by omega, fun q => absurd rfl q, fun q => by omega⟩ hrl (by
          unfold bj_pd
          by_cases q : bj_K X L (j + 1) = 2 ∨ bj_K X L (j + 1) = 5
          · rw [if_neg (fun x => x.2 q), if_pos q]
            exact bj_mono hinv (by omega)
          · rw [if_pos ⟨rfl, q⟩, if_neg q]
            exact bj_num hR hinv)
      refine ⟨oc, orf, Eq.trans ?_ g1, Eq.trans ?_ g2, g3⟩
      · refine (bu_55 (by omega) hlt (by rw [hkk, hvv]; exact bu_add0)).trans ?_
        exact bu_82 (by omega) hlt (c := ps_ck 1) (by decide) hkk (by decide) _
      · have hkr := bj_K_r (L := L) htk (show j + 1 ≤ X.length by omega)
        exact mo_t1 hR (by omega) hrk (by omega) (bj_ref_K hr (show j + 1 ≤ X.length by omega)) (hrv (Or.inl rfl))
    · -- a variable
      subst e
      have hsn : s ≠ 4 ∧ s' = 4 ∧ r' = r := by
        have h0 : (if s = 4 then none else some (4, r)) = some (s', r') := hnx
        split at h0
        · cases h0
        · injection h0 with h0; injection h0 with h0 h00; exact ⟨by assumption, h0.symm, h00.symm⟩
      obtain ⟨z1, rfl, rfl⟩ := hsn
      rw [show bj_pd 2 s sd sg op = 0 from if_neg (fun x => x.2 (Or.inl rfl))] at hinv
      have hv := t4 rfl
      have hmany := bj_many hr htk hlt hs z1 hat
      have hm : 0 ≤ (if op = -1 then 1 else op) ∧ (if op = -1 then 1 else op) ≤ 9999 := by split <;> omega
      have hsm := bj_sgm hsd hsg hm
      have hl1 : ∀ c, c < nv → cl c = iI (lt c) ∧ 0 ≤ lt c ∧ lt c ≤ 1000 := fun c hc => by
        obtain ⟨y1, y2, y3, y4⟩ := hinv.2.1 c hc
        exact ⟨y1, by omega, by omega⟩
      have hl2 : ∀ c, c < nv → dl c = iI (lt c) ∧ 0 ≤ lt c ∧ lt c ≤ 1000 := fun c hc => by
        obtain ⟨y1, y2, y3, y4⟩ := hinv.2.1 c hc
        exact ⟨y2, by omega, by omega⟩
      have hn6 := hinv.1
      have hat' : bj_at X (j + 1) 4 (-1) := ⟨fun q => by omega, fun q => by omega, fun _ _ => rfl, fun q => by omega⟩
      by_cases hex : ∃ c, c < nv ∧ lt c = v
      · obtain ⟨c0, d1, d2⟩ := hex
        obtain ⟨oc, orf, g1, g2, g3⟩ := ih (j + 1) 4 r' sd sg (-1) R nv lt (fun r c => if r = R ∧ c = c0 then A r c + sd * sg * (if op = -1 then 1 else op) else A r c) B sgn rel rep x4 wr (up2 ca R (upd (ca R) c0 (ca R c0 + iI (sd * sg * (if op = -1 then 1 else op))))) cb cl c1 c2 dl (upd dn (7 * R + c0) (dn (7 * R + c0) + iI (sd * sg * (if op = -1 then 1 else op)))) ds (by omega) hac' (by omega) hR hsd hsg hat' hrl (by
          rw [bj_pd_n (show (4 : Nat) ≠ 2 by omega)]
          exact bj_var hR hinv d1 hsm)
        refine ⟨oc, orf, Eq.trans ?_ g1, Eq.trans ?_ g2, g3⟩
        · have h1 := eq_col_t (ns := bj_c sgn R) hn6 hl1 (v := v) (by omega) d1 (fun c hc he => by
            have := hinv.2.2.1 c c0 (by omega) d1 (he.trans d2.symm)
            omega) d2
          refine (bu_55 (by omega) hlt (by rw [hkk, hvv]; exact bu_add1 (bu_addVar_t hR (by omega) (show c0 < 6 by omega) h1))).trans ?_
          exact bu_82 (by omega) hlt (c := ps_ck 2) (by decide) hkk (by decide) _
        · have h1 := mo_col_t (nv := nv) (by omega) hl2 (v := v) (by omega) d1 (fun c hc he => hinv.2.2.1 c c0 hc d1 (he.trans d2.symm)) d2
          rw [← hrv (Or.inr rfl)] at h1
          exact mo_t2_old hR (by omega) hrk (by omega) h1 hmany
      · have hno : ∀ c, c < nv → lt c ≠ v := fun c hc he => hex ⟨c, hc, he⟩
        have h1 := eq_col_f (ns := bj_c sgn R) hn6 hl1 (v := v) (by omega) hno
        have h2 := mo_col_f (nv := nv) (by omega) hl2 (v := v) (by omega) hno
        rw [← hrv (Or.inr rfl)] at h2
        by_cases hf : nv + bj_c sgn R = 6
        · rw [if_pos hf] at h1
          obtain ⟨ca', p1, _⟩ := bj_place (by omega) hinv
          refine ⟨(iI 2, iI R, iI sd, iI sg, iI op, rel, rep, pp j, iI ((R + 1 : Nat) : Int), iI nv, iI (bj_c sgn R), ca', cb, cl, c1, c2), _, ?_, mo_t2_full (by omega) hrk hf h2, ?_⟩
          · refine (bu_55 (by omega) hlt (by rw [hkk, hvv]; exact bu_add1 (bu_addVar_f h1))).trans ?_
            exact bu_flt (by omega) hlt (Or.inl rfl) p1
          · exact Or.inl ⟨2, p, Or.inl rfl, hpj, rfl, hpp, rfl, hrp⟩
        · rw [if_neg hf] at h1
          obtain ⟨oc, orf, g1, g2, g3⟩ := ih (j + 1) 4 r' sd sg (-1) R (nv + 1) (fun c => if c = nv then v else lt c) (fun r c => if r = R ∧ c = nv then A r c + sd * sg * (if op = -1 then 1 else op) else A r c) B sgn rel rep x4 wr (up2 ca R (upd (ca R) nv (ca R nv + iI (sd * sg * (if op = -1 then 1 else op))))) cb (upd cl nv (iI v)) c1 c2 (upd dl nv (iI v)) (upd dn (7 * R + nv) (dn (7 * R + nv) + iI (sd * sg * (if op = -1 then 1 else op)))) ds (by omega) hac' (by omega) hR hsd hsg hat' hrl (by
            rw [bj_pd_n (show (4 : Nat) ≠ 2 by omega)]
            exact bj_var hR (bj_new hinv (by omega) hv hno) (by omega) hsm)
          refine ⟨oc, orf, Eq.trans ?_ g1, Eq.trans ?_ g2, g3⟩
          · refine (bu_55 (by omega) hlt (by rw [hkk, hvv]; exact bu_add1 (bu_addVar_t hR (by omega) (show nv < 6 by omega) h1))).trans ?_
            exact bu_82 (by omega) hlt (c := ps_ck 2) (by decide) hkk (by decide) _
          · have h3 := mo_t2_new (sd := sd) (sg := sg) (x4 := x4) (wr := wr) (dn := dn) (ds := ds) (pp := rp) hR (show j < 301 by omega) hrk (show nv + bj_c sgn R < 6 by omega) h2 hmany
            rw [hrv (Or.inr rfl)] at h3
            exact h3
    · -- plus, minus
      have hsn : s' = 1 ∧ r' = r ∧ (ps_ov s = true ∨ s = 0) := by
        rcases e with rfl | rfl
        · have h0 : (if ps_ov s = true then some (1, r) else none) = some (s', r') := hnx
          split at h0
          · injection h0 with h0; injection h0 with h0 h00; exact ⟨h0.symm, h00.symm, Or.inl (by assumption)⟩
          · cases h0
        · have h0 : (if ps_ov s = true ∨ s = 0 then some (1, r) else none) = some (s', r') := hnx
          split at h0
          · injection h0 with h0; injection h0 with h0 h00; exact ⟨h0.symm, h00.symm, by assumption⟩
          · cases h0
      obtain ⟨rfl, rfl, z1⟩ := hsn
      have hpd : bj_pd k s sd sg op = if op = -1 then 0 else sd * sg * op := by
        rcases z1 with h | h
        · exact bj_pd_ov hat h (by omega)
        · rw [bj_pd_n (by omega), if_pos (hat.2.2.1 (by omega) (by omega))]
      have hi2 := bj_eb hR hinv hsd hsg hop hpd
      obtain ⟨oc, orf, g1, g2, g3⟩ := ih (j + 1) 1 r' sd (if k = 3 then 1 else -1) (-1) R nv lt A (fun r => if r = R then B r - bj_pd k s sd sg op else B r) sgn rel rep x4 wr ca (bu_eb R sd sg op cb) cl c1 c2 dl dn ds (by omega) hac' (by omega) hR hsd (by split <;> omega) ⟨fun q => by omega, fun q => by omega, fun _ _ => rfl, fun _ => Or.inr ⟨by omega, by rw [hx1]; omega, by rw [hx1]; omega⟩⟩ hrl (by
        rw [bj_pd_n (show (1 : Nat) ≠ 2 by omega)]
        exact hi2)
      refine ⟨oc, orf, Eq.trans ?_ g1, Eq.trans (mo_t3 (by omega) e hrk) g2, g3⟩
      rcases e with rfl | rfl
      · refine (bu_55 (by omega) hlt (by rw [hkk]; exact bu_add2 hR (by omega))).trans ?_
        exact bu_82 (by omega) hlt (c := ps_ck 3) (by decide) hkk (by decide) _
      · refine (bu_55 (by omega) hlt (by rw [hkk]; exact bu_add3 hR (by omega))).trans ?_
        exact bu_82 (by omega) hlt (c := ps_ck 4) (by decide) hkk (by decide) _
    · -- times
      subst e
      have hsn : s = 2 ∧ s' = 3 ∧ r' = r := by
        have h0 : (if s = 2 then some (3, r) else none) = some (s', r') := hnx
        split at h0
        · injection h0 with h0; injection h0 with h0 h00; exact ⟨by assumption, h0.symm, h00.symm⟩
        · cases h0
      obtain ⟨z1, rfl, rfl⟩ := hsn
      rw [show bj_pd 5 s sd sg op = 0 from if_neg (fun x => x.2 (Or.inr rfl))] at hinv
      obtain ⟨y1, y2, y3, y4, y5⟩ := hat.1 z1
      obtain ⟨oc, orf, g1, g2, g3⟩ := ih (j + 1) 3 r' sd sg op R nv lt A B sgn rel rep x4 wr ca cb cl c1 c2 dl dn ds (by omega) hac' (by omega) hR hsd hsg ⟨fun q => by omega, fun _ => ⟨by omega, hx1, by rw [show j + 1 - 2 = j - 1 by omega]; exact y2, by rw [show j + 1 - 2 = j - 1 by omega]; exact y3, y4, y5⟩, fun _ q => absurd rfl q, fun q => by omega⟩ hrl (by
        rw [bj_pd_n (show (3 : Nat) ≠ 2 by omega)]
        exact bj_mono hinv (by omega))
      refine ⟨oc, orf, Eq.trans ?_ g1, Eq.trans (mo_t5 (by omega) hrk) g2, g3⟩
      refine (bu_55 (by omega) hlt (by rw [hkk]; exact bu_add4)).trans ?_
      exact bu_82 (by omega) hlt (c := ps_ck 5) (by decide) hkk (by decide) _
    · -- the next row
      subst e
      have hsn : ps_ov s = true ∧ r = true ∧ s' = 0 ∧ r' = false := by
        have h0 : (if ps_ov s = true ∧ r = true then some (0, false) else none) = some (s', r') := hnx
        split at h0
        · rename_i h1
          injection h0 with h0; injection h0 with h0 h00; exact ⟨h1.1, h1.2, h0.symm, h00.symm⟩
        · cases h0
      obtain ⟨ho, rfl, rfl, rfl⟩ := hsn
      have hpd := bj_pd_ov (sd := sd) (sg := sg) (k := 6) hat ho (by omega)
      have hlt2 : j + 1 < X.length := by
        rcases Nat.lt_or_ge (j + 1) X.length with h | h
        · exact h
        · rw [List.drop_eq_nil_of_le h] at hac'
          exact absurd hac'.2 (by decide)
      obtain ⟨hkk2, hpp2, hvv2⟩ := bj_cls hc hlt2
      obtain ⟨hrk2, hrp2, hrv2⟩ := bj_ref_in hr hlt2
      have ht2 := htk (j + 1) hlt2
      have hpj2 := hpl (j + 1) hlt2
      rcases bj_rowend hX hpl hr (show j ≤ X.length by omega) hR hsd hsg hop hpd hinv hrl (wr := wr) (Or.inl hK) with ⟨fc, pl, ns', cb', c1', c2', ca', orf, f1, f2, f3, f4, f5, f6, f7⟩ | ⟨B', sgn', cb', c1', c2', ds', g1, g2, g3⟩
      · refine ⟨(iI fc, iI R, iI sd, iI sg, iI op, rel, rep, iI pl, iI ((R + 1 : Nat) : Int), iI nv, ns', ca', cb', cl, c1', c2'), orf, ?_, f5, Or.inl ⟨fc, pl, f1, f2, rfl, rfl, f6, f7⟩⟩
        refine (bu_55 (by omega) hlt (by rw [hkk]; exact bu_add5 f3)).trans ?_
        exact bu_flt (by omega) hlt f1 f4
      · have hcl : bu_V X.length kk pp vv j (iI R, iI sd, iI sg, iI op, rel, rep, -1, iI ((R + 1 : Nat) : Int), iI nv, iI (bj_c sgn R), ca, cb, cl, c1, c2) = sm_tot (fn_BU_build (iI X.length) kk pp vv) (44, 0, iI ((j + 1 : Nat) : Int), iI R, iI sd, iI sg, iI op, rel, rep, -1, iI ((R + 1 : Nat) : Int), iI nv, iI (bj_c sgn' (R + 1)), ca, cb', cl, c1', c2') :=
          (bu_55 (by omega) hlt (by rw [hkk]; exact bu_add5 g2)).trans (bu_82s (by omega) hlt2 hkk _)
        have hre := mo_38 (kk := rk) (pp := rp) (vv := rv) (wr := wr) (nv := nv) (ns := bj_c sgn' (R + 1)) (R := R + 1) (dl := dl) (dn := dn) (ds := ds') (show j + 1 < 301 by omega) (k := (X.getD (j + 1) ps_z).1) (by unfold ps_tk at ht2; omega) hrk2 (by omega)
        rw [if_neg (show ¬ (X.getD (j + 1) ps_z).1 = 0 by unfold ps_tk at ht2; omega)] at hre
        rw [hK, if_pos (show (6 : Int) = 6 from rfl), hre] at g3
        by_cases h4 : R + 1 = 4
        · rw [if_pos h4] at g3
          obtain ⟨ca', p1, _⟩ := bj_place (by omega) g1
          refine ⟨(iI 2, iI R, iI sd, iI sg, iI op, rel, rep, pp (j + 1), iI 4, iI nv, iI (bj_c sgn' (R + 1)), ca', cb', cl, c1', c2'), _, ?_, g3, Or.inl ⟨2, (X.getD (j + 1) ps_z).2.1, Or.inl rfl, hpj2, rfl, hpp2, rfl, hrp2⟩⟩
          rw [hcl, show ((R + 1 : Nat) : Int) = 4 by omega]
          exact bu_44f (by omega) hlt2 p1
        · rw [if_neg h4] at g3
          obtain ⟨oc, orf, e1, e2, e3⟩ := ih (j + 1) 0 false 1 1 (-1) (R + 1) nv lt A B' sgn' rel rep (iI ((j + 1 : Nat) : Int)) wr ca cb' cl c1' c2' dl dn ds' (by omega) hac' (by omega) (by omega) (Or.inl rfl) (Or.inl rfl) ⟨fun q => by omega, fun q => by omega, fun _ _ => rfl, fun _ => Or.inr ⟨by omega, by rw [hx1]; omega, by rw [hx1]; omega⟩⟩ (fun q => by cases q) (by
            rw [bj_pd_n (show (0 : Nat) ≠ 2 by omega)]
            exact g1)
          exact ⟨oc, orf, (hcl.trans (bu_44 (by omega) hlt2 (by omega))).trans e1, g3.trans e2, e3⟩
    · -- a relation
      have hsn : ps_ov s = true ∧ s' = 0 ∧ r' = true := by
        have h0 : (if ps_ov s = true ∧ r = false then some (0, true) else none) = some (s', r') := by
          rcases e with rfl | rfl | rfl <;> exact hnx
        split at h0
        · rename_i h1
          injection h0 with h0; injection h0 with h0 h00; exact ⟨h1.1, h0.symm, h00.symm⟩
        · cases h0
      obtain ⟨ho, rfl, rfl⟩ := hsn
      have hpd := bj_pd_ov (sd := sd) (sg := sg) (k := k) hat ho (by omega)
      have hi2 := bj_eb hR hinv hsd hsg hop hpd
      obtain ⟨oc, orf, g1, g2, g3⟩ := ih (j + 1) 0 true (-1) 1 (-1) R nv lt A (fun r => if r = R then B r - bj_pd k s sd sg op else B r) sgn (iI (k - 1)) (pp j) (iI j) wr ca (bu_eb R sd sg op cb) cl c1 c2 dl dn ds (by omega) hac' (by omega) hR (Or.inr rfl) (Or.inl rfl) ⟨fun q => by omega, fun q => by omega, fun _ _ => rfl, fun _ => Or.inr ⟨by omega, by rw [hx1]; omega, by rw [hx1]; omega⟩⟩ (fun _ => ⟨j, k, hlt, e, by rw [hx], rfl, by rw [hx]; exact hpp, rfl⟩) (by
        rw [bj_pd_n (show (0 : Nat) ≠ 2 by omega)]
        exact hi2)
      refine ⟨oc, orf, Eq.trans ?_ g1, Eq.trans (mo_t7 (by omega) e hrk) g2, g3⟩
      refine (bu_55 (by omega) hlt (by rw [hkk]; exact bu_add6 hR (by omega) e)).trans ?_
      refine bu_82 (by omega) hlt (c := ps_ck k) ?_ hkk ?_ _
      · rcases e with rfl | rfl | rfl <;> decide
      · rcases e with rfl | rfl | rfl <;> decide
end BJN
