/-! what is told: holds, tell, cost, times, bestAt, at -/
def jv (n : Nat) (v : Nat → Int) (ct cu : Nat → Int32) : Prop := (∀ c, c < 6 → ct c = iI (v c)) ∧ (∀ c, (v c).natAbs ≤ 99) ∧ (∀ c, n ≤ c → v c = 0) ∧ ∀ c, c < n → cu c = iI (v c)
theorem sx_alf_z {v : Nat → Int} {n : Nat} (hn : n ≤ 6) (hz : ∀ c, n ≤ c → v c = 0) : sx_alf (fun j => decide (0 ≤ v j)) 6 0 = sx_alf (fun j => decide (0 ≤ v j)) n 0 := by
  rw [Bool.eq_iff_iff, sx_alf_iff, sx_alf_iff]
  constructor
  · intro h j h1 h2
    exact h j h1 (by omega)
  · intro h j h1 h2
    by_cases q : j < n
    · exact h j h1 (by omega)
    · have := hz j (by omega)
      exact decide_eq_true (by omega)
section J4
variable {kn : Bool} {m nv ns : Nat} {lt : Nat → Int} {A : Nat → Nat → Int} {B : Nat → Int} {hs ro va sl : Int32} {sa : Nat → Nat → Int32} {sb slt : Nat → Int32} {kv he : Int32} {bs : Nat → Nat → Int64} {ra kr : Nat → Int32} {kno mro mva mco : Int32} {mlt mnu : Nat → Int32}
theorem jn_holds (h : js true m nv ns lt A B hs ro va sl sa sb slt kv he bs ra kr kno mro mva mco mlt mnu) {v : Nat → Int} {ct cu : Nat → Int32} (hv : jv (nv + ns) v ct cu) (th : Int32) (co : Nat → Int64) :
    ∃ r1 r2, sm_tot (fn_LW_holds hs ro va sl ct sa sb) (0, co) = some r1 ∧ sm_tot (fn_MO_holds kno mro mco mnu cu) (0, 0, 0, th) = some r2 ∧ r2.2 = r1.1 ∧ r1.1 = 0 ∧ lg_cmp (r1.2 (0 : Int32).toNatClampNeg) (r2.1 : Int32).toInt64 = 0 := by
  obtain ⟨rfl, rfl, hm, hn, ha, hb, rfl, rfl, rfl, pa, pb, pl, hT, hF⟩ := h
  obtain ⟨rfl, rfl, rfl, hM, hL⟩ := hT rfl
  obtain ⟨v1, v2, v3, v4⟩ := hv
  have sA : ∀ hom : Bool, sm_tot (fn_EQ_solvedBy (bI hom) (iI m) (iI nv) (iI ns) sa sb ct) (0, 0, 0, 0, 0) = some (bI (sx_sol m (nv + ns) A (se_b hom B) v)) := fun hom => eq_solved hm hn (fun r c h1 h2 => ⟨pa r c h1 h2, ha r c⟩) (fun r h1 => ⟨pb r h1, hb r⟩) (fun c h1 => ⟨v1 c (by omega), by have := v2 c; omega⟩)
  have sB : ∀ wb : Bool, sm_tot (fn_MO_solves 6 cu (bI wb) (iI m) (iI ((nv + ns : Nat) : Int)) mnu) (0, 0, 0, 0, 0, 0, 0) = some (bI (sx_sol m (nv + ns) A (fun r => if wb = true then B r else 0) v)) := fun wb => mo_solves hm hn hM.2.2.1 hM.2.2.2 (fun c h1 => ⟨v4 c h1, by have := v2 c; omega⟩)
  obtain ⟨X, x1, x2⟩ : ∃ X : Bool, sm_tot (fn_EQ_solvedBy 0 (iI m) (iI nv) (iI ns) sa sb ct) (0, 0, 0, 0, 0) = some (bI X) ∧ sm_tot (fn_MO_solves 6 cu 1 (iI m) (iI ((nv + ns : Nat) : Int)) mnu) (0, 0, 0, 0, 0, 0, 0) = some (bI X) := ⟨_, sA false, sB true⟩
  obtain ⟨Y, y1, y2⟩ : ∃ X : Bool, sm_tot (fn_EQ_solvedBy 1 (iI m) (iI nv) (iI ns) sa sb ct) (0, 0, 0, 0, 0) = some (bI X) ∧ sm_tot (fn_MO_solves 6 cu 0 (iI m) (iI ((nv + ns : Nat) : Int)) mnu) (0, 0, 0, 0, 0, 0, 0) = some (bI X) := ⟨_, sA true, sB false⟩
  obtain ⟨Z, z1, z2⟩ : ∃ X : Bool, sm_tot (fn_LS_isBelowZero ct) (0, 0, 0) = some (bI (!X)) ∧ sm_tot (fn_MO_isPlain (iI ((nv + ns : Nat) : Int)) cu) (0, 0, 0, 0) = some (bI X) := ⟨sx_alf (fun j => decide (0 ≤ v j)) (nv + ns) 0, by rw [← sx_alf_z hn v3]; exact ls_below (fun c h1 => ⟨v1 c h1, by have := v2 c; omega⟩), mo_plain hn (fun c h1 => ⟨v4 c h1, by have := v2 c; omega⟩)⟩
  have c60 : ∀ a b, sm_tot (fn_LS_holds (bI true) (iI m) (iI nv) (iI ns) ct sa sb) (60, a, b) = some (b + a) := by
    intro a b
    rw [sm_tot_u, fn_LS_holds_q60]
    rfl
  have c44 : ∀ a b, sm_tot (fn_LS_holds (bI true) (iI m) (iI nv) (iI ns) ct sa sb) (44, a, b) = some (b + a + bif Z then 4 else 0) := by
    intro a b
    rw [sm_tot_u, fn_LS_holds_q44]
    unfold fn_LS_holds_b44
    rw [z1, Option.bind_some]
    cases Z with
    | true => rw [if_pos (show bI (!true) = 0 from rfl), sm_ev_l, c60]; rfl
    | false => rw [if_neg (show ¬ bI (!false) = 0 by decide), sm_ev_l, c60]; rfl
  have c24 : ∀ a b, sm_tot (fn_LS_holds (bI true) (iI m) (iI nv) (iI ns) ct sa sb) (24, a, b) = some ((a + bif Y then 2 else 0) + bif Z then 4 else 0) := by
    intro a b
    rw [sm_tot_u, fn_LS_holds_q24]
    unfold fn_LS_holds_b24
    rw [y1, Option.bind_some]
    cases Y with
    | true => rw [if_neg bI_t, sm_ev_l, c44]; rfl
    | false => rw [if_pos bI_f, sm_ev_l, c44]; rfl
  have c0 : sm_tot (fn_LS_holds (bI true) (iI m) (iI nv) (iI ns) ct sa sb) (0, 0, 0) = some ((((bif X then 1 else 0) + bif Y then 2 else 0) + bif Z then 4 else 0)) := by
    rw [sm_tot_u, fn_LS_holds_q0]
    unfold fn_LS_holds_b0
    rw [show sm_tot (fn_LS_needSystem (bI true)) 0 = some () from ls_system, Option.bind_some, x1, Option.bind_some]
    cases X with
    | true => rw [if_neg bI_t, sm_ev_l, c24]; rfl
    | false => rw [if_pos bI_f, sm_ev_l, c24]; rfl
  have e75 : ∀ a b w, sm_tot (fn_MO_holds (bI true) (iI m) (iI ((nv + ns : Nat) : Int)) mnu cu) (75, a, b, w) = some (a, w) := by
    intro a b w
    rw [sm_tot_u, fn_MO_holds_q75]
    rfl
  have e74 : ∀ a b w, sm_tot (fn_MO_holds (bI true) (iI m) (iI ((nv + ns : Nat) : Int)) mnu cu) (74, a, b, w) = some (b + a, w) := by
    intro a b w
    rw [sm_tot_u, fn_MO_holds_q74]
    unfold fn_MO_holds_b74
    rw [sm_ev_l, e75]
  have e61 : ∀ a b w, sm_tot (fn_MO_holds (bI true) (iI m) (iI ((nv + ns : Nat) : Int)) mnu cu) (61, a, b, w) = some (b + a + (bif Z then 4 else 0), w) := by
    intro a b w
    rw [sm_tot_u, fn_MO_holds_q61]
    unfold fn_MO_holds_b61
    rw [z2, Option.bind_some]
    cases Z with
    | true => rw [if_neg bI_t, sm_ev_l, e74]; rfl
    | false => rw [if_pos bI_f, sm_ev_l, e74]; rfl
  have e44 : ∀ a b w, sm_tot (fn_MO_holds (bI true) (iI m) (iI ((nv + ns : Nat) : Int)) mnu cu) (44, a, b, w) = some ((a + bif Y then 2 else 0) + (bif Z then 4 else 0), w) := by
    intro a b w
    rw [sm_tot_u, fn_MO_holds_q44]
    unfold fn_MO_holds_b44
    rw [y2, Option.bind_some]
    cases Y with
    | true => rw [if_neg bI_t, sm_ev_l, e61]; rfl
    | false => rw [if_pos bI_f, sm_ev_l, e61]; rfl
  refine ⟨(0, vp_updL co (0 : Int32).toNatClampNeg (((((bif X then 1 else 0) + bif Y then 2 else 0) + bif Z then 4 else 0) : Int32)).toInt64), ((((bif X then 1 else 0) + bif Y then 2 else 0) + bif Z then 4 else 0), 0), ?_, ?_, rfl, rfl, lg_1 rfl rfl⟩
  · rw [sm_tot_u, fn_LW_holds_q0]
    unfold fn_LW_holds_b0
    rw [c0, Option.bind_some, if_pos (by decide)]
    rfl
  · rw [sm_tot_u, fn_MO_holds_q0]
    unfold fn_MO_holds_b0
    rw [if_neg bI_t, sm_ev_l, sm_tot_u, fn_MO_holds_q13]
    unfold fn_MO_holds_b13
    rw [if_pos (by decide), x2, Option.bind_some]
    cases X with
    | true => rw [if_neg bI_t, sm_ev_l, e44]; rfl
    | false => rw [if_pos bI_f, sm_ev_l, e44]; rfl
theorem jn_holds_S (th v1 v2 : Int32) (cu : Nat → Int32) : ∃ r1 r2, sm_tot (fn_LW_holds_S 0) 0 = some r1 ∧ sm_tot (fn_MO_holds 0 v1 v2 mnu cu) (0, 0, 0, th) = some r2 ∧ r2.2 = r1 ∧ ¬ r1 = 0 := by
  refine ⟨1, (0, 1), ?_, ?_, rfl, by decide⟩
  · rw [sm_tot_u, fn_LW_holds_S_q0]
    unfold fn_LW_holds_S_b0
    rw [sm_tot_u, fx_LS_holds_S_q0]
    unfold fx_LS_holds_S_b0
    rw [ls_sysN]
    rfl
  · rw [sm_tot_u, fn_MO_holds_q0]
    unfold fn_MO_holds_b0
    rw [if_pos rfl, sm_ev_l, sm_tot_u, fn_MO_holds_q13]
    unfold fn_MO_holds_b13
    rw [if_neg (by decide), sm_ev_l, sm_tot_u, fn_MO_holds_q75]
    rfl
theorem jn_tell (h : js kn m nv ns lt A B hs ro va sl sa sb slt kv he bs ra kr kno mro mva mco mlt mnu) {v : Nat → Int} {ct cu : Nat → Int32} (hv : jv (nv + ns) v ct cu) (x y th : Int32) :
    (∃ r1 r2 w, sm_tot (fn_LW_tell x y va sl) (0, ct) = some r1 ∧ sm_tot (fn_MO_tell x y kno mco) (0, 0, th, cu) = some r2 ∧ r2.1 = r1.1 ∧ jv (nv + ns) w r1.2 r2.2) ∨
    (∃ r1 r2, sm_tot (fn_LW_tell_O x y va sl) 0 = some r1 ∧ sm_tot (fn_MO_tell x y kno mco) (0, 0, th, cu) = some r2 ∧ r2.1 = r1 ∧ r2.2 = cu) ∨
    (∃ r1 r2, sm_tot (fn_LW_tell_A x y va sl) (0, ct) = some r1 ∧ sm_tot (fn_MO_tell x y kno mco) (0, 0, th, cu) = some r2 ∧ r2.1 = r1.1 ∧ r1.2 = ct ∧ r2.2 = cu) := by
  obtain ⟨rfl, rfl, hm, hn, ha, hb, rfl, rfl, rfl, pa, pb, pl, hT, hF⟩ := h
  obtain ⟨z, rfl, h1, h2⟩ := ii_of x
  obtain ⟨y, rfl, g1, g2⟩ := ii_of y
  obtain ⟨v1, v2, v3, v4⟩ := hv
  have hcol : sm_tot (fn_MO_isColumn (iI z) (bI kn) mco) (0, 0) = some (bI (decide (0 ≤ z ∧ z < ((nv + ns : Nat) : Int)))) := mo_isColumn hn (fun q => (hT q).2.2.1) (fun q => by have := hF q; omega) h1 h2
  have e47 : ∀ a w u, sm_tot (fn_MO_tell (iI z) (iI y) (bI kn) mco) (47, a, w, u) = some (w, u) := by
    intro a w u
    rw [sm_tot_u, fn_MO_tell_q47]
    rfl
  by_cases qc : 0 ≤ z ∧ z < ((nv + ns : Nat) : Int)
  · by_cases qt : -99 ≤ y ∧ y ≤ 99
    · left
      obtain ⟨k, rfl⟩ : ∃ k : Nat, z = k := ⟨z.toNat, by omega⟩
      refine ⟨(0, upd ct k (iI y)), (0, upd cu k (iI y)), fun c => if c = k then y else v c, ?_, ?_, rfl, ?_⟩
      · rw [sm_tot_u, fn_LW_tell_q0]
        unfold fn_LW_tell_b0
        rw [sm_tot_u, fn_LS_tell_q0]
        unfold fn_LS_tell_b0
        rw [ls_colY hn h1 h2 qc, Option.bind_some, ls_telY g1 g2 qt, Option.bind_some, if_pos (ii_g (a := (k : Int)) (N := 6) (by omega) (by omega) (by omega)), ii_nat h1 h2, Int.toNat_natCast]
        rfl
      · rw [sm_tot_u, fn_MO_tell_q0]
        unfold fn_MO_tell_b0
        rw [hcol, Option.bind_some, decide_eq_true qc, if_neg bI_t, if_neg (show ¬ iI y < -99 by rw [show (-99 : Int32) = iI (-99) from rfl, ii_lt g1 g2 (by omega) (by omega)]; omega), if_pos (show iI y ≤ 99 by rw [il_99, ii_le g1 g2 (by omega) (by omega)]; omega), sm_ev_l, sm_tot_u, fn_MO_tell_q30]
        unfold fn_MO_tell_b30
        rw [if_pos rfl, if_pos (ii_g (a := (k : Int)) (N := 6) (by omega) (by omega) (by omega)), sm_ev_l, e47, ii_nat h1 h2, Int.toNat_natCast]
      · refine ⟨fun c hc => ?_, fun c => ?_, fun c hc => ?_, fun c hc => ?_⟩
        · show (if c = k then iI y else ct c) = iI (if c = k then y else v c)
          by_cases q : c = k
          · rw [if_pos q, if_pos q]
          · rw [if_neg q, if_neg q, v1 c hc]
        · show (if c = k then y else v c).natAbs ≤ 99
          by_cases q : c = k
          · rw [if_pos q]; omega
          · rw [if_neg q]; exact v2 c
        · show (if c = k then y else v c) = 0
          rw [if_neg (by omega), v3 c hc]
        · show (if c = k then iI y else cu c) = iI (if c = k then y else v c)
          by_cases q : c = k
          · rw [if_pos q, if_pos q]
          · rw [if_neg q, if_neg q, v4 c hc]
    · right; right
      refine ⟨(2, ct), (2, cu), ?_, ?_, rfl, rfl, rfl⟩
      · rw [sm_tot_u, fn_LW_tell_A_q0]
        unfold fn_LW_tell_A_b0
        rw [sm_tot_u, fx_LS_tell_A_q0]
        unfold fx_LS_tell_A_b0
        rw [ls_colY hn h1 h2 qc, Option.bind_some, ls_telN g1 g2 qt]
        rfl
      · have e30 : sm_tot (fn_MO_tell (iI z) (iI y) (bI kn) mco) (25, 0, th, cu) = some (2, cu) := by
          rw [sm_tot_u, fn_MO_tell_q25]
          unfold fn_MO_tell_b25
          rw [sm_ev_l, sm_tot_u, fn_MO_tell_q30]
          unfold fn_MO_tell_b30
          rw [if_neg (by decide), sm_ev_l, e47]
        rw [sm_tot_u, fn_MO_tell_q0]
        unfold fn_MO_tell_b0
        rw [hcol, Option.bind_some, decide_eq_true qc, if_neg bI_t]
        by_cases q : y < -99
        · rw [if_pos (show iI y < -99 by rw [show (-99 : Int32) = iI (-99) from rfl, ii_lt g1 g2 (by omega) (by omega)]; omega), sm_ev_l, e30]
        · rw [if_neg (show ¬ iI y < -99 by rw [show (-99 : Int32) = iI (-99) from rfl, ii_lt g1 g2 (by omega) (by omega)]; omega), if_neg (show ¬ iI y ≤ 99 by rw [il_99, ii_le g1 g2 (by omega) (by omega)]; omega), sm_ev_l, e30]
  · right; left
    refine ⟨1, (1, cu), ?_, ?_, rfl, rfl⟩
    · rw [sm_tot_u, fn_LW_tell_O_q0]
      unfold fn_LW_tell_O_b0
      rw [sm_tot_u, fx_LS_tell_O_q0]
      unfold fx_LS_tell_O_b0
      rw [ls_colN hn h1 h2 qc]
      rfl
    · rw [sm_tot_u, fn_MO_tell_q0]
      unfold fn_MO_tell_b0
      rw [hcol, Option.bind_some, decide_eq_false qc, if_pos bI_f, sm_ev_l, sm_tot_u, fn_MO_tell_q30]
      unfold fn_MO_tell_b30
      rw [if_neg (by decide), sm_ev_l, e47]
theorem jn_cost (h : js kn m nv ns lt A B hs ro va sl sa sb slt kv he bs ra kr kno mro mva mco mlt mnu) {v : Nat → Int} {ct cu : Nat → Int32} (hv : jv (nv + ns) v ct cu) (x y th : Int32) :
    (∃ r1 r2 w, sm_tot (fn_LW_cost x y va sl) (0, ct) = some r1 ∧ sm_tot (fn_MO_cost x y kno mco) (0, 0, th, cu) = some r2 ∧ r2.1 = r1.1 ∧ jv (nv + ns) w r1.2 r2.2) ∨
    (∃ r1 r2, sm_tot (fn_LW_cost_O x y va sl) 0 = some r1 ∧ sm_tot (fn_MO_cost x y kno mco) (0, 0, th, cu) = some r2 ∧ r2.1 = r1 ∧ r2.2 = cu) ∨
    (∃ r1 r2, sm_tot (fn_LW_cost_A x y va sl) (0, ct) = some r1 ∧ sm_tot (fn_MO_cost x y kno mco) (0, 0, th, cu) = some r2 ∧ r2.1 = r1.1 ∧ r1.2 = ct ∧ r2.2 = cu) := by
  obtain ⟨rfl, rfl, hm, hn, ha, hb, rfl, rfl, rfl, pa, pb, pl, hT, hF⟩ := h
  obtain ⟨z, rfl, h1, h2⟩ := ii_of x
  obtain ⟨y, rfl, g1, g2⟩ := ii_of y
  obtain ⟨v1, v2, v3, v4⟩ := hv
  have hcol : sm_tot (fn_MO_isColumn (iI z) (bI kn) mco) (0, 0) = some (bI (decide (0 ≤ z ∧ z < ((nv + ns : Nat) : Int)))) := mo_isColumn hn (fun q => (hT q).2.2.1) (fun q => by have := hF q; omega) h1 h2
  have e47 : ∀ a w u, sm_tot (fn_MO_cost (iI z) (iI y) (bI kn) mco) (47, a, w, u) = some (w, u) := by
    intro a w u
    rw [sm_tot_u, fn_MO_cost_q47]
    rfl
  by_cases qc : 0 ≤ z ∧ z < ((nv + ns : Nat) : Int)
  · by_cases qt : -99 ≤ y ∧ y ≤ 99
    · left
      obtain ⟨k, rfl⟩ : ∃ k : Nat, z = k := ⟨z.toNat, by omega⟩
      refine ⟨(0, upd ct k (iI y)), (0, upd cu k (iI y)), fun c => if c = k then y else v c, ?_, ?_, rfl, ?_⟩
      · rw [sm_tot_u, fn_LW_cost_q0]
        unfold fn_LW_cost_b0
        rw [sm_tot_u, fn_LS_cost_q0]
        unfold fn_LS_cost_b0
        rw [ls_colY hn h1 h2 qc, Option.bind_some, ls_telY g1 g2 qt, Option.bind_some, if_pos (ii_g (a := (k : Int)) (N := 6) (by omega) (by omega) (by omega)), ii_nat h1 h2, Int.toNat_natCast]
        rfl
      · rw [sm_tot_u, fn_MO_cost_q0]
        unfold fn_MO_cost_b0
        rw [hcol, Option.bind_some, decide_eq_true qc, if_neg bI_t, if_neg (show ¬ iI y < -99 by rw [show (-99 : Int32) = iI (-99) from rfl, ii_lt g1 g2 (by omega) (by omega)]; omega), if_pos (show iI y ≤ 99 by rw [il_99, ii_le g1 g2 (by omega) (by omega)]; omega), sm_ev_l, sm_tot_u, fn_MO_cost_q30]
        unfold fn_MO_cost_b30
        rw [if_pos rfl, if_pos (ii_g (a := (k : Int)) (N := 6) (by omega) (by omega) (by omega)), sm_ev_l, e47, ii_nat h1 h2, Int.toNat_natCast]
      · refine ⟨fun c hc => ?_, fun c => ?_, fun c hc => ?_, fun c hc => ?_⟩
        · show (if c = k then iI y else ct c) = iI (if c = k then y else v c)
          by_cases q : c = k
          · rw [if_pos q, if_pos q]
          · rw [if_neg q, if_neg q, v1 c hc]
        · show (if c = k then y else v c).natAbs ≤ 99
          by_cases q : c = k
          · rw [if_pos q]; omega
          · rw [if_neg q]; exact v2 c
        · show (if c = k then y else v c) = 0
          rw [if_neg (by omega), v3 c hc]
        · show (if c = k then iI y else cu c) = iI (if c = k then y else v c)
          by_cases q : c = k
          · rw [if_pos q, if_pos q]
          · rw [if_neg q, if_neg q, v4 c hc]
    · right; right
      refine ⟨(2, ct), (2, cu), ?_, ?_, rfl, rfl, rfl⟩
      · rw [sm_tot_u, fn_LW_cost_A_q0]
        unfold fn_LW_cost_A_b0
        rw [sm_tot_u, fx_LS_cost_A_q0]
        unfold fx_LS_cost_A_b0
        rw [ls_colY hn h1 h2 qc, Option.bind_some, ls_telN g1 g2 qt]
        rfl
      · have e30 : sm_tot (fn_MO_cost (iI z) (iI y) (bI kn) mco) (25, 0, th, cu) = some (2, cu) := by
          rw [sm_tot_u, fn_MO_cost_q25]
          unfold fn_MO_cost_b25
          rw [sm_ev_l, sm_tot_u, fn_MO_cost_q30]
          unfold fn_MO_cost_b30
          rw [if_neg (by decide), sm_ev_l, e47]
        rw [sm_tot_u, fn_MO_cost_q0]
        unfold fn_MO_cost_b0
        rw [hcol, Option.bind_some, decide_eq_true qc, if_neg bI_t]
        by_cases q : y < -99
        · rw [if_pos (show iI y < -99 by rw [show (-99 : Int32) = iI (-99) from rfl, ii_lt g1 g2 (by omega) (by omega)]; omega), sm_ev_l, e30]
        · rw [if_neg (show ¬ iI y < -99 by rw [show (-99 : Int32) = iI (-99) from rfl, ii_lt g1 g2 (by omega) (by omega)]; omega), if_neg (show ¬ iI y ≤ 99 by rw [il_99, ii_le g1 g2 (by omega) (by omega)]; omega), sm_ev_l, e30]
  · right; left
    refine ⟨1, (1, cu), ?_, ?_, rfl, rfl⟩
    · rw [sm_tot_u, fn_LW_cost_O_q0]
      unfold fn_LW_cost_O_b0
      rw [sm_tot_u, fx_LS_cost_O_q0]
      unfold fx_LS_cost_O_b0
      rw [ls_colN hn h1 h2 qc]
      rfl
    · rw [sm_tot_u, fn_MO_cost_q0]
      unfold fn_MO_cost_b0
      rw [hcol, Option.bind_some, decide_eq_false qc, if_pos bI_f, sm_ev_l, sm_tot_u, fn_MO_cost_q30]
      unfold fn_MO_cost_b30
      rw [if_neg (by decide), sm_ev_l, e47]
theorem jn_times {sp th : Bool} {tot : Int32} {cs ta ti : Nat → Int32} {l : Nat} (hl : l ≤ 2000) (hth : th = true → tot = iI l) (hsp : sp = true → th = true ∧ cs 0 = iI l ∧ ∀ j, j < l → ta j = ti j) (x w : Int32) : ∃ r1 r2, sm_tot (fn_LS_times x (bI sp) (bI th) tot ta) (0, 0) = some r1 ∧ sm_tot (fn_MO_times x (bI sp) cs ti) (0, 0, w) = some r2 ∧ r1 = r2.1 := by
  obtain ⟨z, rfl, h1, h2⟩ := ii_of x
  have c30 : ∀ s, sm_tot (fn_LS_times (iI z) (bI sp) (bI th) tot ta) (30, s) = some s := by
    intro s
    rw [sm_tot_u, fn_LS_times_q30]
    rfl
  have c29 : ∀ s, sm_tot (fn_LS_times (iI z) (bI sp) (bI th) tot ta) (29, s) = some (-1) := by
    intro s
    rw [sm_tot_u, fn_LS_times_q29]
    unfold fn_LS_times_b29
    rw [sm_ev_l, c30]
  have e36 : ∀ s w, sm_tot (fn_MO_times (iI z) (bI sp) cs ti) (36, s, w) = some (s, w) := by
    intro s w
    rw [sm_tot_u, fn_MO_times_q36]
    rfl
  have e35 : ∀ s w, sm_tot (fn_MO_times (iI z) (bI sp) cs ti) (35, s, w) = some (-1, w) := by
    intro s w
    rw [sm_tot_u, fn_MO_times_q35]
    unfold fn_MO_times_b35
    rw [sm_ev_l, e36]
  have hz : z < 0 → iI z < 0 := fun q => by rw [il_0, ii_lt h1 h2 (by omega) (by omega)]; exact q
  have hz' : ¬ z < 0 → ¬ iI z < 0 := fun q => by rw [il_0, ii_lt h1 h2 (by omega) (by omega)]; exact q
  cases sp with
  | false =>
    refine ⟨-1, (-1, 0), ?_, ?_, rfl⟩
    · rw [sm_tot_u, fn_LS_times_q0]
      unfold fn_LS_times_b0
      rw [if_pos bI_f, sm_ev_l, c29]
    · rw [sm_tot_u, fn_MO_times_q0]
      unfold fn_MO_times_b0
      rw [if_pos bI_f, sm_ev_l, e35]
  | true =>
    obtain ⟨rfl, s2, s3⟩ := hsp rfl
    have hh := vl_has (z := z) (th := true) hl hth h1 h2
    rw [Bool.true_and] at hh
    by_cases q : 0 ≤ z ∧ z < (l : Int)
    · obtain ⟨k, rfl⟩ : ∃ k : Nat, z = k := ⟨z.toNat, by omega⟩
      refine ⟨ta k, (ti k, 0), ?_, ?_, s3 k (by omega)⟩
      · rw [sm_tot_u, fn_LS_times_q0]
        unfold fn_LS_times_b0
        rw [if_neg bI_t, hh, Option.bind_some, decide_eq_true q, if_neg bI_t, if_pos (ii_g (a := (k : Int)) (N := 2000) (by omega) (by omega) (by omega)), sm_ev_l, c30, ii_nat h1 h2, Int.toNat_natCast]
      · rw [sm_tot_u, fn_MO_times_q0]
        unfold fn_MO_times_b0
        rw [if_neg bI_t, if_neg (hz' (by omega)), if_pos (by decide), if_neg (show ¬ cs (0 : Int32).toNatClampNeg ≤ iI (k : Int) from by show ¬ cs 0 ≤ iI (k : Int); rw [s2, ii_le (by omega) (by omega) h1 h2]; omega), if_pos (ii_g (a := (k : Int)) (N := 2000) (by omega) (by omega) (by omega)), sm_ev_l, e36, ii_nat h1 h2, Int.toNat_natCast]
    · refine ⟨-1, (-1, 0), ?_, ?_, rfl⟩
      · rw [sm_tot_u, fn_LS_times_q0]
        unfold fn_LS_times_b0
        rw [if_neg bI_t, hh, Option.bind_some, decide_eq_false q, if_pos bI_f, sm_ev_l, c29]
      · rw [sm_tot_u, fn_MO_times_q0]
        unfold fn_MO_times_b0
        rw [if_neg bI_t]
        by_cases q1 : z < 0
        · rw [if_pos (hz q1), sm_ev_l, e35]
        · rw [if_neg (hz' q1), if_pos (by decide), if_pos (show cs (0 : Int32).toNatClampNeg ≤ iI z from by show cs 0 ≤ iI z; rw [s2, ii_le (by omega) (by omega) h1 h2]; omega), sm_ev_l, e35]
theorem jn_bestAt (h : js kn m nv ns lt A B hs ro va sl sa sb slt kv he bs ra kr kno mro mva mco mlt mnu) {be : Bool} {bv bo : Nat → Int32} (hbe : be = true → ∀ c, c < nv + ns → bv c = bo c) (x w : Int32) : ∃ r1 r2, sm_tot (fn_LS_bestAt x (bI be) va sl bv) (0, 0) = some r1 ∧ sm_tot (fn_MO_bestAt x kno mco (bI be) bo) (0, 0, w) = some r2 ∧ r1 = r2.1 := by
  obtain ⟨rfl, rfl, hm, hn, ha, hb, rfl, rfl, rfl, pa, pb, pl, hT, hF⟩ := h
  obtain ⟨z, rfl, h1, h2⟩ := ii_of x
  have hcol : sm_tot (fn_MO_isColumn (iI z) (bI kn) mco) (0, 0) = some (bI (decide (0 ≤ z ∧ z < ((nv + ns : Nat) : Int)))) := mo_isColumn hn (fun q => (hT q).2.2.1) (fun q => by have := hF q; omega) h1 h2
  have c30 : ∀ s, sm_tot (fn_LS_bestAt (iI z) (bI be) (iI nv) (iI ns) bv) (25, s) = some s := by
    intro s
    rw [sm_tot_u, fn_LS_bestAt_q25]
    rfl
  have c29 : ∀ s, sm_tot (fn_LS_bestAt (iI z) (bI be) (iI nv) (iI ns) bv) (24, s) = some (-1) := by
    intro s
    rw [sm_tot_u, fn_LS_bestAt_q24]
    unfold fn_LS_bestAt_b24
    rw [sm_ev_l, c30]
  have e36 : ∀ s w, sm_tot (fn_MO_bestAt (iI z) (bI kn) mco (bI be) bo) (30, s, w) = some (s, w) := by
    intro s w
    rw [sm_tot_u, fn_MO_bestAt_q30]
    rfl
  have e35 : ∀ s w, sm_tot (fn_MO_bestAt (iI z) (bI kn) mco (bI be) bo) (29, s, w) = some (-1, w) := by
    intro s w
    rw [sm_tot_u, fn_MO_bestAt_q29]
    unfold fn_MO_bestAt_b29
    rw [sm_ev_l, e36]
  cases be with
  | false =>
    refine ⟨-1, (-1, 0), ?_, ?_, rfl⟩
    · rw [sm_tot_u, fn_LS_bestAt_q0]
      unfold fn_LS_bestAt_b0
      rw [if_pos bI_f, sm_ev_l, c29]
    · rw [sm_tot_u, fn_MO_bestAt_q0]
      unfold fn_MO_bestAt_b0
      rw [if_pos bI_f, sm_ev_l, e35]
  | true =>
    by_cases q : 0 ≤ z ∧ z < ((nv + ns : Nat) : Int)
    · obtain ⟨k, rfl⟩ : ∃ k : Nat, z = k := ⟨z.toNat, by omega⟩
      refine ⟨bv k, (bo k, 0), ?_, ?_, hbe rfl k (by omega)⟩
      · rw [sm_tot_u, fn_LS_bestAt_q0]
        unfold fn_LS_bestAt_b0
        rw [if_neg bI_t, ls_hasColumn hn h1 h2, Option.bind_some, decide_eq_true q, if_neg bI_t, if_pos (ii_g (a := (k : Int)) (N := 6) (by omega) (by omega) (by omega)), sm_ev_l, c30, ii_nat h1 h2, Int.toNat_natCast]
      · rw [sm_tot_u, fn_MO_bestAt_q0]
        unfold fn_MO_bestAt_b0
        rw [if_neg bI_t, hcol, Option.bind_some, decide_eq_true q, if_neg bI_t, if_pos (ii_g (a := (k : Int)) (N := 6) (by omega) (by omega) (by omega)), sm_ev_l, e36, ii_nat h1 h2, Int.toNat_natCast]
    · refine ⟨-1, (-1, 0), ?_, ?_, rfl⟩
      · rw [sm_tot_u, fn_LS_bestAt_q0]
        unfold fn_LS_bestAt_b0
        rw [if_neg bI_t, ls_hasColumn hn h1 h2, Option.bind_some, decide_eq_false q, if_pos bI_f, sm_ev_l, c29]
      · rw [sm_tot_u, fn_MO_bestAt_q0]
        unfold fn_MO_bestAt_b0
        rw [if_neg bI_t, hcol, Option.bind_some, decide_eq_false q, if_pos bI_f, sm_ev_l, e35]
theorem jn_at0 (h : js kn m nv ns lt A B hs ro va sl sa sb slt kv he bs ra kr kno mro mva mco mlt mnu) {th : Bool} {tot : Int32} {il cs cl cn : Nat → Int32} {L : List (Nat → Int)} (hil : il 0 = bI th) (hth : th = true → tot = iI L.length ∧ cs 0 = iI L.length ∧ L.length ≤ 2000 ∧ vl_pic (nv + ns) L cn ∧ mo_pic 0 (nv + ns) L cl) (a1 x y w : Int32) (ha1 : a1 = 0) (co : Nat → Int64) :
    (∃ r1 r2, sm_tot (fn_LW_at0 x y (bI th) tot va sl cn) (0, co) = some r1 ∧ sm_tot (fn_MO_at a1 x y kno mco il cs cl) (0, 0, 0, w) = some r2 ∧ r2.2 = r1.1 ∧ r1.1 = 0 ∧ lg_cmp (r1.2 (0 : Int32).toNatClampNeg) (r2.1 : Int32).toInt64 = 0) ∨
    (∃ r1 r2, sm_tot (fn_LW_at0_O x y (bI th) tot va sl) 0 = some r1 ∧ sm_tot (fn_MO_at a1 x y kno mco il cs cl) (0, 0, 0, w) = some r2 ∧ r2.2 = r1 ∧ ¬ r1 = 0) := by
  subst ha1
  obtain ⟨rfl, rfl, hm, hn, ha, hb, rfl, rfl, rfl, pa, pb, pl, hT, hF⟩ := h
  obtain ⟨z, rfl, h1, h2⟩ := ii_of x
  obtain ⟨y, rfl, g1, g2⟩ := ii_of y
  have hcol : sm_tot (fn_MO_isColumn (iI y) (bI kn) mco) (0, 0) = some (bI (decide (0 ≤ y ∧ y < ((nv + ns : Nat) : Int)))) := mo_isColumn hn (fun q => (hT q).2.2.1) (fun q => by have := hF q; omega) g1 g2
  have hz : z < 0 → iI z < 0 := fun q => by rw [il_0, ii_lt h1 h2 (by omega) (by omega)]; exact q
  have hz' : ¬ z < 0 → ¬ iI z < 0 := fun q => by rw [il_0, ii_lt h1 h2 (by omega) (by omega)]; exact q
  have e87 : ∀ a b w, sm_tot (fn_MO_at 0 (iI z) (iI y) (bI kn) mco il cs cl) (87, a, b, w) = some (b, w) := by
    intro a b w
    rw [sm_tot_u, fn_MO_at_q87]
    rfl
  have e44 : ∀ a b w, sm_tot (fn_MO_at 0 (iI z) (iI y) (bI kn) mco il cs cl) (44, a, b, w) = some (0, 1) := by
    intro a b w
    rw [sm_tot_u, fn_MO_at_q44]
    unfold fn_MO_at_b44
    rw [sm_ev_l, sm_tot_u, fn_MO_at_q45]
    unfold fn_MO_at_b45
    rw [if_pos rfl, sm_ev_l, sm_tot_u, fn_MO_at_q58]
    unfold fn_MO_at_b58
    rw [if_pos rfl, sm_ev_l, e87]
  have hil' : il (0 : Int32).toNatClampNeg = bI th := hil
  by_cases qc : 0 ≤ y ∧ y < ((nv + ns : Nat) : Int)
  · cases th with
    | false =>
      right
      refine ⟨1, (0, 1), ?_, ?_, rfl, by decide⟩
      · rw [sm_tot_u, fn_LW_at0_O_q0]
        unfold fn_LW_at0_O_b0
        rw [sm_tot_u, fx_LS_at0_O_q0]
        unfold fx_LS_at0_O_b0
        rw [vl_has (l := 0) (by omega) (fun q => by cases q) h1 h2, Option.bind_some, Bool.false_and, if_pos bI_f, sm_ev_l, sm_tot_u, fx_LS_at0_O_q22]
        rfl
      · rw [sm_tot_u, fn_MO_at_q0]
        unfold fn_MO_at_b0
        rw [if_neg (by decide), if_neg (by decide), hcol, Option.bind_some, decide_eq_true qc, if_neg bI_t, if_pos (by decide), hil', if_pos bI_f, sm_ev_l, e44]
    | true =>
      obtain ⟨rfl, t2, t3, t4, t5⟩ := hth rfl
      have hcs : cs (0 : Int32).toNatClampNeg = iI L.length := t2
      have hh := vl_has (z := z) (th := true) (tot := iI L.length) t3 (fun _ => rfl) h1 h2
      rw [Bool.true_and] at hh
      by_cases q : 0 ≤ z ∧ z < (L.length : Int)
      · left
        obtain ⟨i, rfl⟩ : ∃ i : Nat, z = i := ⟨z.toNat, by omega⟩
        obtain ⟨c, rfl⟩ : ∃ c : Nat, y = c := ⟨y.toNat, by omega⟩
        have hC : sm_tot (fn_LS_at0 (iI (i : Int)) (iI (c : Int)) (bI true) (iI L.length) (iI nv) (iI ns) cn) 0 = some (iI (L.getD i sx_z c)) := by
          rw [sm_tot_u, fn_LS_at0_q0]
          unfold fn_LS_at0_b0
          rw [hh, Option.bind_some, decide_eq_true q, if_neg bI_t, ls_colY hn g1 g2 qc, Option.bind_some, vl_numberOf (by omega) (by omega), Option.bind_some, t4 i (by omega) c (by omega)]
          rfl
        refine ⟨(0, vp_updL co (0 : Int32).toNatClampNeg (iI (L.getD i sx_z c)).toInt64), (iI (L.getD i sx_z c), 0), ?_, ?_, rfl, rfl, lg_1 rfl rfl⟩
        · rw [sm_tot_u, fn_LW_at0_q0]
          unfold fn_LW_at0_b0
          rw [hC, Option.bind_some, if_pos (by decide)]
          rfl
        · rw [sm_tot_u, fn_MO_at_q0]
          unfold fn_MO_at_b0
          rw [if_neg (by decide), if_neg (by decide), hcol, Option.bind_some, decide_eq_true qc, if_neg bI_t, if_pos (by decide), hil', if_neg bI_t, if_neg (hz' (by omega)), if_pos (by decide), hcs, if_neg (show ¬ iI (L.length : Int) ≤ iI (i : Int) by rw [ii_le (by omega) (by omega) h1 h2]; omega), sm_ev_l, sm_tot_u, fn_MO_at_q45]
          unfold fn_MO_at_b45
          rw [if_neg (by decide), sm_ev_l, sm_tot_u, fn_MO_at_q58]
          unfold fn_MO_at_b58
          rw [if_neg (by decide), show (12000 : Int32) * 0 + 6 * iI (i : Int) + iI (c : Int) = iI ((12000 * 0 + 6 * i + c : Nat) : Int) by rw [show (12000 : Int32) * 0 = iI (12000 * 0) from by decide, il_6, ii_mul, ii_add, ii_add]; congr 1, if_pos (ii_g (a := ((12000 * 0 + 6 * i + c : Nat) : Int)) (N := 36000) (by omega) (by omega) (by omega)), sm_ev_l, e87, ii_nat (by omega) (by omega), Int.toNat_natCast, t5 i (by omega) c (by omega)]
      · right
        refine ⟨1, (0, 1), ?_, ?_, rfl, by decide⟩
        · rw [sm_tot_u, fn_LW_at0_O_q0]
          unfold fn_LW_at0_O_b0
          rw [sm_tot_u, fx_LS_at0_O_q0]
          unfold fx_LS_at0_O_b0
          rw [hh, Option.bind_some, decide_eq_false q, if_pos bI_f, sm_ev_l, sm_tot_u, fx_LS_at0_O_q22]
          rfl
        · rw [sm_tot_u, fn_MO_at_q0]
          unfold fn_MO_at_b0
          rw [if_neg (by decide), if_neg (by decide), hcol, Option.bind_some, decide_eq_true qc, if_neg bI_t, if_pos (by decide), hil', if_neg bI_t]
          by_cases q1 : z < 0
          · rw [if_pos (hz q1), sm_ev_l, e44]
          · rw [if_neg (hz' q1), if_pos (by decide), hcs, if_pos (show iI (L.length : Int) ≤ iI z by rw [ii_le (by omega) (by omega) h1 h2]; omega), sm_ev_l, e44]
  · right
    refine ⟨1, (0, 1), ?_, ?_, rfl, by decide⟩
    · have hlb : ∃ b : Bool, sm_tot (fn_VL_has (iI z) (bI th) tot) (0, 0) = some (bI b) := by
        cases th with
        | false => exact ⟨_, vl_has (l := 0) (by omega) (fun q => by cases q) h1 h2⟩
        | true => exact ⟨_, vl_has (l := L.length) (hth rfl).2.2.1 (fun q => (hth q).1) h1 h2⟩
      obtain ⟨b, hlb⟩ := hlb
      rw [sm_tot_u, fn_LW_at0_O_q0]
      unfold fn_LW_at0_O_b0
      rw [sm_tot_u, fx_LS_at0_O_q0]
      unfold fx_LS_at0_O_b0
      rw [hlb, Option.bind_some]
      cases b with
      | false =>
        rw [if_pos bI_f, sm_ev_l, sm_tot_u, fx_LS_at0_O_q22]
        rfl
      | true =>
        rw [if_neg bI_t, ls_colN hn g1 g2 qc]
        rfl
    · rw [sm_tot_u, fn_MO_at_q0]
      unfold fn_MO_at_b0
      rw [if_neg (by decide), if_neg (by decide), hcol, Option.bind_some, decide_eq_false qc, if_pos bI_f, sm_ev_l, e44]
theorem jn_at1 (h : js kn m nv ns lt A B hs ro va sl sa sb slt kv he bs ra kr kno mro mva mco mlt mnu) {th : Bool} {tot : Int32} {il cs cl cn : Nat → Int32} {L : List (Nat → Int)} (hil : il 1 = bI th) (hth : th = true → tot = iI L.length ∧ cs 1 = iI L.length ∧ L.length ≤ 2000 ∧ vl_pic (nv + ns) L cn ∧ mo_pic 1 (nv + ns) L cl) (a1 x y w : Int32) (ha1 : a1 = 1) (co : Nat → Int64) :
    (∃ r1 r2, sm_tot (fn_LW_at1 x y (bI th) tot va sl cn) (0, co) = some r1 ∧ sm_tot (fn_MO_at a1 x y kno mco il cs cl) (0, 0, 0, w) = some r2 ∧ r2.2 = r1.1 ∧ r1.1 = 0 ∧ lg_cmp (r1.2 (0 : Int32).toNatClampNeg) (r2.1 : Int32).toInt64 = 0) ∨
    (∃ r1 r2, sm_tot (fn_LW_at1_O x y (bI th) tot va sl) 0 = some r1 ∧ sm_tot (fn_MO_at a1 x y kno mco il cs cl) (0, 0, 0, w) = some r2 ∧ r2.2 = r1 ∧ ¬ r1 = 0) := by
  subst ha1
  obtain ⟨rfl, rfl, hm, hn, ha, hb, rfl, rfl, rfl, pa, pb, pl, hT, hF⟩ := h
  obtain ⟨z, rfl, h1, h2⟩ := ii_of x
  obtain ⟨y, rfl, g1, g2⟩ := ii_of y
  have hcol : sm_tot (fn_MO_isColumn (iI y) (bI kn) mco) (0, 0) = some (bI (decide (0 ≤ y ∧ y < ((nv + ns : Nat) : Int)))) := mo_isColumn hn (fun q => (hT q).2.2.1) (fun q => by have := hF q; omega) g1 g2
  have hz : z < 0 → iI z < 0 := fun q => by rw [il_0, ii_lt h1 h2 (by omega) (by omega)]; exact q
  have hz' : ¬ z < 0 → ¬ iI z < 0 := fun q => by rw [il_0, ii_lt h1 h2 (by omega) (by omega)]; exact q
  have e87 : ∀ a b w, sm_tot (fn_MO_at 1 (iI z) (iI y) (bI kn) mco il cs cl) (87, a, b, w) = some (b, w) := by
    intro a b w
    rw [sm_tot_u, fn_MO_at_q87]
    rfl
  have e44 : ∀ a b w, sm_tot (fn_MO_at 1 (iI z) (iI y) (bI kn) mco il cs cl) (44, a, b, w) = some (0, 1) := by
    intro a b w
    rw [sm_tot_u, fn_MO_at_q44]
    unfold fn_MO_at_b44
    rw [sm_ev_l, sm_tot_u, fn_MO_at_q45]
    unfold fn_MO_at_b45
    rw [if_pos rfl, sm_ev_l, sm_tot_u, fn_MO_at_q58]
    unfold fn_MO_at_b58
    rw [if_pos rfl, sm_ev_l, e87]
  have hil' : il (1 : Int32).toNatClampNeg = bI th := hil
  by_cases qc : 0 ≤ y ∧ y < ((nv + ns : Nat) : Int)
  · cases th with
    | false =>
      right
      refine ⟨1, (0, 1), ?_, ?_, rfl, by decide⟩
      · rw [sm_tot_u, fn_LW_at1_O_q0]
        unfold fn_LW_at1_O_b0
        rw [sm_tot_u, fx_LS_at1_O_q0]
        unfold fx_LS_at1_O_b0
        rw [vl_has (l := 0) (by omega) (fun q => by cases q) h1 h2, Option.bind_some, Bool.false_and, if_pos bI_f, sm_ev_l, sm_tot_u, fx_LS_at1_O_q22]
        rfl
      · rw [sm_tot_u, fn_MO_at_q0]
        unfold fn_MO_at_b0
        rw [if_neg (by decide), if_neg (by decide), hcol, Option.bind_some, decide_eq_true qc, if_neg bI_t, if_pos (by decide), hil', if_pos bI_f, sm_ev_l, e44]
    | true =>
      obtain ⟨rfl, t2, t3, t4, t5⟩ := hth rfl
      have hcs : cs (1 : Int32).toNatClampNeg = iI L.length := t2
      have hh := vl_has (z := z) (th := true) (tot := iI L.length) t3 (fun _ => rfl) h1 h2
      rw [Bool.true_and] at hh
      by_cases q : 0 ≤ z ∧ z < (L.length : Int)
      · left
        obtain ⟨i, rfl⟩ : ∃ i : Nat, z = i := ⟨z.toNat, by omega⟩
        obtain ⟨c, rfl⟩ : ∃ c : Nat, y = c := ⟨y.toNat, by omega⟩
        have hC : sm_tot (fn_LS_at1 (iI (i : Int)) (iI (c : Int)) (bI true) (iI L.length) (iI nv) (iI ns) cn) 0 = some (iI (L.getD i sx_z c)) := by
          rw [sm_tot_u, fn_LS_at1_q0]
          unfold fn_LS_at1_b0
          rw [hh, Option.bind_some, decide_eq_true q, if_neg bI_t, ls_colY hn g1 g2 qc, Option.bind_some, vl_numberOf (by omega) (by omega), Option.bind_some, t4 i (by omega) c (by omega)]
          rfl
        refine ⟨(0, vp_updL co (0 : Int32).toNatClampNeg (iI (L.getD i sx_z c)).toInt64), (iI (L.getD i sx_z c), 0), ?_, ?_, rfl, rfl, lg_1 rfl rfl⟩
        · rw [sm_tot_u, fn_LW_at1_q0]
          unfold fn_LW_at1_b0
          rw [hC, Option.bind_some, if_pos (by decide)]
          rfl
        · rw [sm_tot_u, fn_MO_at_q0]
          unfold fn_MO_at_b0
          rw [if_neg (by decide), if_neg (by decide), hcol, Option.bind_some, decide_eq_true qc, if_neg bI_t, if_pos (by decide), hil', if_neg bI_t, if_neg (hz' (by omega)), if_pos (by decide), hcs, if_neg (show ¬ iI (L.length : Int) ≤ iI (i : Int) by rw [ii_le (by omega) (by omega) h1 h2]; omega), sm_ev_l, sm_tot_u, fn_MO_at_q45]
          unfold fn_MO_at_b45
          rw [if_neg (by decide), sm_ev_l, sm_tot_u, fn_MO_at_q58]
          unfold fn_MO_at_b58
          rw [if_neg (by decide), show (12000 : Int32) * 1 + 6 * iI (i : Int) + iI (c : Int) = iI ((12000 * 1 + 6 * i + c : Nat) : Int) by rw [show (12000 : Int32) * 1 = iI (12000 * 1) from by decide, il_6, ii_mul, ii_add, ii_add]; congr 1, if_pos (ii_g (a := ((12000 * 1 + 6 * i + c : Nat) : Int)) (N := 36000) (by omega) (by omega) (by omega)), sm_ev_l, e87, ii_nat (by omega) (by omega), Int.toNat_natCast, t5 i (by omega) c (by omega)]
      · right
        refine ⟨1, (0, 1), ?_, ?_, rfl, by decide⟩
        · rw [sm_tot_u, fn_LW_at1_O_q0]
          unfold fn_LW_at1_O_b0
          rw [sm_tot_u, fx_LS_at1_O_q0]
          unfold fx_LS_at1_O_b0
          rw [hh, Option.bind_some, decide_eq_false q, if_pos bI_f, sm_ev_l, sm_tot_u, fx_LS_at1_O_q22]
          rfl
        · rw [sm_tot_u, fn_MO_at_q0]
          unfold fn_MO_at_b0
          rw [if_neg (by decide), if_neg (by decide), hcol, Option.bind_some, decide_eq_true qc, if_neg bI_t, if_pos (by decide), hil', if_neg bI_t]
          by_cases q1 : z < 0
          · rw [if_pos (hz q1), sm_ev_l, e44]
          · rw [if_neg (hz' q1), if_pos (by decide), hcs, if_pos (show iI (L.length : Int) ≤ iI z by rw [ii_le (by omega) (by omega) h1 h2]; omega), sm_ev_l, e44]
  · right
    refine ⟨1, (0, 1), ?_, ?_, rfl, by decide⟩
    · have hlb : ∃ b : Bool, sm_tot (fn_VL_has (iI z) (bI th) tot) (0, 0) = some (bI b) := by
        cases th with
        | false => exact ⟨_, vl_has (l := 0) (by omega) (fun q => by cases q) h1 h2⟩
        | true => exact ⟨_, vl_has (l := L.length) (hth rfl).2.2.1 (fun q => (hth q).1) h1 h2⟩
      obtain ⟨b, hlb⟩ := hlb
      rw [sm_tot_u, fn_LW_at1_O_q0]
      unfold fn_LW_at1_O_b0
      rw [sm_tot_u, fx_LS_at1_O_q0]
      unfold fx_LS_at1_O_b0
      rw [hlb, Option.bind_some]
      cases b with
      | false =>
        rw [if_pos bI_f, sm_ev_l, sm_tot_u, fx_LS_at1_O_q22]
        rfl
      | true =>
        rw [if_neg bI_t, ls_colN hn g1 g2 qc]
        rfl
    · rw [sm_tot_u, fn_MO_at_q0]
      unfold fn_MO_at_b0
      rw [if_neg (by decide), if_neg (by decide), hcol, Option.bind_some, decide_eq_false qc, if_pos bI_f, sm_ev_l, e44]
theorem jn_at2 (h : js kn m nv ns lt A B hs ro va sl sa sb slt kv he bs ra kr kno mro mva mco mlt mnu) {th : Bool} {tot : Int32} {il cs cl cn : Nat → Int32} {L : List (Nat → Int)} (hil : il 2 = bI th) (hth : th = true → tot = iI L.length ∧ cs 2 = iI L.length ∧ L.length ≤ 2000 ∧ vl_pic (nv + ns) L cn ∧ mo_pic 2 (nv + ns) L cl) (a1 x y w : Int32) (ha1 : a1 = 2) (co : Nat → Int64) :
    (∃ r1 r2, sm_tot (fn_LW_at2 x y (bI th) tot va sl cn) (0, co) = some r1 ∧ sm_tot (fn_MO_at a1 x y kno mco il cs cl) (0, 0, 0, w) = some r2 ∧ r2.2 = r1.1 ∧ r1.1 = 0 ∧ lg_cmp (r1.2 (0 : Int32).toNatClampNeg) (r2.1 : Int32).toInt64 = 0) ∨
    (∃ r1 r2, sm_tot (fn_LW_at2_O x y (bI th) tot va sl) 0 = some r1 ∧ sm_tot (fn_MO_at a1 x y kno mco il cs cl) (0, 0, 0, w) = some r2 ∧ r2.2 = r1 ∧ ¬ r1 = 0) := by
  subst ha1
  obtain ⟨rfl, rfl, hm, hn, ha, hb, rfl, rfl, rfl, pa, pb, pl, hT, hF⟩ := h
  obtain ⟨z, rfl, h1, h2⟩ := ii_of x
  obtain ⟨y, rfl, g1, g2⟩ := ii_of y
  have hcol : sm_tot (fn_MO_isColumn (iI y) (bI kn) mco) (0, 0) = some (bI (decide (0 ≤ y ∧ y < ((nv + ns : Nat) : Int)))) := mo_isColumn hn (fun q => (hT q).2.2.1) (fun q => by have := hF q; omega) g1 g2
  have hz : z < 0 → iI z < 0 := fun q => by rw [il_0, ii_lt h1 h2 (by omega) (by omega)]; exact q
  have hz' : ¬ z < 0 → ¬ iI z < 0 := fun q => by rw [il_0, ii_lt h1 h2 (by omega) (by omega)]; exact q
  have e87 : ∀ a b w, sm_tot (fn_MO_at 2 (iI z) (iI y) (bI kn) mco il cs cl) (87, a, b, w) = some (b, w) := by
    intro a b w
    rw [sm_tot_u, fn_MO_at_q87]
    rfl
  have e44 : ∀ a b w, sm_tot (fn_MO_at 2 (iI z) (iI y) (bI kn) mco il cs cl) (44, a, b, w) = some (0, 1) := by
    intro a b w
    rw [sm_tot_u, fn_MO_at_q44]
    unfold fn_MO_at_b44
    rw [sm_ev_l, sm_tot_u, fn_MO_at_q45]
    unfold fn_MO_at_b45
    rw [if_pos rfl, sm_ev_l, sm_tot_u, fn_MO_at_q58]
    unfold fn_MO_at_b58
    rw [if_pos rfl, sm_ev_l, e87]
  have hil' : il (2 : Int32).toNatClampNeg = bI th := hil
  by_cases qc : 0 ≤ y ∧ y < ((nv + ns : Nat) : Int)
  · cases th with
    | false =>
      right
      refine ⟨1, (0, 1), ?_, ?_, rfl, by decide⟩
      · rw [sm_tot_u, fn_LW_at2_O_q0]
        unfold fn_LW_at2_O_b0
        rw [sm_tot_u, fx_LS_at2_O_q0]
        unfold fx_LS_at2_O_b0
        rw [vl_has (l := 0) (by omega) (fun q => by cases q) h1 h2, Option.bind_some, Bool.false_and, if_pos bI_f, sm_ev_l, sm_tot_u, fx_LS_at2_O_q22]
        rfl
      · rw [sm_tot_u, fn_MO_at_q0]
        unfold fn_MO_at_b0
        rw [if_neg (by decide), if_neg (by decide), hcol, Option.bind_some, decide_eq_true qc, if_neg bI_t, if_pos (by decide), hil', if_pos bI_f, sm_ev_l, e44]
    | true =>
      obtain ⟨rfl, t2, t3, t4, t5⟩ := hth rfl
      have hcs : cs (2 : Int32).toNatClampNeg = iI L.length := t2
      have hh := vl_has (z := z) (th := true) (tot := iI L.length) t3 (fun _ => rfl) h1 h2
      rw [Bool.true_and] at hh
      by_cases q : 0 ≤ z ∧ z < (L.length : Int)
      · left
        obtain ⟨i, rfl⟩ : ∃ i : Nat, z = i := ⟨z.toNat, by omega⟩
        obtain ⟨c, rfl⟩ : ∃ c : Nat, y = c := ⟨y.toNat, by omega⟩
        have hC : sm_tot (fn_LS_at2 (iI (i : Int)) (iI (c : Int)) (bI true) (iI L.length) (iI nv) (iI ns) cn) 0 = some (iI (L.getD i sx_z c)) := by
          rw [sm_tot_u, fn_LS_at2_q0]
          unfold fn_LS_at2_b0
          rw [hh, Option.bind_some, decide_eq_true q, if_neg bI_t, ls_colY hn g1 g2 qc, Option.bind_some, vl_numberOf (by omega) (by omega), Option.bind_some, t4 i (by omega) c (by omega)]
          rfl
        refine ⟨(0, vp_updL co (0 : Int32).toNatClampNeg (iI (L.getD i sx_z c)).toInt64), (iI (L.getD i sx_z c), 0), ?_, ?_, rfl, rfl, lg_1 rfl rfl⟩
        · rw [sm_tot_u, fn_LW_at2_q0]
          unfold fn_LW_at2_b0
          rw [hC, Option.bind_some, if_pos (by decide)]
          rfl
        · rw [sm_tot_u, fn_MO_at_q0]
          unfold fn_MO_at_b0
          rw [if_neg (by decide), if_neg (by decide), hcol, Option.bind_some, decide_eq_true qc, if_neg bI_t, if_pos (by decide), hil', if_neg bI_t, if_neg (hz' (by omega)), if_pos (by decide), hcs, if_neg (show ¬ iI (L.length : Int) ≤ iI (i : Int) by rw [ii_le (by omega) (by omega) h1 h2]; omega), sm_ev_l, sm_tot_u, fn_MO_at_q45]
          unfold fn_MO_at_b45
          rw [if_neg (by decide), sm_ev_l, sm_tot_u, fn_MO_at_q58]
          unfold fn_MO_at_b58
          rw [if_neg (by decide), show (12000 : Int32) * 2 + 6 * iI (i : Int) + iI (c : Int) = iI ((12000 * 2 + 6 * i + c : Nat) : Int) by rw [show (12000 : Int32) * 2 = iI (12000 * 2) from by decide, il_6, ii_mul, ii_add, ii_add]; congr 1, if_pos (ii_g (a := ((12000 * 2 + 6 * i + c : Nat) : Int)) (N := 36000) (by omega) (by omega) (by omega)), sm_ev_l, e87, ii_nat (by omega) (by omega), Int.toNat_natCast, t5 i (by omega) c (by omega)]
      · right
        refine ⟨1, (0, 1), ?_, ?_, rfl, by decide⟩
        · rw [sm_tot_u, fn_LW_at2_O_q0]
          unfold fn_LW_at2_O_b0
          rw [sm_tot_u, fx_LS_at2_O_q0]
          unfold fx_LS_at2_O_b0
          rw [hh, Option.bind_some, decide_eq_false q, if_pos bI_f, sm_ev_l, sm_tot_u, fx_LS_at2_O_q22]
          rfl
        · rw [sm_tot_u, fn_MO_at_q0]
          unfold fn_MO_at_b0
          rw [if_neg (by decide), if_neg (by decide), hcol, Option.bind_some, decide_eq_true qc, if_neg bI_t, if_pos (by decide), hil', if_neg bI_t]
          by_cases q1 : z < 0
          · rw [if_pos (hz q1), sm_ev_l, e44]
          · rw [if_neg (hz' q1), if_pos (by decide), hcs, if_pos (show iI (L.length : Int) ≤ iI z by rw [ii_le (by omega) (by omega) h1 h2]; omega), sm_ev_l, e44]
  · right
    refine ⟨1, (0, 1), ?_, ?_, rfl, by decide⟩
    · have hlb : ∃ b : Bool, sm_tot (fn_VL_has (iI z) (bI th) tot) (0, 0) = some (bI b) := by
        cases th with
        | false => exact ⟨_, vl_has (l := 0) (by omega) (fun q => by cases q) h1 h2⟩
        | true => exact ⟨_, vl_has (l := L.length) (hth rfl).2.2.1 (fun q => (hth q).1) h1 h2⟩
      obtain ⟨b, hlb⟩ := hlb
      rw [sm_tot_u, fn_LW_at2_O_q0]
      unfold fn_LW_at2_O_b0
      rw [sm_tot_u, fx_LS_at2_O_q0]
      unfold fx_LS_at2_O_b0
      rw [hlb, Option.bind_some]
      cases b with
      | false =>
        rw [if_pos bI_f, sm_ev_l, sm_tot_u, fx_LS_at2_O_q22]
        rfl
      | true =>
        rw [if_neg bI_t, ls_colN hn g1 g2 qc]
        rfl
    · rw [sm_tot_u, fn_MO_at_q0]
      unfold fn_MO_at_b0
      rw [if_neg (by decide), if_neg (by decide), hcol, Option.bind_some, decide_eq_false qc, if_pos bI_f, sm_ev_l, e44]
theorem jn_atX (a1 x y w kno mco : Int32) (ha1 : a1 < 0 ∨ 2 < a1) (il cs cl : Nat → Int32) : ∃ r1 r2, sm_tot (fn_LW_atX_O a1 x y) 0 = some r1 ∧ sm_tot (fn_MO_at a1 x y kno mco il cs cl) (0, 0, 0, w) = some r2 ∧ r2.2 = r1 ∧ ¬ r1 = 0 := by
  have e44 : ∀ a b w, sm_tot (fn_MO_at a1 x y kno mco il cs cl) (44, a, b, w) = some (0, 1) := by
    intro a b w
    rw [sm_tot_u, fn_MO_at_q44]
    unfold fn_MO_at_b44
    rw [sm_ev_l, sm_tot_u, fn_MO_at_q45]
    unfold fn_MO_at_b45
    rw [if_pos rfl, sm_ev_l, sm_tot_u, fn_MO_at_q58]
    unfold fn_MO_at_b58
    rw [if_pos rfl, sm_ev_l, sm_tot_u, fn_MO_at_q87]
    rfl
  refine ⟨1, (0, 1), ?_, ?_, rfl, by decide⟩
  · have hO : sm_tot (fx_LS_atX_O a1 x y) 0 = some () := by
      have c22 : sm_tot (fx_LS_atX_O a1 x y) 22 = some () := by
        rw [sm_tot_u, fx_LS_atX_O_q22]
        rfl
      rw [sm_tot_u, fx_LS_atX_O_q0]
      unfold fx_LS_atX_O_b0
      by_cases q : a1 < 0
      · rw [if_pos q, sm_ev_l, c22]
      · rw [if_neg q, if_pos (ha1.resolve_left q), sm_ev_l, c22]
    rw [sm_tot_u, fn_LW_atX_O_q0]
    unfold fn_LW_atX_O_b0
    rw [hO]
    rfl
  · rw [sm_tot_u, fn_MO_at_q0]
    unfold fn_MO_at_b0
    by_cases q : a1 < 0
    · rw [if_pos q, sm_ev_l, e44]
    · rw [if_neg q, if_pos (ha1.resolve_left q), sm_ev_l, e44]
end J4
