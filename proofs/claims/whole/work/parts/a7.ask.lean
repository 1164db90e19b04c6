theorem no_ix {v : Int32} {N j : Nat} (hN : N ≤ 80) (hj : j < N) (hv : v < 0 ∨ nI N ≤ v) : ¬ v = nI j := fun e => by
  subst e
  rcases hv with z | z
  · exact absurd z (nI_pos (by omega))
  · exact absurd z (nI_ge hj (by omega))
theorem sp_within1 {v : Int32} {Q : Int32 → Prop} (h0 : ¬ v = 0 → ¬ v = 1 → Q 0) (h1 : v = 0 ∨ v = 1 → Q 1) : wp_X4_within v 0 1 Q := by
  have i0 : (0 : Int32).toInt = 0 := by decide
  have i1 : (1 : Int32).toInt = 1 := by decide
  unfold wp_X4_within
  refine ⟨fun q => h0 (fun z => ?_) (fun z => ?_), fun q => ⟨fun q2 => h0 (fun z => ?_) (fun z => ?_), fun q2 => h1 ?_⟩⟩
  · rw [z] at q; exact absurd q (by decide)
  · rw [z] at q; exact absurd q (by decide)
  · rw [z] at q2; exact absurd q2 (by decide)
  · rw [z] at q2; exact absurd q2 (by decide)
  · rw [Int32.lt_iff_toInt_lt] at q q2
    rcases (show v.toInt = 0 ∨ v.toInt = 1 by omega) with z | z
    · exact Or.inl (Int32.toInt_inj.mp (by rw [z, i0]))
    · exact Or.inr (Int32.toInt_inj.mp (by rw [z, i1]))
theorem sp_gol {v : Int32} {Q : Int32 → Prop} (h0 : ¬ v = 0 → ¬ v = 1 → Q 0) (h1 : v = 0 ∨ v = 1 → Q 1) : wp_X3_isGreatestOrLeast v Q := ⟨fun q => h1 (Or.inl q), fun q => ⟨fun q2 => h0 q q2, fun q2 => h1 (Or.inr q2)⟩⟩
theorem sp_ageAt {W B n b r : Nat} {v3 : Int32} {cm GG LL : Nat → Nat} {Q : Int32 → Prop} (hW : W ≤ 4) (hn : n ≤ 40) (hb : b < 40) (hc : cm b ≤ 1) (hG : ∀ k, GG k ≤ W ∧ LL k ≤ W) (h : Q (if r < n ∧ cm b = 1 then enc W (if v3 = 0 then GG (b * 40 + r) else LL (b * 40 + r)) else -1)) : wp_X0_ageAtBegin (nI b) (encE n r) v3 (nI W) (rep cm) (rep GG) (rep LL) Q := by
  have cb : (nI b).toNatClampNeg = b := nI_clamp (by omega)
  have z0 : nI (cm b) = 0 ↔ cm b = 0 := by rw [← nI_0]; exact nI_eq (by omega) (by decide)
  unfold wp_X0_ageAtBegin
  rw [encE_m1 (by omega), cb, rep_at cm, z0]
  refine ⟨fun q => ?_, fun q => ⟨vp_in_nI hb (by decide), fun q2 => ?_, fun q2 => ?_⟩⟩
  · rw [if_neg (fun w => q w.1)] at h
    exact h
  · have q : r < n := Classical.byContradiction q
    have ci : (nI (b * 40 + r)).toNatClampNeg = b * 40 + r := nI_clamp (by omega)
    have ii : vp_in (nI (b * 40 + r)) 1600 := vp_in_nI (by omega) (by decide)
    have g := hG (b * 40 + r)
    have wG : nI W ≤ nI (GG (b * 40 + r)) ↔ W ≤ GG (b * 40 + r) := nI_leI (by omega) (by omega)
    have wL : nI W ≤ nI (LL (b * 40 + r)) ↔ W ≤ LL (b * 40 + r) := nI_leI (by omega) (by omega)
    rw [if_pos ⟨q, by omega⟩] at h
    rw [encE_in q, nI_m40, nI_add, ci, rep_at, rep_at, wG, wL]
    refine ⟨fun q3 => ⟨ii, fun q4 => ?_, fun q4 => ?_⟩, fun q3 => ⟨ii, fun q4 => ?_, fun q4 => ?_⟩⟩
    · rw [if_neg q3, enc_out q4] at h; exact h
    · rw [if_neg q3, enc_in (by omega)] at h; exact h
    · rw [if_pos q3, enc_out q4] at h; exact h
    · rw [if_pos q3, enc_in (by omega)] at h; exact h
  · rw [if_neg (fun w => by omega)] at h
    exact h
theorem cp_age {x_agesStand : Int32} {x_searchStands : Int32} {p_blocks : Int32} {p_lines : Int32} {p_edges : Int32} {p_pairs : Int32} {g_sets : Int32} {g_size : Int32} {g_penalty : Int32} {g_comeCount : Int32} {s_answered : Int32} {s_codes : Int32} {s_ordered : Int32} {p_times : Nat → Int32} {p_touchCounts : Nat → Int32} {p_touchSlots : Nat → Int32} {p_lineOfSlot : Nat → Int32} {p_from : Nat → Int32} {p_to : Nat → Int32} {p_bounds : Nat → Int32} {p_pairA : Nat → Int32} {p_pairB : Nat → Int32} {p_leaving : Nat → Int32} {p_firstLeaving : Nat → Int32} {g_come : Nat → Int32} {g_outcomes : Nat → Int32} {g_greatestTimes : Nat → Int32} {g_leastTimes : Nat → Int32} {g_changed : Nat → Int32} {g_greatest : Nat → Int32} {g_least : Nat → Int32} {g_greatestNow : Nat → Int32} {g_leastNow : Nat → Int32} {s_order : Nat → Int32} {s_arriving : Nat → Int32} {s_unit : Nat → Int32} {s_flag : Nat → Int32} {s_forbidding : Nat → Int32} {s_most : Nat → Int64} {s_fewest : Nat → Int64} {m_thrown : Int32} {m_sets : Int32} {m_ways : Int32} {m_penalty : Int32} {m_blocks : Int32} {m_edges : Int32} {m_pairs : Int32} {m_lines : Int32} {m_isFresh : Int32} {m_isAnswer : Int32} {m_time : Nat → Int32} {m_touchMany : Nat → Int32} {m_touch : Nat → Int32} {m_line : Nat → Int32} {m_from : Nat → Int32} {m_to : Nat → Int32} {m_bound : Nat → Int32} {m_pairA : Nat → Int32} {m_pairB : Nat → Int32} {m_comeTo : Nat → Int32} {m_greatest : Nat → Int32} {m_least : Nat → Int32} {m_nowGreatest : Nat → Int32} {m_nowLeast : Nat → Int32} {m_does : Nat → Int32} {m_mostTime : Nat → Int64} {m_leastTime : Nat → Int64} {m_countUnit : Nat → Int32} {m_flagUnit : Nat → Int32} {m_worst : Nat → Int64} {m_best : Nat → Int64} {m_stack : Nat → Int32} (h : cpI x_agesStand x_searchStands p_blocks p_lines p_edges p_pairs g_sets g_size g_penalty g_comeCount s_answered s_codes s_ordered p_times p_touchCounts p_touchSlots p_lineOfSlot p_from p_to p_bounds p_pairA p_pairB p_leaving p_firstLeaving g_come g_outcomes g_greatestTimes g_leastTimes g_changed g_greatest g_least g_greatestNow g_leastNow s_order s_arriving s_unit s_flag s_forbidding s_most s_fewest m_thrown m_sets m_ways m_penalty m_blocks m_edges m_pairs m_lines m_isFresh m_isAnswer m_time m_touchMany m_touch m_line m_from m_to m_bound m_pairA m_pairB m_comeTo m_greatest m_least m_nowGreatest m_nowLeast m_does m_mostTime m_leastTime m_countUnit m_flagUnit m_worst m_best m_stack) (v1 v2 v3 : Int32) (f : Nat → Int64) :
    wp_L_age v1 v2 v3 x_agesStand p_blocks p_lines g_sets g_size g_penalty g_comeCount p_times p_touchCounts p_touchSlots p_lineOfSlot p_to p_leaving p_firstLeaving g_come g_outcomes g_greatestTimes g_leastTimes g_changed g_greatest g_least g_greatestNow g_leastNow f (fun k xa gcc gco gou ggt glt gch gg gl ggn gln f' => wp_X4_age v1 v2 v3 m_thrown m_sets m_ways m_penalty m_blocks m_edges m_pairs m_lines m_isFresh m_isAnswer m_time m_touchMany m_touch m_line m_from m_to m_bound m_pairA m_pairB m_comeTo m_greatest m_least m_nowGreatest m_nowLeast m_does m_mostTime m_leastTime m_countUnit m_flagUnit m_worst m_best m_stack (fun b th mf ma mco mg ml mng mnl mdo mmt mlt mcu mfu mw mb mst => th = k ∧ (k = 0 → f' 0 = b.toInt64) ∧ cpI xa x_searchStands p_blocks p_lines p_edges p_pairs g_sets g_size g_penalty gcc s_answered s_codes s_ordered p_times p_touchCounts p_touchSlots p_lineOfSlot p_from p_to p_bounds p_pairA p_pairB p_leaving p_firstLeaving gco gou ggt glt gch gg gl ggn gln s_order s_arriving s_unit s_flag s_forbidding s_most s_fewest th m_sets m_ways m_penalty m_blocks m_edges m_pairs m_lines mf ma m_time m_touchMany m_touch m_line m_from m_to m_bound m_pairA m_pairB mco mg ml mng mnl mdo mmt mlt mcu mfu mw mb mst)) := by
  obtain ⟨W, B, n, E, P, pn, tm, tc, ts, fr, to, bn, pa, pb, lv, fl, line, sets, hpg, hcl, hmd⟩ := id h
  obtain ⟨⟨⟨bW, bB, bn4, bE⟩, btc, bfr, bfl, ball⟩, a2, a3, a4, a5, a6, a7, a8⟩ := id hpg
  obtain ⟨⟨c1, c2, c3, c4, -, -, -⟩, e1, e2, e3, e4, e5, e6, e7, e8, e9, e10, e11⟩ := id hcl.1
  obtain ⟨⟨d1, d2, d3, d4, -, -, -⟩, f1, f2, f3, f4, f5, f6, f7, f8, f9⟩ := id hmd.1
  have e4 := e4.symm
  have f4 := f4.symm
  subst c1 c2 c3 c4 e1 e2 e3 e4 e5 e6 e7 e8 e9 e10 e11 d1 d2 d3 d4 f1 f2 f3 f4 f5 f6 f7 f8 f9
  have g6 := hcl.1.1.2.2.2.2.2.1
  subst g6
  have fail : ∀ th, _ := cp_th h
  unfold wp_L_age wp_X3_age
  refine sp_hasB (by omega) (fun hv => ⟨fun _ => ⟨rfl, ?_⟩, fun w => absurd rfl w⟩) (fun b hb hv => ⟨fun w => absurd w (by decide), fun _ => sp_gol (fun g1 g2 => ⟨fun w => absurd rfl w, fun _ => ⟨rfl, ?_⟩⟩) (fun hw => ⟨fun _ => ?_, fun w => absurd w (by decide)⟩)⟩)
  · unfold wp_X4_age
    exact sp_within0 (by omega) (fun _ => ⟨fun _ => ⟨rfl, fun w => absurd w (by decide), fail 1⟩, fun w => absurd rfl w⟩) (fun b hb hb2 => absurd hb2 (no_ix (by omega) hb hv))
  · unfold wp_X4_age
    refine sp_within0 (by omega) (fun _ => ⟨fun _ => ⟨rfl, fun w => absurd w (by decide), fail 1⟩, fun w => absurd rfl w⟩) (fun b hb hb2 => ⟨fun w => absurd w (by decide), fun _ => sp_within1 (fun _ _ => ⟨fun w => absurd rfl w, fun _ => ⟨rfl, fun w => absurd w (by decide), fail 1⟩⟩) (fun w => ?_)⟩)
    rcases w with w | w
    · exact absurd w g1
    · exact absurd w g2
  · subst hv
    have cb : (nI b).toNatClampNeg = b := nI_clamp (by omega)
    have ib : vp_in (nI b) 40 := vp_in_nI (by omega) (by decide)
    refine cl_settle hpg hcl (fun cm ch GG LL NG NL cmc O GT LT hcc hG hN hA hI => ?_)
    refine sp_slot bn4 (fun r hr => sp_ageAt (B := B) bW bn4 (by omega) (hcc b).1 hG ?_)
    unfold wp_X4_age
    refine sp_within0 (by omega) (fun hv => absurd rfl (no_ix (by omega) hb hv)) (fun b' hb' hb2 => ⟨fun w => absurd w (by decide), fun _ => sp_within1 (fun g1 g2 => absurd hw (fun w => w.elim g1 g2)) (fun _ => ⟨fun _ => ?_, fun w => absurd w (by decide)⟩)⟩)
    refine md_work hpg hmd (fun an cm' GG' LL' NG' NL' cu fu Wo Be st DO MT LT' han hc' hG' hA' hs hI' => ?_)
    obtain ⟨s1, s2⟩ := ag_same (fun b => (hcc b).1) hc' hA.1 hA'.1 b hb
    have z0 : nI (cm' b) = 0 ↔ cm b = 0 := by rw [s1, ← nI_0]; exact nI_eq (by have := hc' b; omega) (by decide)
    have cp : cpI _ _ _ _ _ _ _ _ _ _ _ _ _ _ _ _ _ _ _ _ _ _ _ _ _ _ _ _ _ _ _ _ _ _ _ _ _ _ _ _ _ _ _ _ _ _ _ _ _ _ _ _ _ _ _ _ _ _ _ _ _ _ _ _ _ _ _ _ _ _ _ _ := ⟨W, B, n, E, P, pn, tm, tc, ts, fr, to, bn, pa, pb, lv, fl, line, sets, hpg, hI, hI' 0⟩
    refine sp_find bn4 (fun r' hr' => ?_)
    have e : r' = r := isLow_one (fun e _ => Iff.rfl) hr' hr
    subst e
    rw [encE_neg (by omega), cb, rep_at cm', z0]
    refine ⟨fun q => ⟨rfl, fun _ => ?_, cp⟩, fun q => ⟨ib, fun q2 => ?_, fun q2 => ⟨rfl, fun _ => ?_, cp⟩⟩⟩
    · rw [pk_uLs, if_neg (fun w => q w.1)]
    · have q : r' < n := Classical.byContradiction q
      have c1 : cm b = 1 := by have := (hcc b).1; omega
      have ci : (nI (b * 40 + r')).toNatClampNeg = b * 40 + r' := nI_clamp (by omega)
      have ii : vp_in (nI (b * 40 + r')) 1600 := vp_in_nI (by omega) (by decide)
      obtain ⟨y1, y2⟩ := s2 c1 r' q
      rw [encE_in q, nI_40m, nI_add, ci, repE_at, repE_at]
      refine ⟨fun q3 => ⟨ii, rfl, fun _ => ?_, cp⟩, fun q3 => ⟨ii, rfl, fun _ => ?_, cp⟩⟩
      · rw [pk_uLs, if_pos ⟨q, c1⟩, if_neg q3, y2]
      · rw [pk_uLs, if_pos ⟨q, c1⟩, if_pos q3, y1]
    · rw [pk_uLs, if_neg (fun w => by omega)]
theorem cp_time {x_agesStand : Int32} {x_searchStands : Int32} {p_blocks : Int32} {p_lines : Int32} {p_edges : Int32} {p_pairs : Int32} {g_sets : Int32} {g_size : Int32} {g_penalty : Int32} {g_comeCount : Int32} {s_answered : Int32} {s_codes : Int32} {s_ordered : Int32} {p_times : Nat → Int32} {p_touchCounts : Nat → Int32} {p_touchSlots : Nat → Int32} {p_lineOfSlot : Nat → Int32} {p_from : Nat → Int32} {p_to : Nat → Int32} {p_bounds : Nat → Int32} {p_pairA : Nat → Int32} {p_pairB : Nat → Int32} {p_leaving : Nat → Int32} {p_firstLeaving : Nat → Int32} {g_come : Nat → Int32} {g_outcomes : Nat → Int32} {g_greatestTimes : Nat → Int32} {g_leastTimes : Nat → Int32} {g_changed : Nat → Int32} {g_greatest : Nat → Int32} {g_least : Nat → Int32} {g_greatestNow : Nat → Int32} {g_leastNow : Nat → Int32} {s_order : Nat → Int32} {s_arriving : Nat → Int32} {s_unit : Nat → Int32} {s_flag : Nat → Int32} {s_forbidding : Nat → Int32} {s_most : Nat → Int64} {s_fewest : Nat → Int64} {m_thrown : Int32} {m_sets : Int32} {m_ways : Int32} {m_penalty : Int32} {m_blocks : Int32} {m_edges : Int32} {m_pairs : Int32} {m_lines : Int32} {m_isFresh : Int32} {m_isAnswer : Int32} {m_time : Nat → Int32} {m_touchMany : Nat → Int32} {m_touch : Nat → Int32} {m_line : Nat → Int32} {m_from : Nat → Int32} {m_to : Nat → Int32} {m_bound : Nat → Int32} {m_pairA : Nat → Int32} {m_pairB : Nat → Int32} {m_comeTo : Nat → Int32} {m_greatest : Nat → Int32} {m_least : Nat → Int32} {m_nowGreatest : Nat → Int32} {m_nowLeast : Nat → Int32} {m_does : Nat → Int32} {m_mostTime : Nat → Int64} {m_leastTime : Nat → Int64} {m_countUnit : Nat → Int32} {m_flagUnit : Nat → Int32} {m_worst : Nat → Int64} {m_best : Nat → Int64} {m_stack : Nat → Int32} (h : cpI x_agesStand x_searchStands p_blocks p_lines p_edges p_pairs g_sets g_size g_penalty g_comeCount s_answered s_codes s_ordered p_times p_touchCounts p_touchSlots p_lineOfSlot p_from p_to p_bounds p_pairA p_pairB p_leaving p_firstLeaving g_come g_outcomes g_greatestTimes g_leastTimes g_changed g_greatest g_least g_greatestNow g_leastNow s_order s_arriving s_unit s_flag s_forbidding s_most s_fewest m_thrown m_sets m_ways m_penalty m_blocks m_edges m_pairs m_lines m_isFresh m_isAnswer m_time m_touchMany m_touch m_line m_from m_to m_bound m_pairA m_pairB m_comeTo m_greatest m_least m_nowGreatest m_nowLeast m_does m_mostTime m_leastTime m_countUnit m_flagUnit m_worst m_best m_stack) (v1 v2 : Int32) (f : Nat → Int64) :
    wp_L_time v1 v2 x_agesStand p_blocks p_lines g_sets g_size g_penalty g_comeCount p_times p_touchCounts p_touchSlots p_lineOfSlot p_to p_leaving p_firstLeaving g_come g_outcomes g_greatestTimes g_leastTimes g_changed g_greatest g_least g_greatestNow g_leastNow f (fun k xa gcc gco gou ggt glt gch gg gl ggn gln f' => wp_X4_time v1 v2 m_thrown m_sets m_ways m_penalty m_blocks m_edges m_pairs m_lines m_isFresh m_isAnswer m_time m_touchMany m_touch m_line m_from m_to m_bound m_pairA m_pairB m_comeTo m_greatest m_least m_nowGreatest m_nowLeast m_does m_mostTime m_leastTime m_countUnit m_flagUnit m_worst m_best m_stack (fun b th mf ma mco mg ml mng mnl mdo mmt mlt mcu mfu mw mb mst => th = k ∧ (k = 0 → f' 0 = b.toInt64) ∧ cpI xa x_searchStands p_blocks p_lines p_edges p_pairs g_sets g_size g_penalty gcc s_answered s_codes s_ordered p_times p_touchCounts p_touchSlots p_lineOfSlot p_from p_to p_bounds p_pairA p_pairB p_leaving p_firstLeaving gco gou ggt glt gch gg gl ggn gln s_order s_arriving s_unit s_flag s_forbidding s_most s_fewest th m_sets m_ways m_penalty m_blocks m_edges m_pairs m_lines mf ma m_time m_touchMany m_touch m_line m_from m_to m_bound m_pairA m_pairB mco mg ml mng mnl mdo mmt mlt mcu mfu mw mb mst)) := by
  obtain ⟨W, B, n, E, P, pn, tm, tc, ts, fr, to, bn, pa, pb, lv, fl, line, sets, hpg, hcl, hmd⟩ := id h
  obtain ⟨⟨⟨bW, bB, bn4, bE⟩, btc, bfr, bfl, ball⟩, a2, a3, a4, a5, a6, a7, a8⟩ := id hpg
  obtain ⟨⟨c1, c2, c3, c4, -, -, -⟩, e1, e2, e3, e4, e5, e6, e7, e8, e9, e10, e11⟩ := id hcl.1
  obtain ⟨⟨d1, d2, d3, d4, -, -, -⟩, f1, f2, f3, f4, f5, f6, f7, f8, f9⟩ := id hmd.1
  have e4 := e4.symm
  have f4 := f4.symm
  subst c1 c2 c3 c4 e1 e2 e3 e4 e5 e6 e7 e8 e9 e10 e11 d1 d2 d3 d4 f1 f2 f3 f4 f5 f6 f7 f8 f9
  have fail : ∀ th, _ := cp_th h
  unfold wp_L_time wp_X3_time
  refine sp_hasB (by omega) (fun hv => ⟨fun _ => ⟨rfl, ?_⟩, fun w => absurd rfl w⟩) (fun b hb hv => ⟨fun w => absurd w (by decide), fun _ => sp_gol (fun g1 g2 => ⟨fun w => absurd rfl w, fun _ => ⟨rfl, ?_⟩⟩) (fun hw => ⟨fun _ => ?_, fun w => absurd w (by decide)⟩)⟩)
  · unfold wp_X4_time
    exact sp_within0 (by omega) (fun _ => ⟨fun _ => ⟨rfl, fun w => absurd w (by decide), fail 1⟩, fun w => absurd rfl w⟩) (fun b hb hb2 => absurd hb2 (no_ix (by omega) hb hv))
  · unfold wp_X4_time
    refine sp_within0 (by omega) (fun _ => ⟨fun _ => ⟨rfl, fun w => absurd w (by decide), fail 1⟩, fun w => absurd rfl w⟩) (fun b hb hb2 => ⟨fun w => absurd w (by decide), fun _ => sp_within1 (fun _ _ => ⟨fun w => absurd rfl w, fun _ => ⟨rfl, fun w => absurd w (by decide), fail 1⟩⟩) (fun w => ?_)⟩)
    rcases w with w | w
    · exact absurd w g1
    · exact absurd w g2
  · subst hv
    have cb : (nI b).toNatClampNeg = b := nI_clamp (by omega)
    have ib : vp_in (nI b) 40 := vp_in_nI (by omega) (by decide)
    refine cl_settle hpg hcl (fun cm ch GG LL NG NL cmc O GT LT hcc hG hN hA hI => ?_)
    rw [cb]
    have MB : ∀ (Qm : Int32 → Int32 → Int32 → Int32 → (Nat → Int32) → (Nat → Int32) → (Nat → Int32) → (Nat → Int32) → (Nat → Int32) → (Nat → Int32) → (Nat → Int64) → (Nat → Int64) → (Nat → Int32) → (Nat → Int32) → (Nat → Int64) → (Nat → Int64) → (Nat → Int32) → Prop), (∀ (an : Nat) (cm' GG' LL' NG' NL' cu fu Wo Be st : Nat → Nat) (DO : Nat → Int32) (MT LT' : Nat → Int64), mdI W B n E P pn tm tc ts fr to bn pa pb lv fl line sets 0 m_sets m_ways m_penalty (nI B) (nI E) (nI P) (nI n) 1 (nI an) (rep tm) (rep tc) (rep ts) line (rep fr) (rep to) (rpB bn) (rep pa) (rep pb) (rep cm') (repE W GG') (repE W LL') (repE W NG') (repE W NL') DO MT LT' (rep cu) (rep fu) (repW Wo) (repL Be) (rep st) → Qm (if v2 = 0 then GT b else LT b) 0 1 (nI an) (rep cm') (repE W GG') (repE W LL') (repE W NG') (repE W NL') DO MT LT' (rep cu) (rep fu) (repW Wo) (repL Be) (rep st)) → wp_X4_time (nI b) v2 m_thrown m_sets m_ways m_penalty (nI B) (nI E) (nI P) (nI n) m_isFresh m_isAnswer (rep tm) (rep tc) (rep ts) line (rep fr) (rep to) (rpB bn) (rep pa) (rep pb) m_comeTo m_greatest m_least m_nowGreatest m_nowLeast m_does m_mostTime m_leastTime m_countUnit m_flagUnit m_worst m_best m_stack Qm := by
      intro Qm hQ
      unfold wp_X4_time
      refine sp_within0 (by omega) (fun hv => absurd rfl (no_ix (by omega) hb hv)) (fun b' hb' hb2 => ⟨fun w => absurd w (by decide), fun _ => sp_within1 (fun g1 g2 => absurd hw (fun w => w.elim g1 g2)) (fun _ => ⟨fun _ => ?_, fun w => absurd w (by decide)⟩)⟩)
      refine md_work hpg hmd (fun an cm' GG' LL' NG' NL' cu fu Wo Be st DO MT LT' han hc' hG' hA' hs hI' => ?_)
      obtain ⟨s1, s2, s3⟩ := hi_same (pn := pn) (tm := tm) btc (fun b => (hcc b).1) hc' hA.1 hA'.1 b hb
      obtain ⟨⟨m1, m2⟩, _⟩ := hA'.2 b hb
      obtain ⟨g1, g2⟩ := hA.2.2.1 b hb
      rw [cb, m1, m2, lN_i, lN_i, ← s2, ← s3, ← g1, ← g2]
      have k := hQ an cm' GG' LL' NG' NL' cu fu Wo Be st DO MT LT' (hI' 0)
      refine ⟨fun q => ⟨ib, ?_⟩, fun q => ⟨ib, ?_⟩⟩
      · rw [if_neg q] at k; exact k
      · rw [if_pos q] at k; exact k
    refine ⟨fun q => ⟨ib, MB _ (fun an cm' GG' LL' NG' NL' cu fu Wo Be st DO MT LT' hI' => ⟨rfl, fun _ => by rw [pk_uLs, if_pos q], ⟨W, B, n, E, P, pn, tm, tc, ts, fr, to, bn, pa, pb, lv, fl, line, sets, hpg, hI, hI'⟩⟩)⟩, fun q => ⟨ib, MB _ (fun an cm' GG' LL' NG' NL' cu fu Wo Be st DO MT LT' hI' => ⟨rfl, fun _ => by rw [pk_uLs, if_neg q], ⟨W, B, n, E, P, pn, tm, tc, ts, fr, to, bn, pa, pb, lv, fl, line, sets, hpg, hI, hI'⟩⟩)⟩⟩
theorem cp_count {x_agesStand : Int32} {x_searchStands : Int32} {p_blocks : Int32} {p_lines : Int32} {p_edges : Int32} {p_pairs : Int32} {g_sets : Int32} {g_size : Int32} {g_penalty : Int32} {g_comeCount : Int32} {s_answered : Int32} {s_codes : Int32} {s_ordered : Int32} {p_times : Nat → Int32} {p_touchCounts : Nat → Int32} {p_touchSlots : Nat → Int32} {p_lineOfSlot : Nat → Int32} {p_from : Nat → Int32} {p_to : Nat → Int32} {p_bounds : Nat → Int32} {p_pairA : Nat → Int32} {p_pairB : Nat → Int32} {p_leaving : Nat → Int32} {p_firstLeaving : Nat → Int32} {g_come : Nat → Int32} {g_outcomes : Nat → Int32} {g_greatestTimes : Nat → Int32} {g_leastTimes : Nat → Int32} {g_changed : Nat → Int32} {g_greatest : Nat → Int32} {g_least : Nat → Int32} {g_greatestNow : Nat → Int32} {g_leastNow : Nat → Int32} {s_order : Nat → Int32} {s_arriving : Nat → Int32} {s_unit : Nat → Int32} {s_flag : Nat → Int32} {s_forbidding : Nat → Int32} {s_most : Nat → Int64} {s_fewest : Nat → Int64} {m_thrown : Int32} {m_sets : Int32} {m_ways : Int32} {m_penalty : Int32} {m_blocks : Int32} {m_edges : Int32} {m_pairs : Int32} {m_lines : Int32} {m_isFresh : Int32} {m_isAnswer : Int32} {m_time : Nat → Int32} {m_touchMany : Nat → Int32} {m_touch : Nat → Int32} {m_line : Nat → Int32} {m_from : Nat → Int32} {m_to : Nat → Int32} {m_bound : Nat → Int32} {m_pairA : Nat → Int32} {m_pairB : Nat → Int32} {m_comeTo : Nat → Int32} {m_greatest : Nat → Int32} {m_least : Nat → Int32} {m_nowGreatest : Nat → Int32} {m_nowLeast : Nat → Int32} {m_does : Nat → Int32} {m_mostTime : Nat → Int64} {m_leastTime : Nat → Int64} {m_countUnit : Nat → Int32} {m_flagUnit : Nat → Int32} {m_worst : Nat → Int64} {m_best : Nat → Int64} {m_stack : Nat → Int32} (h : cpI x_agesStand x_searchStands p_blocks p_lines p_edges p_pairs g_sets g_size g_penalty g_comeCount s_answered s_codes s_ordered p_times p_touchCounts p_touchSlots p_lineOfSlot p_from p_to p_bounds p_pairA p_pairB p_leaving p_firstLeaving g_come g_outcomes g_greatestTimes g_leastTimes g_changed g_greatest g_least g_greatestNow g_leastNow s_order s_arriving s_unit s_flag s_forbidding s_most s_fewest m_thrown m_sets m_ways m_penalty m_blocks m_edges m_pairs m_lines m_isFresh m_isAnswer m_time m_touchMany m_touch m_line m_from m_to m_bound m_pairA m_pairB m_comeTo m_greatest m_least m_nowGreatest m_nowLeast m_does m_mostTime m_leastTime m_countUnit m_flagUnit m_worst m_best m_stack) (v1 : Int32) :
    wp_X3_count v1 x_agesStand p_blocks p_lines p_edges p_pairs g_sets g_size g_penalty g_comeCount p_times p_touchCounts p_touchSlots p_lineOfSlot p_to p_leaving p_firstLeaving g_come g_outcomes g_greatestTimes g_leastTimes g_changed g_greatest g_least g_greatestNow g_leastNow (fun r xa gcc gco gou ggt glt gch gg gl ggn gln => wp_X4_count v1 m_thrown m_sets m_ways m_penalty m_blocks m_edges m_pairs m_lines m_isFresh m_isAnswer m_time m_touchMany m_touch m_line m_from m_to m_bound m_pairA m_pairB m_comeTo m_greatest m_least m_nowGreatest m_nowLeast m_does m_mostTime m_leastTime m_countUnit m_flagUnit m_worst m_best m_stack (fun b th mf ma mco mg ml mng mnl mdo mmt mlt mcu mfu mw mb mst => r = b ∧ cpI xa x_searchStands p_blocks p_lines p_edges p_pairs g_sets g_size g_penalty gcc s_answered s_codes s_ordered p_times p_touchCounts p_touchSlots p_lineOfSlot p_from p_to p_bounds p_pairA p_pairB p_leaving p_firstLeaving gco gou ggt glt gch gg gl ggn gln s_order s_arriving s_unit s_flag s_forbidding s_most s_fewest th m_sets m_ways m_penalty m_blocks m_edges m_pairs m_lines mf ma m_time m_touchMany m_touch m_line m_from m_to m_bound m_pairA m_pairB mco mg ml mng mnl mdo mmt mlt mcu mfu mw mb mst)) := by
  obtain ⟨W, B, n, E, P, pn, tm, tc, ts, fr, to, bn, pa, pb, lv, fl, line, sets, hpg, hcl, hmd⟩ := id h
  obtain ⟨⟨⟨bW, bB, bn4, bE⟩, btc, bfr, bfl, ball⟩, a2, a3, a4, a5, a6, a7, a8⟩ := id hpg
  obtain ⟨⟨c1, c2, c3, c4, c5, c6, c7⟩, -⟩ := id hcl.1
  obtain ⟨⟨d1, d2, d3, d4, d5, d6, d7⟩, -⟩ := id hmd.1
  have c5 := c5.symm
  have d5 := d5.symm
  subst c1 c2 c3 c4 c5 c6 c7 d1 d2 d3 d4 d5 d6 d7
  have fail : ∀ th, _ := cp_th h
  have i0 : (0 : Int32).toInt = 0 := by decide
  have i7 : (7 : Int32).toInt = 7 := by decide
  have win : ∀ {v : Int32} {Q : Int32 → Prop}, ¬ v < 0 → ¬ 7 < v → Q 1 → wp_X4_within v 0 7 Q := fun {v Q} h1 h2 hQ => ⟨fun w => absurd w h1, fun _ => ⟨fun w => absurd w h2, fun _ => hQ⟩⟩
  unfold wp_X3_count
  refine ⟨fun q => ?_, fun q => ?_, fun q => ?_, fun q => ?_, fun q => ?_, fun q => ?_, fun q => ?_, fun q => ?_, fun q0 q1 q2 q3 q4 q5 q6 q7 => ?_⟩
  · subst q
    unfold wp_X4_count
    exact win (by decide) (by decide) ⟨fun _ => ⟨fun _ => ⟨fun w => absurd rfl w, fun _ => ⟨rfl, fail 0⟩⟩, fun w => absurd w (by decide)⟩, fun w => absurd w (by decide)⟩
  · subst q
    unfold wp_X4_count
    exact win (by decide) (by decide) ⟨fun _ => ⟨fun _ => ⟨fun _ => ⟨fun w => absurd rfl w, fun _ => ⟨rfl, fail 0⟩⟩, fun w => absurd w (by decide)⟩, fun w => absurd w (by decide)⟩, fun w => absurd w (by decide)⟩
  · subst q
    unfold wp_X4_count
    exact win (by decide) (by decide) ⟨fun _ => ⟨fun _ => ⟨fun _ => ⟨fun _ => ⟨fun w => absurd rfl w, fun _ => ⟨rfl, fail 0⟩⟩, fun w => absurd w (by decide)⟩, fun w => absurd w (by decide)⟩, fun w => absurd w (by decide)⟩, fun w => absurd w (by decide)⟩
  · subst q
    unfold wp_X4_count
    exact win (by decide) (by decide) ⟨fun _ => ⟨fun _ => ⟨fun _ => ⟨fun _ => ⟨fun _ => ⟨fun w => absurd rfl w, fun _ => ⟨rfl, fail 0⟩⟩, fun w => absurd w (by decide)⟩, fun w => absurd w (by decide)⟩, fun w => absurd w (by decide)⟩, fun w => absurd w (by decide)⟩, fun w => absurd w (by decide)⟩
  · subst q
    refine cl_settle hpg hcl (fun cm ch GG LL NG NL cmc O GT LT hcc hG hN hA hI => ?_)
    unfold wp_X4_count
    refine win (by decide) (by decide) ⟨fun _ => ⟨fun w => absurd rfl w, fun _ => ?_⟩, fun w => absurd w (by decide)⟩
    refine md_work hpg hmd (fun an cm' GG' LL' NG' NL' cu fu Wo Be st DO MT LT' han hc' hG' hA' hs hI' => ?_)
    have sm := ag_same (fun b => (hcc b).1) hc' hA.1 hA'.1
    have es : sumN cm B = sumN cm' B := sumN_eq B (fun k hk => (sm k hk).1)
    have LP : ∀ d b, b + d = B → lp_X4_count_30 0 sets (nI W) (nI pn) (nI B) (nI E) (nI P) (nI n) 1 (nI an) m_time m_touchMany m_touch m_line m_from m_to m_bound m_pairA m_pairB (rep cm') (repE W GG') (repE W LL') (repE W NG') (repE W NL') DO MT LT' (rep cu) (rep fu) (repW Wo) (repL Be) (rep st) (fun b th mf ma mco mg ml mng mnl mdo mmt mlt mcu mfu mw mb mst => cmc = b ∧ cpI 1 x_searchStands (nI B) (nI n) (nI E) (nI P) sets (nI W) (nI pn) cmc s_answered s_codes s_ordered p_times p_touchCounts p_touchSlots p_lineOfSlot p_from p_to p_bounds p_pairA p_pairB p_leaving p_firstLeaving (rep cm) O GT LT (rep ch) (rep GG) (rep LL) (rep NG) (rep NL) s_order s_arriving s_unit s_flag s_forbidding s_most s_fewest th sets (nI W) (nI pn) (nI B) (nI E) (nI P) (nI n) mf ma m_time m_touchMany m_touch m_line m_from m_to m_bound m_pairA m_pairB mco mg ml mng mnl mdo mmt mlt mcu mfu mw mb mst) (d + 1) (nI (sumN cm' b)) (nI b) := by
      intro d
      induction d with
      | zero =>
        intro b hb
        have z : b = B := by omega
        subst z
        unfold lp_X4_count_30
        refine ⟨fun _ => ⟨?_, ⟨W, b, n, E, P, pn, tm, tc, ts, fr, to, bn, pa, pb, lv, fl, line, sets, hpg, hI, hI' 0⟩⟩, fun q => absurd (nI_le (Nat.le_refl _) (by omega)) q⟩
        rw [hA.2.2.2, es]
      | succ d ih =>
        intro b hb
        have hlt : b < B := by omega
        have cb : (nI b).toNatClampNeg = b := nI_clamp (by omega)
        have z0 : nI (cm' b) = 0 ↔ cm' b = 0 := by rw [← nI_0]; exact nI_eq (by have := hc' b; omega) (by decide)
        have nx := ih (b + 1) (by omega)
        have sb : sumN cm' (b + 1) = sumN cm' b + cm' b := rfl
        unfold lp_X4_count_30
        rw [cb, rep_at cm', z0, nI_1 b]
        refine ⟨fun q => absurd q (nI_ge hlt (by omega)), fun _ => ⟨vp_in_nI (by omega) (by decide), fun q => ?_, fun q => ?_⟩⟩
        · rw [sb, q, Nat.add_zero] at nx
          have e0 : nI (sumN cm' b) + 0 = nI (sumN cm' b) := by rw [Int32.add_zero]
          rw [e0]
          exact nx
        · have : cm' b = 1 := by have := hc' b; omega
          rw [sb, this, ← nI_1] at nx
          exact nx
    have k := LP B 0 (by omega)
    have s0 : sumN cm' 0 = 0 := rfl
    rw [s0, nI_0] at k
    exact ⟨B + 1, k⟩
  · subst q
    unfold wp_X4_count
    exact win (by decide) (by decide) ⟨fun _ => ⟨fun _ => ⟨fun _ => ⟨fun _ => ⟨fun _ => ⟨fun _ => ⟨fun w => absurd rfl w, fun _ => ⟨rfl, fail 0⟩⟩, fun w => absurd w (by decide)⟩, fun w => absurd w (by decide)⟩, fun w => absurd w (by decide)⟩, fun w => absurd w (by decide)⟩, fun w => absurd w (by decide)⟩, fun w => absurd w (by decide)⟩
  · subst q
    unfold wp_X4_count
    exact win (by decide) (by decide) ⟨fun _ => ⟨fun _ => ⟨fun _ => ⟨fun _ => ⟨fun _ => ⟨fun _ => ⟨fun _ => ⟨fun w => absurd rfl w, fun _ => ⟨rfl, fail 0⟩⟩, fun w => absurd w (by decide)⟩, fun w => absurd w (by decide)⟩, fun w => absurd w (by decide)⟩, fun w => absurd w (by decide)⟩, fun w => absurd w (by decide)⟩, fun w => absurd w (by decide)⟩, fun w => absurd w (by decide)⟩
  · subst q
    unfold wp_X4_count
    exact win (by decide) (by decide) ⟨fun _ => ⟨fun _ => ⟨fun _ => ⟨fun _ => ⟨fun _ => ⟨fun _ => ⟨fun _ => ⟨fun _ => ⟨rfl, fail 0⟩, fun w => absurd w (by decide)⟩, fun w => absurd w (by decide)⟩, fun w => absurd w (by decide)⟩, fun w => absurd w (by decide)⟩, fun w => absurd w (by decide)⟩, fun w => absurd w (by decide)⟩, fun w => absurd w (by decide)⟩, fun w => absurd w (by decide)⟩
  · unfold wp_X4_count wp_X4_within
    have no8 : v1 < 0 ∨ 7 < v1 := by
      rcases Classical.em (v1 < 0 ∨ 7 < v1) with z | z
      · exact z
      · exfalso
        have z1 : ¬ v1 < 0 := fun w => z (Or.inl w)
        have z2 : v1 ≤ 7 := Int32.not_lt.mp (fun w => z (Or.inr w))
        obtain ⟨j, j1, j2⟩ := nI_of2 (M := 7) (n := 7) (by decide) z1 z2
        subst j2
        have : j = 0 ∨ j = 1 ∨ j = 2 ∨ j = 3 ∨ j = 4 ∨ j = 5 ∨ j = 6 ∨ j = 7 := by omega
        rcases this with w | w | w | w | w | w | w | w <;> subst w
        · exact q0 rfl
        · exact q1 rfl
        · exact q2 rfl
        · exact q3 rfl
        · exact q4 rfl
        · exact q5 rfl
        · exact q6 rfl
        · exact q7 rfl
    refine ⟨fun _ => ⟨fun w => absurd rfl w, fun _ => ⟨rfl, fail 0⟩⟩, fun w1 => ⟨fun _ => ⟨fun w => absurd rfl w, fun _ => ⟨rfl, fail 0⟩⟩, fun w2 => ?_⟩⟩
    rcases no8 with z | z
    · exact absurd z w1
    · exact absurd z w2
