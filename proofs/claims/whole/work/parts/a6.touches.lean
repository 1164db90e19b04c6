theorem cp_touches {x_agesStand : Int32} {x_searchStands : Int32} {p_blocks : Int32} {p_lines : Int32} {p_edges : Int32} {p_pairs : Int32} {g_sets : Int32} {g_size : Int32} {g_penalty : Int32} {g_comeCount : Int32} {s_answered : Int32} {s_codes : Int32} {s_ordered : Int32} {p_times : Nat → Int32} {p_touchCounts : Nat → Int32} {p_touchSlots : Nat → Int32} {p_lineOfSlot : Nat → Int32} {p_from : Nat → Int32} {p_to : Nat → Int32} {p_bounds : Nat → Int32} {p_pairA : Nat → Int32} {p_pairB : Nat → Int32} {p_leaving : Nat → Int32} {p_firstLeaving : Nat → Int32} {g_come : Nat → Int32} {g_outcomes : Nat → Int32} {g_greatestTimes : Nat → Int32} {g_leastTimes : Nat → Int32} {g_changed : Nat → Int32} {g_greatest : Nat → Int32} {g_least : Nat → Int32} {g_greatestNow : Nat → Int32} {g_leastNow : Nat → Int32} {s_order : Nat → Int32} {s_arriving : Nat → Int32} {s_unit : Nat → Int32} {s_flag : Nat → Int32} {s_forbidding : Nat → Int32} {s_most : Nat → Int64} {s_fewest : Nat → Int64} {m_thrown : Int32} {m_sets : Int32} {m_ways : Int32} {m_penalty : Int32} {m_blocks : Int32} {m_edges : Int32} {m_pairs : Int32} {m_lines : Int32} {m_isFresh : Int32} {m_isAnswer : Int32} {m_time : Nat → Int32} {m_touchMany : Nat → Int32} {m_touch : Nat → Int32} {m_line : Nat → Int32} {m_from : Nat → Int32} {m_to : Nat → Int32} {m_bound : Nat → Int32} {m_pairA : Nat → Int32} {m_pairB : Nat → Int32} {m_comeTo : Nat → Int32} {m_greatest : Nat → Int32} {m_least : Nat → Int32} {m_nowGreatest : Nat → Int32} {m_nowLeast : Nat → Int32} {m_does : Nat → Int32} {m_mostTime : Nat → Int64} {m_leastTime : Nat → Int64} {m_countUnit : Nat → Int32} {m_flagUnit : Nat → Int32} {m_worst : Nat → Int64} {m_best : Nat → Int64} {m_stack : Nat → Int32} (h : cpI x_agesStand x_searchStands p_blocks p_lines p_edges p_pairs g_sets g_size g_penalty g_comeCount s_answered s_codes s_ordered p_times p_touchCounts p_touchSlots p_lineOfSlot p_from p_to p_bounds p_pairA p_pairB p_leaving p_firstLeaving g_come g_outcomes g_greatestTimes g_leastTimes g_changed g_greatest g_least g_greatestNow g_leastNow s_order s_arriving s_unit s_flag s_forbidding s_most s_fewest m_thrown m_sets m_ways m_penalty m_blocks m_edges m_pairs m_lines m_isFresh m_isAnswer m_time m_touchMany m_touch m_line m_from m_to m_bound m_pairA m_pairB m_comeTo m_greatest m_least m_nowGreatest m_nowLeast m_does m_mostTime m_leastTime m_countUnit m_flagUnit m_worst m_best m_stack) (v1 v2 : Int32) (f : Nat → Int64) :
    wp_L_touches v1 v2 x_agesStand p_blocks p_lines g_sets g_size g_penalty g_comeCount p_times p_touchCounts p_touchSlots p_lineOfSlot p_to p_leaving p_firstLeaving g_come g_outcomes g_greatestTimes g_leastTimes g_changed g_greatest g_least g_greatestNow g_leastNow f (fun k xa gcc gco gou ggt glt gch gg gl ggn gln f' => wp_X4_touches v1 v2 m_thrown m_sets m_ways m_penalty m_blocks m_edges m_pairs m_lines m_isFresh m_isAnswer m_time m_touchMany m_touch m_line m_from m_to m_bound m_pairA m_pairB m_comeTo m_greatest m_least m_nowGreatest m_nowLeast m_does m_mostTime m_leastTime m_countUnit m_flagUnit m_worst m_best m_stack (fun b th mf ma mco mg ml mng mnl mdo mmt mlt mcu mfu mw mb mst => th = k ∧ (k = 0 → f' 0 = b.toInt64) ∧ cpI xa x_searchStands p_blocks p_lines p_edges p_pairs g_sets g_size g_penalty gcc s_answered s_codes s_ordered p_times p_touchCounts p_touchSlots p_lineOfSlot p_from p_to p_bounds p_pairA p_pairB p_leaving p_firstLeaving gco gou ggt glt gch gg gl ggn gln s_order s_arriving s_unit s_flag s_forbidding s_most s_fewest th m_sets m_ways m_penalty m_blocks m_edges m_pairs m_lines mf ma m_time m_touchMany m_touch m_line m_from m_to m_bound m_pairA m_pairB mco mg ml mng mnl mdo mmt mlt mcu mfu mw mb mst)) := by
  obtain ⟨W, B, n, E, P, pn, tm, tc, ts, fr, to, bn, pa, pb, lv, fl, line, sets, hpg, hcl, hmd⟩ := id h
  obtain ⟨⟨⟨bW, bB, bn4, bE⟩, btc, bfr, bfl, ball⟩, a2, a3, a4, a5, a6, a7, a8⟩ := id hpg
  obtain ⟨⟨c1, c2, c3, c4, -, -, -⟩, e1, e2, e3, e4, e5, e6, e7, e8, e9, e10, e11⟩ := id hcl.1
  obtain ⟨⟨d1, d2, d3, d4, -, -, -⟩, f1, f2, f3, f4, f5, f6, f7, f8, f9⟩ := id hmd.1
  have e4 := e4.symm
  have f4 := f4.symm
  subst c1 c2 c3 c4 e1 e2 e3 e4 e5 e6 e7 e8 e9 e10 e11 d1 d2 d3 d4 f1 f2 f3 f4 f5 f6 f7 f8 f9
  have fail : ∀ th, _ := cp_th h
  have no : ∀ {v : Int32} {N j : Nat}, N ≤ 80 → j < N → (v < 0 ∨ nI N ≤ v) → ¬ v = nI j := fun {v N j} hN hj hv e => by
    subst e
    rcases hv with z | z
    · exact absurd z (nI_pos (by omega))
    · exact absurd z (nI_ge hj (by omega))
  unfold wp_L_touches wp_X3_touches
  refine sp_hasB (by omega) (fun hv => ⟨fun _ => ⟨rfl, ?_⟩, fun w => absurd rfl w⟩) (fun b hb hv => ⟨fun w => absurd w (by decide), fun _ => ?_⟩)
  · unfold wp_X4_touches
    exact sp_within0 (by omega) (fun _ => ⟨fun _ => ⟨rfl, fun w => absurd w (by decide), fail 1⟩, fun w => absurd rfl w⟩) (fun b hb hb2 => absurd hb2 (no (by omega) hb hv))
  · subst hv
    have cb : (nI b).toNatClampNeg = b := nI_clamp (by omega)
    have ib : vp_in (nI b) 40 := vp_in_nI (by omega) (by decide)
    obtain ⟨tb, tb2⟩ := btc b hb
    have bad : (v2 < 0 ∨ nI (tc b) ≤ v2) → ∀ (Qm : Int32 → Int32 → Int32 → Int32 → (Nat → Int32) → (Nat → Int32) → (Nat → Int32) → (Nat → Int32) → (Nat → Int32) → (Nat → Int32) → (Nat → Int64) → (Nat → Int64) → (Nat → Int32) → (Nat → Int32) → (Nat → Int64) → (Nat → Int64) → (Nat → Int32) → Prop), Qm 0 1 m_isFresh m_isAnswer m_comeTo m_greatest m_least m_nowGreatest m_nowLeast m_does m_mostTime m_leastTime m_countUnit m_flagUnit m_worst m_best m_stack → wp_X4_touches (nI b) v2 m_thrown m_sets m_ways m_penalty (nI B) (nI E) (nI P) (nI n) m_isFresh m_isAnswer (rep tm) (rep tc) (rep ts) line (rep fr) (rep to) (rpB bn) (rep pa) (rep pb) m_comeTo m_greatest m_least m_nowGreatest m_nowLeast m_does m_mostTime m_leastTime m_countUnit m_flagUnit m_worst m_best m_stack Qm := by
      intro hv Qm hQ
      unfold wp_X4_touches
      refine sp_within0 (by omega) (fun hv => absurd rfl (no (by omega) hb hv)) (fun b' hb' hb2 => ⟨fun w => absurd w (by decide), fun _ => ⟨ib, ?_⟩⟩)
      rw [cb, rep_at tc]
      exact sp_within0 (by omega) (fun _ => ⟨fun w => absurd rfl w, fun _ => hQ⟩) (fun i hi hi2 => absurd hi2 (no (by omega) hi hv))
    rw [cb, rep_at tc]
    refine ⟨fun q => ⟨rfl, bad (Or.inl q) _ ⟨rfl, fun w => absurd w (by decide), fail 1⟩⟩, fun q => ⟨ib, fun q2 => ?_, fun q2 => ⟨rfl, bad (Or.inr (Int32.not_lt.mp q2)) _ ⟨rfl, fun w => absurd w (by decide), fail 1⟩⟩⟩⟩
    obtain ⟨i, hi, hi2⟩ : ∃ i, i < tc b ∧ v2 = nI i := by
      rcases pk_ix v2 (n := tc b) (by omega) with z | z | z
      · exact absurd z q
      · exact absurd z (Int32.not_le.mpr q2)
      · exact z
    subst hi2
    have ci : (nI (b * 6 + i)).toNatClampNeg = b * 6 + i := nI_clamp (by omega)
    have ii : vp_in (nI (b * 6 + i)) 240 := vp_in_nI (by omega) (by decide)
    refine cl_settle hpg hcl (fun cm ch GG LL NG NL cmc O GT LT hcc hG hN hA hI => ?_)
    have z0 : nI (cm b) = 0 ↔ cm b = 0 := by rw [← nI_0]; exact nI_eq (by have := (hcc b).1; omega) (by decide)
    have MB : ∀ (Qm : Int32 → Int32 → Int32 → Int32 → (Nat → Int32) → (Nat → Int32) → (Nat → Int32) → (Nat → Int32) → (Nat → Int32) → (Nat → Int32) → (Nat → Int64) → (Nat → Int64) → (Nat → Int32) → (Nat → Int32) → (Nat → Int64) → (Nat → Int64) → (Nat → Int32) → Prop), (∀ (an : Nat) (cm' GG' LL' NG' NL' cu fu Wo Be st : Nat → Nat) (DO : Nat → Int32) (MT LT' : Nat → Int64), mdI W B n E P pn tm tc ts fr to bn pa pb lv fl line sets 0 m_sets m_ways m_penalty (nI B) (nI E) (nI P) (nI n) 1 (nI an) (rep tm) (rep tc) (rep ts) line (rep fr) (rep to) (rpB bn) (rep pa) (rep pb) (rep cm') (repE W GG') (repE W LL') (repE W NG') (repE W NL') DO MT LT' (rep cu) (rep fu) (repW Wo) (repL Be) (rep st) → Qm (if cm b = 1 then nI (@agOc W n line sets (smD n line sets) ts GG LL b i) else -1) 0 1 (nI an) (rep cm') (repE W GG') (repE W LL') (repE W NG') (repE W NL') DO MT LT' (rep cu) (rep fu) (repW Wo) (repL Be) (rep st)) → wp_X4_touches (nI b) (nI i) m_thrown m_sets m_ways m_penalty (nI B) (nI E) (nI P) (nI n) m_isFresh m_isAnswer (rep tm) (rep tc) (rep ts) line (rep fr) (rep to) (rpB bn) (rep pa) (rep pb) m_comeTo m_greatest m_least m_nowGreatest m_nowLeast m_does m_mostTime m_leastTime m_countUnit m_flagUnit m_worst m_best m_stack Qm := by
      intro Qm hQ
      unfold wp_X4_touches
      refine sp_within0 (by omega) (fun hv => absurd rfl (no (by omega) hb hv)) (fun b' hb' hb2 => ⟨fun w => absurd w (by decide), fun _ => ⟨ib, ?_⟩⟩)
      rw [cb, rep_at tc]
      refine sp_within0 (by omega) (fun hv => absurd rfl (no (by omega) hi hv)) (fun i' hi' hi2 => ⟨fun _ => ?_, fun w => absurd w (by decide)⟩)
      refine md_work hpg hmd (fun an cm' GG' LL' NG' NL' cu fu Wo Be st DO MT LT' han hc' hG' hA' hs hI' => ?_)
      rw [nI_6m, nI_add, ci]
      refine ⟨ii, ?_⟩
      have hd := (hA'.2 b hb).2 i hi
      obtain ⟨s1, s2⟩ := ag_same (fun b => (hcc b).1) hc' hA.1 hA'.1 b hb
      have e : DO (b * 6 + i) = if cm b = 1 then nI (@agOc W n line sets (smD n line sets) ts GG LL b i) else -1 := by
        rw [hd]
        unfold agDv
        rw [← s1]
        by_cases z : cm b = 1
        · rw [if_pos z, if_pos z, oc_same (s2 z) (fun j hj => tb2 j (by omega))]
        · rw [if_neg z, if_neg z]
      rw [e]
      exact hQ an cm' GG' LL' NG' NL' cu fu Wo Be st DO MT LT' (hI' 0)
    rw [nI_m6, nI_add, ci, rep_at cm, z0]
    refine ⟨ib, fun y => MB _ (fun an cm' GG' LL' NG' NL' cu fu Wo Be st DO MT LT' hI' => ⟨rfl, fun _ => ?_, ?_⟩), fun y => ⟨ii, MB _ (fun an cm' GG' LL' NG' NL' cu fu Wo Be st DO MT LT' hI' => ⟨rfl, fun _ => ?_, ?_⟩)⟩⟩
    · rw [pk_uLs, if_neg (by omega)]
    · exact ⟨W, B, n, E, P, pn, tm, tc, ts, fr, to, bn, pa, pb, lv, fl, line, sets, hpg, hI, hI'⟩
    · have y : cm b = 1 := by have := (hcc b).1; omega
      rw [pk_uLs, if_pos y]
      have := hA.2.1 b hb y i hi
      rw [this]
      rfl
    · exact ⟨W, B, n, E, P, pn, tm, tc, ts, fr, to, bn, pa, pb, lv, fl, line, sets, hpg, hI, hI'⟩
