theorem md_answer {W B n E P pn : Nat} {tm tc ts fr to bn pa pb lv fl : Nat → Nat} {line : Nat → Int32} {sets : Int32} {m_thrown : Int32} {m_sets : Int32} {m_ways : Int32} {m_penalty : Int32} {m_blocks : Int32} {m_edges : Int32} {m_pairs : Int32} {m_lines : Int32} {m_isFresh : Int32} {m_isAnswer : Int32} {m_time : Nat → Int32} {m_touchMany : Nat → Int32} {m_touch : Nat → Int32} {m_line : Nat → Int32} {m_from : Nat → Int32} {m_to : Nat → Int32} {m_bound : Nat → Int32} {m_pairA : Nat → Int32} {m_pairB : Nat → Int32} {m_comeTo : Nat → Int32} {m_greatest : Nat → Int32} {m_least : Nat → Int32} {m_nowGreatest : Nat → Int32} {m_nowLeast : Nat → Int32} {m_does : Nat → Int32} {m_mostTime : Nat → Int64} {m_leastTime : Nat → Int64} {m_countUnit : Nat → Int32} {m_flagUnit : Nat → Int32} {m_worst : Nat → Int64} {m_best : Nat → Int64} {m_stack : Nat → Int32} {Q : Int32 → Int32 → Int32 → Int32 → (Nat → Int32) → (Nat → Int32) → (Nat → Int32) → (Nat → Int32) → (Nat → Int32) → (Nat → Int32) → (Nat → Int64) → (Nat → Int64) → (Nat → Int32) → (Nat → Int32) → (Nat → Int64) → (Nat → Int64) → (Nat → Int32) → Prop} (hpg : pgI W B n E P pn tm tc ts fr to bn pa pb lv fl) (h : mdI W B n E P pn tm tc ts fr to bn pa pb lv fl line sets m_thrown m_sets m_ways m_penalty m_blocks m_edges m_pairs m_lines m_isFresh m_isAnswer m_time m_touchMany m_touch m_line m_from m_to m_bound m_pairA m_pairB m_comeTo m_greatest m_least m_nowGreatest m_nowLeast m_does m_mostTime m_leastTime m_countUnit m_flagUnit m_worst m_best m_stack)
    (hq : ∀ (an : Nat) (cm GG LL NG NL cu fu Wo Be st : Nat → Nat) (DO : Nat → Int32) (MT LT : Nat → Int64), an ≤ 1 → (∀ b, cm b ≤ 1) → agMd W B n E pn tm tc ts fr to line sets cm GG LL DO MT LT → seR B E P bn pa pb cm fr to (hiT W n line sets pn tm tc ts cm GG LL) (loT W n line sets pn tm tc ts cm GG LL) cu fu Wo Be an →
      (∀ th, mdI W B n E P pn tm tc ts fr to bn pa pb lv fl line sets th m_sets m_ways m_penalty m_blocks m_edges m_pairs m_lines 1 (nI an) m_time m_touchMany m_touch m_line m_from m_to m_bound m_pairA m_pairB (rep cm) (repE W GG) (repE W LL) (repE W NG) (repE W NL) DO MT LT (rep cu) (rep fu) (repW Wo) (repL Be) (rep st)) → Q (nI an) (nI (1 - an)) 1 (nI an) (rep cm) (repE W GG) (repE W LL) (repE W NG) (repE W NL) DO MT LT (rep cu) (rep fu) (repW Wo) (repL Be) (rep st)) :
    wp_X4_hasAnswer m_thrown m_sets m_ways m_penalty m_blocks m_edges m_pairs m_lines m_isFresh m_isAnswer m_time m_touchMany m_touch m_line m_from m_to m_bound m_pairA m_pairB m_comeTo m_greatest m_least m_nowGreatest m_nowLeast m_does m_mostTime m_leastTime m_countUnit m_flagUnit m_worst m_best m_stack Q := by
  unfold wp_X4_hasAnswer
  refine md_work hpg h (fun an cm GG LL NG NL cu fu Wo Be st DO MT LT han hc hG hA hs hI => ?_)
  have k := hq an cm GG LL NG NL cu fu Wo Be st DO MT LT han hc hA hs hI
  have z0 : nI an = 0 ↔ an = 0 := by rw [← nI_0]; exact nI_eq (by omega) (by decide)
  rw [z0]
  refine ⟨fun q => ⟨nar01 han, ?_⟩, fun q => ⟨nar01 han, ?_⟩⟩
  · subst q
    exact k
  · have q : an = 1 := by omega
    subst q
    exact k
theorem se_both {W B n E P pn an an' cc : Nat} {tm tc ts fr to bn pa pb lv fl : Nat → Nat} {line : Nat → Int32} {sets : Int32} {cm GG LL cm' GG' LL' un fg fo cu fu Mo Fe Wo Be : Nat → Nat} (hpg : pgI W B n E P pn tm tc ts fr to bn pa pb lv fl) (hc : ∀ b, cm b ≤ 1) (hc' : ∀ b, cm' b ≤ 1) (hA : agI W B n E tc ts fr to line sets cm GG LL) (hA' : agI W B n E tc ts fr to line sets cm' GG' LL')
    (hs : seC B E P bn pa pb cm fr to (hiT W n line sets pn tm tc ts cm GG LL) (loT W n line sets pn tm tc ts cm GG LL) un fg fo Mo Fe an cc) (hs' : seR B E P bn pa pb cm' fr to (hiT W n line sets pn tm tc ts cm' GG' LL') (loT W n line sets pn tm tc ts cm' GG' LL') cu fu Wo Be an') :
    seR B E P bn pa pb cm fr to (hiT W n line sets pn tm tc ts cm GG LL) (loT W n line sets pn tm tc ts cm GG LL) cu fu Wo Be an' ∧ an = an' ∧ (an = 1 → Wo 0 - 1 = Mo 0 ∧ Be 0 = Fe 0 ∧ (∀ k r s, wayC B E P bn pa pb fr to (hiT W n line sets pn tm tc ts cm GG LL) Mo k 0 0 r → wayR B E P bn pa pb fr to (hiT W n line sets pn tm tc ts cm GG LL) (fun s => Wo s - 1) k 0 s → r = s) ∧ (∀ k r s, wayC B E P bn pa pb fr to (loT W n line sets pn tm tc ts cm GG LL) Fe k 0 0 r → wayR B E P bn pa pb fr to (loT W n line sets pn tm tc ts cm GG LL) Be k 0 s → r = s)) := by
  obtain ⟨⟨⟨bW, bB, bn4, bE⟩, btc, bfr, bfl, ball⟩, a2, a3, a4, a5, a6, a7, a8⟩ := hpg
  have sm := hi_same (pn := pn) (tm := tm) btc hc hc' hA hA'
  have k := seR_cg bfr sm hs'
  obtain ⟨hc0, hcl⟩ := agI_cl hA
  exact ⟨k, se_one bfr a3.2.2.2 hcl hc0 hs k⟩
theorem lW_k {v w : Nat} (h0 : v ≠ 0) (h : v - 1 = w) : lW v = lE w := by
  have := lW_s (v - 1)
  rw [Nat.sub_add_cancel (by omega), h] at this
  exact this
theorem seR_w {B E P : Nat} {bn pa pb cm fr to tH tL cu fu Wo Be : Nat → Nat} (h : seR B E P bn pa pb cm fr to tH tL cu fu Wo Be 1) : Wo 0 ≠ 0 := by
  rcases h with ⟨_, _, _, _, _, k, _⟩ | ⟨k, _⟩
  · exact k
  · omega
theorem cp_worst {x_agesStand : Int32} {x_searchStands : Int32} {p_blocks : Int32} {p_lines : Int32} {p_edges : Int32} {p_pairs : Int32} {g_sets : Int32} {g_size : Int32} {g_penalty : Int32} {g_comeCount : Int32} {s_answered : Int32} {s_codes : Int32} {s_ordered : Int32} {p_times : Nat → Int32} {p_touchCounts : Nat → Int32} {p_touchSlots : Nat → Int32} {p_lineOfSlot : Nat → Int32} {p_from : Nat → Int32} {p_to : Nat → Int32} {p_bounds : Nat → Int32} {p_pairA : Nat → Int32} {p_pairB : Nat → Int32} {p_leaving : Nat → Int32} {p_firstLeaving : Nat → Int32} {g_come : Nat → Int32} {g_outcomes : Nat → Int32} {g_greatestTimes : Nat → Int32} {g_leastTimes : Nat → Int32} {g_changed : Nat → Int32} {g_greatest : Nat → Int32} {g_least : Nat → Int32} {g_greatestNow : Nat → Int32} {g_leastNow : Nat → Int32} {s_order : Nat → Int32} {s_arriving : Nat → Int32} {s_unit : Nat → Int32} {s_flag : Nat → Int32} {s_forbidding : Nat → Int32} {s_most : Nat → Int64} {s_fewest : Nat → Int64} {m_thrown : Int32} {m_sets : Int32} {m_ways : Int32} {m_penalty : Int32} {m_blocks : Int32} {m_edges : Int32} {m_pairs : Int32} {m_lines : Int32} {m_isFresh : Int32} {m_isAnswer : Int32} {m_time : Nat → Int32} {m_touchMany : Nat → Int32} {m_touch : Nat → Int32} {m_line : Nat → Int32} {m_from : Nat → Int32} {m_to : Nat → Int32} {m_bound : Nat → Int32} {m_pairA : Nat → Int32} {m_pairB : Nat → Int32} {m_comeTo : Nat → Int32} {m_greatest : Nat → Int32} {m_least : Nat → Int32} {m_nowGreatest : Nat → Int32} {m_nowLeast : Nat → Int32} {m_does : Nat → Int32} {m_mostTime : Nat → Int64} {m_leastTime : Nat → Int64} {m_countUnit : Nat → Int32} {m_flagUnit : Nat → Int32} {m_worst : Nat → Int64} {m_best : Nat → Int64} {m_stack : Nat → Int32} (h : cpI x_agesStand x_searchStands p_blocks p_lines p_edges p_pairs g_sets g_size g_penalty g_comeCount s_answered s_codes s_ordered p_times p_touchCounts p_touchSlots p_lineOfSlot p_from p_to p_bounds p_pairA p_pairB p_leaving p_firstLeaving g_come g_outcomes g_greatestTimes g_leastTimes g_changed g_greatest g_least g_greatestNow g_leastNow s_order s_arriving s_unit s_flag s_forbidding s_most s_fewest m_thrown m_sets m_ways m_penalty m_blocks m_edges m_pairs m_lines m_isFresh m_isAnswer m_time m_touchMany m_touch m_line m_from m_to m_bound m_pairA m_pairB m_comeTo m_greatest m_least m_nowGreatest m_nowLeast m_does m_mostTime m_leastTime m_countUnit m_flagUnit m_worst m_best m_stack) (f : Nat → Int64) :
    wp_L_worst x_agesStand x_searchStands p_blocks p_lines p_edges p_pairs g_sets g_size g_penalty g_comeCount s_answered s_codes s_ordered p_times p_touchCounts p_touchSlots p_lineOfSlot p_from p_to p_bounds p_pairA p_pairB p_leaving p_firstLeaving g_come g_outcomes g_greatestTimes g_leastTimes g_changed g_greatest g_least g_greatestNow g_leastNow s_order s_arriving s_unit s_flag s_forbidding s_most s_fewest f (fun k xa xs gcc san sco sor gco gou ggt glt gch gg gl ggn gln sod sar sun sfg sfo smo sfe f' => wp_X4_worst m_thrown m_sets m_ways m_penalty m_blocks m_edges m_pairs m_lines m_isFresh m_isAnswer m_time m_touchMany m_touch m_line m_from m_to m_bound m_pairA m_pairB m_comeTo m_greatest m_least m_nowGreatest m_nowLeast m_does m_mostTime m_leastTime m_countUnit m_flagUnit m_worst m_best m_stack (fun b th mf ma mco mg ml mng mnl mdo mmt mlt mcu mfu mw mb mst => th = k ∧ (k = 0 → f' 0 = b) ∧ cpI xa xs p_blocks p_lines p_edges p_pairs g_sets g_size g_penalty gcc san sco sor p_times p_touchCounts p_touchSlots p_lineOfSlot p_from p_to p_bounds p_pairA p_pairB p_leaving p_firstLeaving gco gou ggt glt gch gg gl ggn gln sod sar sun sfg sfo smo sfe th m_sets m_ways m_penalty m_blocks m_edges m_pairs m_lines mf ma m_time m_touchMany m_touch m_line m_from m_to m_bound m_pairA m_pairB mco mg ml mng mnl mdo mmt mlt mcu mfu mw mb mst)) := by
  obtain ⟨W, B, n, E, P, pn, tm, tc, ts, fr, to, bn, pa, pb, lv, fl, line, sets, hpg, hcl, hmd⟩ := id h
  have c00 : (0 : Int32).toNatClampNeg = 0 := by decide
  have i0 : vp_in 0 40000 := vp_in_nI (n := 0) (by decide) (by decide)
  unfold wp_L_worst wp_X3_worst wp_X2_mostOfAll
  refine cl_answer hpg hcl (fun an cc od0 cm ch GG LL NG NL od ar un fg fo Mo Fe cmc O GT LT han hc hA hs hI => ?_)
  have z0 : nI an = 0 ↔ an = 0 := by rw [← nI_0]; exact nI_eq (by omega) (by decide)
  rw [z0, c00]
  refine ⟨fun q => ⟨i0, ?_⟩, fun q => ⟨rfl, ?_⟩⟩
  · unfold wp_X4_worst
    refine md_answer hpg hmd (fun an' cm' GG' LL' NG' NL' cu fu Wo Be st DO MT LT' han' hc' hA' hs' hI' => ?_)
    obtain ⟨s0, s1, s2⟩ := se_both hpg hc hc' hA.1 hA'.1 hs hs'
    subst s1
    have q : an = 1 := by omega
    subst q
    obtain ⟨v1, v2, _⟩ := s2 rfl
    rw [c00]
    refine ⟨fun w => absurd w (by decide), fun _ => ⟨i0, rfl, fun _ => ?_, ⟨W, B, n, E, P, pn, tm, tc, ts, fr, to, bn, pa, pb, lv, fl, line, sets, hpg, hI, hI' _⟩⟩⟩
    rw [pk_uLs, repL_at, repW_at, lW_k (seR_w s0) v1]
  · unfold wp_X4_worst
    refine md_answer hpg hmd (fun an' cm' GG' LL' NG' NL' cu fu Wo Be st DO MT LT' han' hc' hA' hs' hI' => ?_)
    obtain ⟨s0, s1, s2⟩ := se_both hpg hc hc' hA.1 hA'.1 hs hs'
    subst s1 q
    exact ⟨fun _ => ⟨rfl, fun w => absurd w (by decide), ⟨W, B, n, E, P, pn, tm, tc, ts, fr, to, bn, pa, pb, lv, fl, line, sets, hpg, hI, hI' _⟩⟩, fun w => absurd nI_0 w⟩
theorem cp_best {x_agesStand : Int32} {x_searchStands : Int32} {p_blocks : Int32} {p_lines : Int32} {p_edges : Int32} {p_pairs : Int32} {g_sets : Int32} {g_size : Int32} {g_penalty : Int32} {g_comeCount : Int32} {s_answered : Int32} {s_codes : Int32} {s_ordered : Int32} {p_times : Nat → Int32} {p_touchCounts : Nat → Int32} {p_touchSlots : Nat → Int32} {p_lineOfSlot : Nat → Int32} {p_from : Nat → Int32} {p_to : Nat → Int32} {p_bounds : Nat → Int32} {p_pairA : Nat → Int32} {p_pairB : Nat → Int32} {p_leaving : Nat → Int32} {p_firstLeaving : Nat → Int32} {g_come : Nat → Int32} {g_outcomes : Nat → Int32} {g_greatestTimes : Nat → Int32} {g_leastTimes : Nat → Int32} {g_changed : Nat → Int32} {g_greatest : Nat → Int32} {g_least : Nat → Int32} {g_greatestNow : Nat → Int32} {g_leastNow : Nat → Int32} {s_order : Nat → Int32} {s_arriving : Nat → Int32} {s_unit : Nat → Int32} {s_flag : Nat → Int32} {s_forbidding : Nat → Int32} {s_most : Nat → Int64} {s_fewest : Nat → Int64} {m_thrown : Int32} {m_sets : Int32} {m_ways : Int32} {m_penalty : Int32} {m_blocks : Int32} {m_edges : Int32} {m_pairs : Int32} {m_lines : Int32} {m_isFresh : Int32} {m_isAnswer : Int32} {m_time : Nat → Int32} {m_touchMany : Nat → Int32} {m_touch : Nat → Int32} {m_line : Nat → Int32} {m_from : Nat → Int32} {m_to : Nat → Int32} {m_bound : Nat → Int32} {m_pairA : Nat → Int32} {m_pairB : Nat → Int32} {m_comeTo : Nat → Int32} {m_greatest : Nat → Int32} {m_least : Nat → Int32} {m_nowGreatest : Nat → Int32} {m_nowLeast : Nat → Int32} {m_does : Nat → Int32} {m_mostTime : Nat → Int64} {m_leastTime : Nat → Int64} {m_countUnit : Nat → Int32} {m_flagUnit : Nat → Int32} {m_worst : Nat → Int64} {m_best : Nat → Int64} {m_stack : Nat → Int32} (h : cpI x_agesStand x_searchStands p_blocks p_lines p_edges p_pairs g_sets g_size g_penalty g_comeCount s_answered s_codes s_ordered p_times p_touchCounts p_touchSlots p_lineOfSlot p_from p_to p_bounds p_pairA p_pairB p_leaving p_firstLeaving g_come g_outcomes g_greatestTimes g_leastTimes g_changed g_greatest g_least g_greatestNow g_leastNow s_order s_arriving s_unit s_flag s_forbidding s_most s_fewest m_thrown m_sets m_ways m_penalty m_blocks m_edges m_pairs m_lines m_isFresh m_isAnswer m_time m_touchMany m_touch m_line m_from m_to m_bound m_pairA m_pairB m_comeTo m_greatest m_least m_nowGreatest m_nowLeast m_does m_mostTime m_leastTime m_countUnit m_flagUnit m_worst m_best m_stack) (f : Nat → Int64) :
    wp_L_best x_agesStand x_searchStands p_blocks p_lines p_edges p_pairs g_sets g_size g_penalty g_comeCount s_answered s_codes s_ordered p_times p_touchCounts p_touchSlots p_lineOfSlot p_from p_to p_bounds p_pairA p_pairB p_leaving p_firstLeaving g_come g_outcomes g_greatestTimes g_leastTimes g_changed g_greatest g_least g_greatestNow g_leastNow s_order s_arriving s_unit s_flag s_forbidding s_most s_fewest f (fun k xa xs gcc san sco sor gco gou ggt glt gch gg gl ggn gln sod sar sun sfg sfo smo sfe f' => wp_X4_best m_thrown m_sets m_ways m_penalty m_blocks m_edges m_pairs m_lines m_isFresh m_isAnswer m_time m_touchMany m_touch m_line m_from m_to m_bound m_pairA m_pairB m_comeTo m_greatest m_least m_nowGreatest m_nowLeast m_does m_mostTime m_leastTime m_countUnit m_flagUnit m_worst m_best m_stack (fun b th mf ma mco mg ml mng mnl mdo mmt mlt mcu mfu mw mb mst => th = k ∧ (k = 0 → f' 0 = b) ∧ cpI xa xs p_blocks p_lines p_edges p_pairs g_sets g_size g_penalty gcc san sco sor p_times p_touchCounts p_touchSlots p_lineOfSlot p_from p_to p_bounds p_pairA p_pairB p_leaving p_firstLeaving gco gou ggt glt gch gg gl ggn gln sod sar sun sfg sfo smo sfe th m_sets m_ways m_penalty m_blocks m_edges m_pairs m_lines mf ma m_time m_touchMany m_touch m_line m_from m_to m_bound m_pairA m_pairB mco mg ml mng mnl mdo mmt mlt mcu mfu mw mb mst)) := by
  obtain ⟨W, B, n, E, P, pn, tm, tc, ts, fr, to, bn, pa, pb, lv, fl, line, sets, hpg, hcl, hmd⟩ := id h
  have c00 : (0 : Int32).toNatClampNeg = 0 := by decide
  have i0 : vp_in 0 40000 := vp_in_nI (n := 0) (by decide) (by decide)
  unfold wp_L_best wp_X3_best wp_X2_fewestOfAll
  refine cl_answer hpg hcl (fun an cc od0 cm ch GG LL NG NL od ar un fg fo Mo Fe cmc O GT LT han hc hA hs hI => ?_)
  have z0 : nI an = 0 ↔ an = 0 := by rw [← nI_0]; exact nI_eq (by omega) (by decide)
  rw [z0, c00]
  refine ⟨fun q => ⟨i0, ?_⟩, fun q => ⟨rfl, ?_⟩⟩
  · unfold wp_X4_best
    refine md_answer hpg hmd (fun an' cm' GG' LL' NG' NL' cu fu Wo Be st DO MT LT' han' hc' hA' hs' hI' => ?_)
    obtain ⟨s0, s1, s2⟩ := se_both hpg hc hc' hA.1 hA'.1 hs hs'
    subst s1
    have q : an = 1 := by omega
    subst q
    obtain ⟨v1, v2, _⟩ := s2 rfl
    rw [c00]
    refine ⟨fun w => absurd w (by decide), fun _ => ⟨i0, rfl, fun _ => ?_, ⟨W, B, n, E, P, pn, tm, tc, ts, fr, to, bn, pa, pb, lv, fl, line, sets, hpg, hI, hI' _⟩⟩⟩
    rw [pk_uLs, repL_at, repL_at, v2]
  · unfold wp_X4_best
    refine md_answer hpg hmd (fun an' cm' GG' LL' NG' NL' cu fu Wo Be st DO MT LT' han' hc' hA' hs' hI' => ?_)
    obtain ⟨s0, s1, s2⟩ := se_both hpg hc hc' hA.1 hA'.1 hs hs'
    subst s1 q
    exact ⟨fun _ => ⟨rfl, fun w => absurd w (by decide), ⟨W, B, n, E, P, pn, tm, tc, ts, fr, to, bn, pa, pb, lv, fl, line, sets, hpg, hI, hI' _⟩⟩, fun w => absurd nI_0 w⟩
theorem cp_way {x_agesStand : Int32} {x_searchStands : Int32} {p_blocks : Int32} {p_lines : Int32} {p_edges : Int32} {p_pairs : Int32} {g_sets : Int32} {g_size : Int32} {g_penalty : Int32} {g_comeCount : Int32} {s_answered : Int32} {s_codes : Int32} {s_ordered : Int32} {p_times : Nat → Int32} {p_touchCounts : Nat → Int32} {p_touchSlots : Nat → Int32} {p_lineOfSlot : Nat → Int32} {p_from : Nat → Int32} {p_to : Nat → Int32} {p_bounds : Nat → Int32} {p_pairA : Nat → Int32} {p_pairB : Nat → Int32} {p_leaving : Nat → Int32} {p_firstLeaving : Nat → Int32} {g_come : Nat → Int32} {g_outcomes : Nat → Int32} {g_greatestTimes : Nat → Int32} {g_leastTimes : Nat → Int32} {g_changed : Nat → Int32} {g_greatest : Nat → Int32} {g_least : Nat → Int32} {g_greatestNow : Nat → Int32} {g_leastNow : Nat → Int32} {s_order : Nat → Int32} {s_arriving : Nat → Int32} {s_unit : Nat → Int32} {s_flag : Nat → Int32} {s_forbidding : Nat → Int32} {s_most : Nat → Int64} {s_fewest : Nat → Int64} {m_thrown : Int32} {m_sets : Int32} {m_ways : Int32} {m_penalty : Int32} {m_blocks : Int32} {m_edges : Int32} {m_pairs : Int32} {m_lines : Int32} {m_isFresh : Int32} {m_isAnswer : Int32} {m_time : Nat → Int32} {m_touchMany : Nat → Int32} {m_touch : Nat → Int32} {m_line : Nat → Int32} {m_from : Nat → Int32} {m_to : Nat → Int32} {m_bound : Nat → Int32} {m_pairA : Nat → Int32} {m_pairB : Nat → Int32} {m_comeTo : Nat → Int32} {m_greatest : Nat → Int32} {m_least : Nat → Int32} {m_nowGreatest : Nat → Int32} {m_nowLeast : Nat → Int32} {m_does : Nat → Int32} {m_mostTime : Nat → Int64} {m_leastTime : Nat → Int64} {m_countUnit : Nat → Int32} {m_flagUnit : Nat → Int32} {m_worst : Nat → Int64} {m_best : Nat → Int64} {m_stack : Nat → Int32} (h : cpI x_agesStand x_searchStands p_blocks p_lines p_edges p_pairs g_sets g_size g_penalty g_comeCount s_answered s_codes s_ordered p_times p_touchCounts p_touchSlots p_lineOfSlot p_from p_to p_bounds p_pairA p_pairB p_leaving p_firstLeaving g_come g_outcomes g_greatestTimes g_leastTimes g_changed g_greatest g_least g_greatestNow g_leastNow s_order s_arriving s_unit s_flag s_forbidding s_most s_fewest m_thrown m_sets m_ways m_penalty m_blocks m_edges m_pairs m_lines m_isFresh m_isAnswer m_time m_touchMany m_touch m_line m_from m_to m_bound m_pairA m_pairB m_comeTo m_greatest m_least m_nowGreatest m_nowLeast m_does m_mostTime m_leastTime m_countUnit m_flagUnit m_worst m_best m_stack) (v1 v2 : Int32) (f : Nat → Int64) :
    wp_L_way v1 v2 x_agesStand x_searchStands p_blocks p_lines p_edges p_pairs g_sets g_size g_penalty g_comeCount s_answered s_codes s_ordered p_times p_touchCounts p_touchSlots p_lineOfSlot p_from p_to p_bounds p_pairA p_pairB p_leaving p_firstLeaving g_come g_outcomes g_greatestTimes g_leastTimes g_changed g_greatest g_least g_greatestNow g_leastNow s_order s_arriving s_unit s_flag s_forbidding s_most s_fewest f (fun k xa xs gcc san sco sor gco gou ggt glt gch gg gl ggn gln sod sar sun sfg sfo smo sfe f' => wp_X4_way v1 v2 m_thrown m_sets m_ways m_penalty m_blocks m_edges m_pairs m_lines m_isFresh m_isAnswer m_time m_touchMany m_touch m_line m_from m_to m_bound m_pairA m_pairB m_comeTo m_greatest m_least m_nowGreatest m_nowLeast m_does m_mostTime m_leastTime m_countUnit m_flagUnit m_worst m_best m_stack (fun b th mf ma mco mg ml mng mnl mdo mmt mlt mcu mfu mw mb mst => th = k ∧ (k = 0 → f' 0 = b.toInt64) ∧ cpI xa xs p_blocks p_lines p_edges p_pairs g_sets g_size g_penalty gcc san sco sor p_times p_touchCounts p_touchSlots p_lineOfSlot p_from p_to p_bounds p_pairA p_pairB p_leaving p_firstLeaving gco gou ggt glt gch gg gl ggn gln sod sar sun sfg sfo smo sfe th m_sets m_ways m_penalty m_blocks m_edges m_pairs m_lines mf ma m_time m_touchMany m_touch m_line m_from m_to m_bound m_pairA m_pairB mco mg ml mng mnl mdo mmt mlt mcu mfu mw mb mst)) := by
  obtain ⟨W, B, n, E, P, pn, tm, tc, ts, fr, to, bn, pa, pb, lv, fl, line, sets, hpg, hcl, hmd⟩ := id h
  obtain ⟨⟨⟨bW, bB, bn4, bE⟩, btc, bfr, bfl, ball⟩, a2, a3, a4, a5, a6, a7, a8⟩ := id hpg
  obtain ⟨⟨c1, c2, c3, c4, -, -, -⟩, e1, e2, e3, e4, e5, e6, e7, e8, e9, e10, e11⟩ := id hcl.1
  obtain ⟨⟨d1, d2, d3, d4, -, -, -⟩, f1, f2, f3, f4, f5, f6, f7, f8, f9⟩ := id hmd.1
  have e4 := e4.symm
  have f4 := f4.symm
  subst c1 c2 c3 c4 e1 e2 e3 e4 e5 e6 e7 e8 e9 e10 e11 d1 d2 d3 d4 f1 f2 f3 f4 f5 f6 f7 f8 f9
  unfold wp_L_way wp_X3_way
  refine cl_answer hpg hcl (fun an cc od0 cm ch GG LL NG NL od ar un fg fo Mo Fe cmc O GT LT han hc hA hs hI => ?_)
  have z0 : nI an = 0 ↔ an = 0 := by rw [← nI_0]; exact nI_eq (by omega) (by decide)
  have hTb : ∀ b, b < B → hiT W n line sets pn tm tc ts cm GG LL b ≤ tMx ∧ loT W n line sets pn tm tc ts cm GG LL b ≤ tMx := fun b hb => hiT_le a5 (a6 b hb) (btc b hb).1
  obtain ⟨hc0, hcl2⟩ := agI_cl hA.1
  rw [z0]
  refine ⟨fun q => ⟨fun q2 => Or.inr ⟨rfl, ?_⟩, fun q2 => sp_gol (fun g1 g2 => ⟨fun w => absurd rfl w, fun _ => Or.inr ⟨rfl, ?_⟩⟩) (fun hw => ⟨fun _ => ?_, fun w => absurd w (by decide)⟩)⟩, fun q => Or.inl ⟨rfl, ?_⟩⟩
  · unfold wp_X4_way
    refine md_answer hpg hmd (fun an' cm' GG' LL' NG' NL' cu fu Wo Be st DO MT LT' han' hc' hA' hs' hI' => ?_)
    obtain ⟨s0, s1, s2⟩ := se_both hpg hc hc' hA.1 hA'.1 hs hs'
    subst s1
    have q : an = 1 := by omega
    subst q
    exact ⟨fun _ => ⟨fun _ => ⟨rfl, fun w => absurd w (by decide), ⟨W, B, n, E, P, pn, tm, tc, ts, fr, to, bn, pa, pb, lv, fl, line, sets, hpg, hI, hI' _⟩⟩, fun w => absurd q2 w⟩, fun w => absurd w (by decide)⟩
  · unfold wp_X4_way
    refine md_answer hpg hmd (fun an' cm' GG' LL' NG' NL' cu fu Wo Be st DO MT LT' han' hc' hA' hs' hI' => ?_)
    obtain ⟨s0, s1, s2⟩ := se_both hpg hc hc' hA.1 hA'.1 hs hs'
    subst s1
    have q : an = 1 := by omega
    subst q
    exact ⟨fun _ => ⟨fun w => absurd w q2, fun _ => sp_within1 (fun _ _ => ⟨fun w => absurd rfl w, fun _ => ⟨rfl, fun w => absurd w (by decide), ⟨W, B, n, E, P, pn, tm, tc, ts, fr, to, bn, pa, pb, lv, fl, line, sets, hpg, hI, hI' _⟩⟩⟩) (fun w => absurd w (fun w => w.elim g1 g2))⟩, fun w => absurd w (by decide)⟩
  · -- the way itself
    have q : an = 1 := by omega
    subst q
    obtain ⟨k, hk, hk2⟩ := nI_of q2
    subst hk2
    rcases hs with hs0 | ⟨w, _⟩
    · obtain ⟨_, hB0, hN, ⟨r, hr, hV⟩, hl, hcc, hm⟩ := id hs0
      subst hcc
      have hNC0 : 0 < nC E P bn pa pb := Nat.mul_pos (prN_pos (kf_pos P pa pb) E) (prN_pos (kc_pos bn) E)
      have hf0 : Fe 0 ≠ 0 := fun w => hm (by
        have := (hV 0 0 hNC0 hB0 (hc0 hB0) (Nat.zero_le _)).2.1
        have e0 : 0 * B + 0 = 0 := by omega
        rw [e0] at this
        exact this.mpr w)
      rcases hw with hw | hw
      · subst hw
        refine sp_edgeOnWay (t := hiT W n line sets pn tm tc ts cm GG LL) (V := Mo) hB0 a3 hl hN hcl2 hr (hc0 hB0) hk hm (fun c b Q' hcn hb hcb hv hQ' => sp_low0 hB0 a3 bfl ball a2 hl hN hcl2 hA.2.2.1 hTb hV hcn hb hcb hv hQ') (fun x hx => ?_)
        unfold wp_X4_way
        refine md_answer hpg hmd (fun an' cm' GG' LL' NG' NL' cu fu Wo Be st DO MT LT' han' hc' hA' hs' hI' => ?_)
        obtain ⟨s0, s1, s2⟩ := se_both hpg hc hc' hA.1 hA'.1 (Or.inl hs0) hs'
        subst s1
        have sm := hi_same (pn := pn) (tm := tm) btc hc hc' hA.1 hA'.1
        have s0c := id s0
        rcases s0c with ⟨_, _, _, ⟨r', hr', hK⟩, hu, hw0, _⟩ | ⟨w, _⟩
        · refine ⟨fun _ => ⟨fun w => absurd w q2, fun _ => sp_within1 (fun g1 g2 => absurd rfl g1) (fun _ => ⟨fun _ => ?_, fun w => absurd w (by decide)⟩)⟩, fun w => absurd w (by decide)⟩
          refine sp_mway (t := hiT W n line sets pn tm tc ts cm GG LL) (X := fun s => Wo s - 1) hB0 a3 hN hu hK hw0 hk (fun p Q' hp hw hQ' => sp_goes0 hB0 a3 hN hu (fun b hb => by rw [(sm b hb).2.1, (sm b hb).2.2]; exact (hA'.2 b hb).1) hTb hK hp hw hQ') (fun y hy => ⟨rfl, fun _ => ?_, ⟨W, B, n, E, P, pn, tm, tc, ts, fr, to, bn, pa, pb, lv, fl, line, sets, hpg, hI, hI' _⟩⟩)
          rw [pk_uLs, (s2 rfl).2.2.1 k x y hx hy]
        · omega
      · subst hw
        refine sp_edgeOnWay (t := loT W n line sets pn tm tc ts cm GG LL) (V := Fe) hB0 a3 hl hN hcl2 hr (hc0 hB0) hk hf0 (fun c b Q' hcn hb hcb hv hQ' => sp_low1 hB0 a3 bfl ball a2 hl hN hcl2 hA.2.2.1 hTb hV hcn hb hcb hv hQ') (fun x hx => ?_)
        unfold wp_X4_way
        refine md_answer hpg hmd (fun an' cm' GG' LL' NG' NL' cu fu Wo Be st DO MT LT' han' hc' hA' hs' hI' => ?_)
        obtain ⟨s0, s1, s2⟩ := se_both hpg hc hc' hA.1 hA'.1 (Or.inl hs0) hs'
        subst s1
        have sm := hi_same (pn := pn) (tm := tm) btc hc hc' hA.1 hA'.1
        have s0c := id s0
        rcases s0c with ⟨_, _, _, ⟨r', hr', hK⟩, hu, hw0, _⟩ | ⟨w, _⟩
        · refine ⟨fun _ => ⟨fun w => absurd w q2, fun _ => sp_within1 (fun g1 g2 => absurd rfl g2) (fun _ => ⟨fun _ => ?_, fun w => absurd w (by decide)⟩)⟩, fun w => absurd w (by decide)⟩
          refine sp_mway (t := loT W n line sets pn tm tc ts cm GG LL) (X := Be) hB0 a3 hN hu hK hw0 hk (fun p Q' hp hw hQ' => sp_goes1 hB0 a3 hN hu (fun b hb => by rw [(sm b hb).2.1, (sm b hb).2.2]; exact (hA'.2 b hb).1) hTb hK hp hw hQ') (fun y hy => ⟨rfl, fun _ => ?_, ⟨W, B, n, E, P, pn, tm, tc, ts, fr, to, bn, pa, pb, lv, fl, line, sets, hpg, hI, hI' _⟩⟩)
          rw [pk_uLs, (s2 rfl).2.2.2 k x y hx hy]
        · omega
    · omega
  · unfold wp_X4_way
    refine md_answer hpg hmd (fun an' cm' GG' LL' NG' NL' cu fu Wo Be st DO MT LT' han' hc' hA' hs' hI' => ?_)
    obtain ⟨s0, s1, s2⟩ := se_both hpg hc hc' hA.1 hA'.1 hs hs'
    subst s1 q
    exact ⟨fun w => absurd nI_0 w, fun _ => ⟨rfl, fun w => absurd w (by decide), ⟨W, B, n, E, P, pn, tm, tc, ts, fr, to, bn, pa, pb, lv, fl, line, sets, hpg, hI, hI' _⟩⟩⟩
