theorem cp_th {x_agesStand : Int32} {x_searchStands : Int32} {p_blocks : Int32} {p_lines : Int32} {p_edges : Int32} {p_pairs : Int32} {g_sets : Int32} {g_size : Int32} {g_penalty : Int32} {g_comeCount : Int32} {s_answered : Int32} {s_codes : Int32} {s_ordered : Int32} {p_times : Nat → Int32} {p_touchCounts : Nat → Int32} {p_touchSlots : Nat → Int32} {p_lineOfSlot : Nat → Int32} {p_from : Nat → Int32} {p_to : Nat → Int32} {p_bounds : Nat → Int32} {p_pairA : Nat → Int32} {p_pairB : Nat → Int32} {p_leaving : Nat → Int32} {p_firstLeaving : Nat → Int32} {g_come : Nat → Int32} {g_outcomes : Nat → Int32} {g_greatestTimes : Nat → Int32} {g_leastTimes : Nat → Int32} {g_changed : Nat → Int32} {g_greatest : Nat → Int32} {g_least : Nat → Int32} {g_greatestNow : Nat → Int32} {g_leastNow : Nat → Int32} {s_order : Nat → Int32} {s_arriving : Nat → Int32} {s_unit : Nat → Int32} {s_flag : Nat → Int32} {s_forbidding : Nat → Int32} {s_most : Nat → Int64} {s_fewest : Nat → Int64} {m_thrown : Int32} {m_sets : Int32} {m_ways : Int32} {m_penalty : Int32} {m_blocks : Int32} {m_edges : Int32} {m_pairs : Int32} {m_lines : Int32} {m_isFresh : Int32} {m_isAnswer : Int32} {m_time : Nat → Int32} {m_touchMany : Nat → Int32} {m_touch : Nat → Int32} {m_line : Nat → Int32} {m_from : Nat → Int32} {m_to : Nat → Int32} {m_bound : Nat → Int32} {m_pairA : Nat → Int32} {m_pairB : Nat → Int32} {m_comeTo : Nat → Int32} {m_greatest : Nat → Int32} {m_least : Nat → Int32} {m_nowGreatest : Nat → Int32} {m_nowLeast : Nat → Int32} {m_does : Nat → Int32} {m_mostTime : Nat → Int64} {m_leastTime : Nat → Int64} {m_countUnit : Nat → Int32} {m_flagUnit : Nat → Int32} {m_worst : Nat → Int64} {m_best : Nat → Int64} {m_stack : Nat → Int32} (h : cpI x_agesStand x_searchStands p_blocks p_lines p_edges p_pairs g_sets g_size g_penalty g_comeCount s_answered s_codes s_ordered p_times p_touchCounts p_touchSlots p_lineOfSlot p_from p_to p_bounds p_pairA p_pairB p_leaving p_firstLeaving g_come g_outcomes g_greatestTimes g_leastTimes g_changed g_greatest g_least g_greatestNow g_leastNow s_order s_arriving s_unit s_flag s_forbidding s_most s_fewest m_thrown m_sets m_ways m_penalty m_blocks m_edges m_pairs m_lines m_isFresh m_isAnswer m_time m_touchMany m_touch m_line m_from m_to m_bound m_pairA m_pairB m_comeTo m_greatest m_least m_nowGreatest m_nowLeast m_does m_mostTime m_leastTime m_countUnit m_flagUnit m_worst m_best m_stack) (th : Int32) : cpI x_agesStand x_searchStands p_blocks p_lines p_edges p_pairs g_sets g_size g_penalty g_comeCount s_answered s_codes s_ordered p_times p_touchCounts p_touchSlots p_lineOfSlot p_from p_to p_bounds p_pairA p_pairB p_leaving p_firstLeaving g_come g_outcomes g_greatestTimes g_leastTimes g_changed g_greatest g_least g_greatestNow g_leastNow s_order s_arriving s_unit s_flag s_forbidding s_most s_fewest th m_sets m_ways m_penalty m_blocks m_edges m_pairs m_lines m_isFresh m_isAnswer m_time m_touchMany m_touch m_line m_from m_to m_bound m_pairA m_pairB m_comeTo m_greatest m_least m_nowGreatest m_nowLeast m_does m_mostTime m_leastTime m_countUnit m_flagUnit m_worst m_best m_stack := by
  obtain ⟨W, B, n, E, P, pn, tm, tc, ts, fr, to, bn, pa, pb, lv, fl, line, sets, hpg, hcl, hmd⟩ := h
  exact ⟨W, B, n, E, P, pn, tm, tc, ts, fr, to, bn, pa, pb, lv, fl, line, sets, hpg, hcl, mdI_th hmd th⟩
theorem pg_touch {W B n n' E P pn b sl : Nat} {tm tc ts fr to bn pa pb lv fl : Nat → Nat} (h : pgI W B n E P pn tm tc ts fr to bn pa pb lv fl) (hb : b < B) (ht : tc b < 6) (hn : n ≤ n') (hn4 : n' ≤ 40) (hs : sl < n') :
    pgI W B n' E P pn tm (fun j => if j = b then tc b + 1 else tc j) (fun j => if j = b * 6 + tc b then sl else ts j) fr to bn pa pb lv fl := by
  obtain ⟨⟨⟨bW, bB, bn4, bE⟩, btc, bfr, bfl, ball⟩, a2, a3, a4, a5, a6, a7, a8⟩ := h
  refine ⟨⟨⟨bW, bB, hn4, bE⟩, fun x hx => ?_, bfr, bfl, ball⟩, a2, a3, a4, a5, a6, a7, fun x hx => ?_⟩
  · show (if x = b then tc b + 1 else tc x) ≤ 6 ∧ ∀ i, i < (if x = b then tc b + 1 else tc x) → (if x * 6 + i = b * 6 + tc b then sl else ts (x * 6 + i)) < n'
    by_cases z : x = b
    · subst z
      rw [if_pos rfl]
      refine ⟨by omega, fun i hi => ?_⟩
      by_cases w : i = tc x
      · rw [if_pos (by omega)]; exact hs
      · rw [if_neg (by omega)]
        have := (btc x hx).2 i (by omega)
        omega
    · rw [if_neg z]
      obtain ⟨k1, k2⟩ := btc x hx
      refine ⟨k1, fun i hi => ?_⟩
      rw [if_neg (by omega)]
      have := k2 i hi
      omega
  · show (if x = b then tc b + 1 else tc x) = 0
    rw [if_neg (by omega)]
    exact a8 x hx
theorem sp_touchJ {b sl n' : Nat} {tc ts : Nat → Nat} {line : Nat → Int32} {Q : Int32 → Int32 → (Nat → Int32) → (Nat → Int32) → (Nat → Int32) → Prop} (hb : b < 40) (ht : tc b < 6) (h : Q (nI (tc b + 1)) (nI n') (rep (fun j => if j = b then tc b + 1 else tc j)) (rep (fun j => if j = b * 6 + tc b then sl else ts j)) line) : jn_X1_addTouch_33 (nI b) (nI sl) (nI n') (rep tc) (rep ts) line Q := by
  have cb : (nI b).toNatClampNeg = b := nI_clamp (by omega)
  have ci : (nI (b * 6 + tc b)).toNatClampNeg = b * 6 + tc b := nI_clamp (by omega)
  have ib : vp_in (nI b) 40 := vp_in_nI hb (by decide)
  unfold jn_X1_addTouch_33
  rw [cb, rep_at tc, nI_m6, nI_add, ci, nI_1, rep_upd, rep_upd, rep_at, if_pos rfl]
  exact ⟨ib, vp_in_nI (by omega) (by decide), ib, ib, ib, h⟩
theorem sp_mtouchJ {b sl n' : Nat} {th mb fs : Int32} {tc ts : Nat → Nat} {line : Nat → Int32} {Q : Int32 → Int32 → Int32 → Int32 → (Nat → Int32) → (Nat → Int32) → (Nat → Int32) → Prop} (hb : b < 40) (ht : tc b < 6) (h : Q (nI (tc b + 1)) th (nI n') 0 (rep (fun j => if j = b then tc b + 1 else tc j)) (rep (fun j => if j = b * 6 + tc b then sl else ts j)) line) : jn_X4_touch_87 (nI b) (nI sl) th mb (nI n') fs (rep tc) (rep ts) line Q := by
  have cb : (nI b).toNatClampNeg = b := nI_clamp (by omega)
  have ci : (nI (b * 6 + tc b)).toNatClampNeg = b * 6 + tc b := nI_clamp (by omega)
  have ib : vp_in (nI b) 40 := vp_in_nI hb (by decide)
  unfold jn_X4_touch_87
  rw [cb, rep_at tc, nI_6m, nI_add, ci, nI_1, rep_upd, rep_upd, rep_at, if_pos rfl]
  exact ⟨ib, vp_in_nI (by omega) (by decide), ib, ib, ib, h⟩
theorem nI_ge0 {k : Nat} (h : k < 2 ^ 31) : (0 : Int32) ≤ nI k := nI_pos' h
theorem cp_touch {x_agesStand : Int32} {x_searchStands : Int32} {p_blocks : Int32} {p_lines : Int32} {p_edges : Int32} {p_pairs : Int32} {g_sets : Int32} {g_size : Int32} {g_penalty : Int32} {g_comeCount : Int32} {s_answered : Int32} {s_codes : Int32} {s_ordered : Int32} {p_times : Nat → Int32} {p_touchCounts : Nat → Int32} {p_touchSlots : Nat → Int32} {p_lineOfSlot : Nat → Int32} {p_from : Nat → Int32} {p_to : Nat → Int32} {p_bounds : Nat → Int32} {p_pairA : Nat → Int32} {p_pairB : Nat → Int32} {p_leaving : Nat → Int32} {p_firstLeaving : Nat → Int32} {g_come : Nat → Int32} {g_outcomes : Nat → Int32} {g_greatestTimes : Nat → Int32} {g_leastTimes : Nat → Int32} {g_changed : Nat → Int32} {g_greatest : Nat → Int32} {g_least : Nat → Int32} {g_greatestNow : Nat → Int32} {g_leastNow : Nat → Int32} {s_order : Nat → Int32} {s_arriving : Nat → Int32} {s_unit : Nat → Int32} {s_flag : Nat → Int32} {s_forbidding : Nat → Int32} {s_most : Nat → Int64} {s_fewest : Nat → Int64} {m_thrown : Int32} {m_sets : Int32} {m_ways : Int32} {m_penalty : Int32} {m_blocks : Int32} {m_edges : Int32} {m_pairs : Int32} {m_lines : Int32} {m_isFresh : Int32} {m_isAnswer : Int32} {m_time : Nat → Int32} {m_touchMany : Nat → Int32} {m_touch : Nat → Int32} {m_line : Nat → Int32} {m_from : Nat → Int32} {m_to : Nat → Int32} {m_bound : Nat → Int32} {m_pairA : Nat → Int32} {m_pairB : Nat → Int32} {m_comeTo : Nat → Int32} {m_greatest : Nat → Int32} {m_least : Nat → Int32} {m_nowGreatest : Nat → Int32} {m_nowLeast : Nat → Int32} {m_does : Nat → Int32} {m_mostTime : Nat → Int64} {m_leastTime : Nat → Int64} {m_countUnit : Nat → Int32} {m_flagUnit : Nat → Int32} {m_worst : Nat → Int64} {m_best : Nat → Int64} {m_stack : Nat → Int32} (h : cpI x_agesStand x_searchStands p_blocks p_lines p_edges p_pairs g_sets g_size g_penalty g_comeCount s_answered s_codes s_ordered p_times p_touchCounts p_touchSlots p_lineOfSlot p_from p_to p_bounds p_pairA p_pairB p_leaving p_firstLeaving g_come g_outcomes g_greatestTimes g_leastTimes g_changed g_greatest g_least g_greatestNow g_leastNow s_order s_arriving s_unit s_flag s_forbidding s_most s_fewest m_thrown m_sets m_ways m_penalty m_blocks m_edges m_pairs m_lines m_isFresh m_isAnswer m_time m_touchMany m_touch m_line m_from m_to m_bound m_pairA m_pairB m_comeTo m_greatest m_least m_nowGreatest m_nowLeast m_does m_mostTime m_leastTime m_countUnit m_flagUnit m_worst m_best m_stack) (v1 v2 : Int32) (f : Nat → Int64) :
    wp_L_touch v1 v2 x_agesStand x_searchStands p_blocks p_lines p_touchCounts p_touchSlots p_lineOfSlot f (fun k xa xs pl ptc pts pls f' => wp_X4_touch v1 v2 m_thrown m_blocks m_lines m_isFresh m_touchMany m_touch m_line (fun b th ml mf mtc mts mli => th = k ∧ (k = 0 → f' 0 = b.toInt64) ∧ cpI xa xs p_blocks pl p_edges p_pairs g_sets g_size g_penalty g_comeCount s_answered s_codes s_ordered p_times ptc pts pls p_from p_to p_bounds p_pairA p_pairB p_leaving p_firstLeaving g_come g_outcomes g_greatestTimes g_leastTimes g_changed g_greatest g_least g_greatestNow g_leastNow s_order s_arriving s_unit s_flag s_forbidding s_most s_fewest th m_sets m_ways m_penalty m_blocks m_edges m_pairs ml mf m_isAnswer m_time mtc mts mli m_from m_to m_bound m_pairA m_pairB m_comeTo m_greatest m_least m_nowGreatest m_nowLeast m_does m_mostTime m_leastTime m_countUnit m_flagUnit m_worst m_best m_stack)) := by
  obtain ⟨W, B, n, E, P, pn, tm, tc, ts, fr, to, bn, pa, pb, lv, fl, line, sets, hpg, hcl, hmd⟩ := id h
  obtain ⟨⟨⟨bW, bB, bn4, bE⟩, btc, bfr, bfl, ball⟩, a2, a3, a4, a5, a6, a7, a8⟩ := id hpg
  obtain ⟨⟨c1, c2, c3, c4, -, -, -⟩, e1, e2, e3, e4, e5, e6, e7, e8, e9, e10, e11⟩ := id hcl.1
  obtain ⟨⟨d1, d2, d3, d4, -, -, -⟩, f1, f2, f3, f4, f5, f6, f7, f8, f9⟩ := id hmd.1
  have e4 := e4.symm
  have f4 := f4.symm
  subst c1 c2 c3 c4 e1 e2 e3 e4 e5 e6 e7 e8 e9 e10 e11 d1 d2 d3 d4 f1 f2 f3 f4 f5 f6 f7 f8 f9
  have fail : ∀ th, _ := cp_th h
  unfold wp_L_touch wp_X3_touch
  refine sp_hasB (by omega) (fun hv => ⟨fun w => absurd rfl w, fun _ => Or.inl ⟨rfl, ?_⟩⟩) (fun b hb hv => ⟨fun _ => ?_, fun w => absurd w (by decide)⟩)
  · unfold wp_X4_touch wp_X4_fail
    refine sp_within0 (by omega) (fun _ => ⟨fun w => absurd rfl w, fun _ => ⟨rfl, fun w => absurd w (by decide), fail 1⟩⟩) (fun b hb hb2 => ?_)
    subst hb2
    rcases hv with z | z
    · exact absurd z (nI_pos (by omega))
    · exact absurd z (nI_ge hb (by omega))
  · subst hv
    have cb : (nI b).toNatClampNeg = b := nI_clamp (by omega)
    have ib : vp_in (nI b) 40 := vp_in_nI (by omega) (by decide)
    have tb := (btc b hb).1
    have t6 : nI (tc b) < 6 ↔ tc b < 6 := nI_ltI (b := 6) (by omega) (by decide)
    have t6e : nI (tc b) = 6 ↔ tc b = 6 := nI_eq (b := 6) (by omega) (by decide)
    have n40 : nI n < 40 ↔ n < 40 := nI_ltI (b := 40) (by omega) (by decide)
    have n40e : nI n = 40 ↔ n = 40 := nI_eq (b := 40) (by omega) (by decide)
    have cn : (nI n).toNatClampNeg = n := nI_clamp (by omega)
    have MB : ∀ (Qm : Int32 → Int32 → Int32 → Int32 → (Nat → Int32) → (Nat → Int32) → (Nat → Int32) → Prop), (tc b = 6 → Qm 0 2 (nI n) m_isFresh (rep tc) (rep ts) line) → (∀ r, isLow (fun k => line k = v2) n r → tc b < 6 → (¬ r < n → n = 40 → Qm 0 2 (nI n) m_isFresh (rep tc) (rep ts) line) ∧ (r < n → Qm (nI (tc b + 1)) 0 (nI n) 0 (rep (fun j => if j = b then tc b + 1 else tc j)) (rep (fun j => if j = b * 6 + tc b then r else ts j)) line) ∧ (¬ r < n → n < 40 → Qm (nI (tc b + 1)) 0 (nI (n + 1)) 0 (rep (fun j => if j = b then tc b + 1 else tc j)) (rep (fun j => if j = b * 6 + tc b then n else ts j)) (upd line n v2))) → wp_X4_touch (nI b) v2 m_thrown (nI B) (nI n) m_isFresh (rep tc) (rep ts) line Qm := by
      intro Qm q1 q2
      unfold wp_X4_touch wp_X4_fail jn_X4_touch_61
      refine sp_within0 (by omega) (fun hv => ?_) (fun b' hb' hb2 => ⟨fun _ => sp_find (by omega) (fun r hr => ?_), fun w => absurd w (by decide)⟩)
      · rcases hv with z | z
        · exact absurd z (nI_pos (by omega))
        · exact absurd z (nI_ge hb (by omega))
      · rw [cb, rep_at tc, t6e, n40e, cn, nI_1 n]
        have ge : (0 : Int32) ≤ encE n r ↔ r < n := by
          have k := encE_neg (E := n) (r := r) (by omega)
          constructor
          · intro w
            exact Classical.byContradiction (fun y => absurd w (Int32.not_le.mpr (k.mpr y)))
          · intro w
            exact Int32.not_lt.mp (fun y => k.mp y w)
        rw [ge]
        refine ⟨ib, fun w => q1 w, fun w => ⟨fun w2 => ⟨fun _ => ?_, fun y => absurd w2 y⟩, fun w2 => ⟨fun w3 => ⟨fun y => absurd y w2, fun _ => ⟨vp_in_nI (by omega) (by decide), ?_⟩⟩, fun w3 => ?_⟩⟩⟩
        · rw [encE_in w2]
          exact sp_mtouchJ (by omega) (by omega) ((q2 r hr (by omega)).2.1 w2)
        · exact sp_mtouchJ (by omega) (by omega) ((q2 r hr (by omega)).2.2 w2 (by omega))
        · exact (q2 r hr (by omega)).1 w2 w3
    rw [cb, rep_at tc, t6]
    refine ⟨ib, fun q => ?_, fun q => Or.inr ⟨rfl, MB _ (fun _ => ⟨rfl, fun w => absurd w (by decide), fail 2⟩) (fun r hr w => by omega)⟩⟩
    have ADD : wp_X3_forgetAges x_agesStand x_searchStands (fun x_agesStand_67 x_searchStands_67 => wp_X1_addTouch (nI b) v2 (nI n) (rep tc) (rep ts) line (fun r_76 p_lines_76 p_touchCounts_76 p_touchSlots_76 p_lineOfSlot_76 => wp_X4_touch (nI b) v2 m_thrown (nI B) (nI n) m_isFresh (rep tc) (rep ts) line (fun b th ml mf mtc mts mli => th = 0 ∧ ((0 : Int32) = 0 → (vp_updL f 0 (Int32.toInt64 r_76)) 0 = b.toInt64) ∧ cpI x_agesStand_67 x_searchStands_67 (nI B) p_lines_76 (nI E) (nI P) g_sets g_size g_penalty g_comeCount s_answered s_codes s_ordered (rep tm) p_touchCounts_76 p_touchSlots_76 p_lineOfSlot_76 (rep fr) (rep to) (rpB bn) (rep pa) (rep pb) (rep lv) (rep fl) g_come g_outcomes g_greatestTimes g_leastTimes g_changed g_greatest g_least g_greatestNow g_leastNow s_order s_arriving s_unit s_flag s_forbidding s_most s_fewest th m_sets m_ways m_penalty (nI B) (nI E) (nI P) ml mf m_isAnswer (rep tm) mtc mts mli (rep fr) (rep to) (rpB bn) (rep pa) (rep pb) m_comeTo m_greatest m_least m_nowGreatest m_nowLeast m_does m_mostTime m_leastTime m_countUnit m_flagUnit m_worst m_best m_stack))) ∨ n = 40 ∧ ∃ r, isLow (fun k => line k = v2) n r ∧ ¬ r < n := by
      rcases Classical.em (n = 40 ∧ ∃ r, isLow (fun k => line k = v2) n r ∧ ¬ r < n) with z | z
      · exact Or.inr z
      · refine Or.inl ?_
        unfold wp_X3_forgetAges wp_X1_addTouch
        refine sp_slot (by omega) (fun r hr => ?_)
        rw [encE_m1 (by omega), cn, nI_1 n]
        refine ⟨fun w => ?_, fun w => ⟨vp_in_nI (by have : n ≠ 40 := fun y => z ⟨y, r, hr, w⟩; omega) (by decide), ?_⟩⟩
        · have w : r < n := Classical.byContradiction w
          rw [encE_in w]
          refine sp_touchJ (by omega) q (MB _ (fun y => by omega) (fun r' hr' _ => ?_))
          have e : r' = r := isLow_one (fun e _ => Iff.rfl) hr' hr
          subst e
          refine ⟨fun y => absurd w y, fun _ => ⟨rfl, fun _ => by rw [pk_uLs], ?_⟩, fun y => absurd w y⟩
          exact ⟨W, B, n, E, P, pn, tm, _, _, fr, to, bn, pa, pb, lv, fl, line, sets, pg_touch hpg hb q (Nat.le_refl _) (by omega) w, clI_st hcl B n E P tm _ _ fr to bn pa pb lv fl line, mdI_st hmd 0 B n E P tm _ _ fr to bn pa pb lv fl line⟩
        · have n4 : n ≠ 40 := fun y => z ⟨y, r, hr, w⟩
          refine sp_touchJ (by omega) q (MB _ (fun y => by omega) (fun r' hr' _ => ?_))
          have e : r' = r := isLow_one (fun e _ => Iff.rfl) hr' hr
          subst e
          refine ⟨fun _ y => absurd y n4, fun y => absurd y w, fun _ _ => ⟨rfl, fun _ => by rw [pk_uLs], ?_⟩⟩
          exact ⟨W, B, n + 1, E, P, pn, tm, _, _, fr, to, bn, pa, pb, lv, fl, upd line n v2, sets, pg_touch hpg hb q (by omega) (by omega) (by omega), clI_st hcl B (n + 1) E P tm _ _ fr to bn pa pb lv fl _, mdI_st hmd 0 B (n + 1) E P tm _ _ fr to bn pa pb lv fl _⟩
    unfold wp_X1_hasRoomFor
    rw [n40]
    refine ⟨fun w => ⟨fun _ => ?_, fun y => absurd y (by decide)⟩, fun w => sp_slot (by omega) (fun r hr => ?_)⟩
    · rcases ADD with k | ⟨k, _⟩
      · exact k
      · omega
    · rw [encE_m1 (by omega)]
      refine ⟨fun y => ⟨fun u => absurd rfl u, fun _ => Or.inr ⟨rfl, MB _ (fun u => by omega) (fun r' hr' _ => ?_)⟩⟩, fun y => ⟨fun _ => ?_, fun u => absurd u (by decide)⟩⟩
      · have e : r' = r := isLow_one (fun e _ => Iff.rfl) hr' hr
        subst e
        exact ⟨fun _ _ => ⟨rfl, fun w => absurd w (by decide), fail 2⟩, fun u => absurd u y, fun _ u => absurd u w⟩
      · rcases ADD with k | ⟨_, r', hr', k⟩
        · exact k
        · have e : r' = r := isLow_one (fun e _ => Iff.rfl) hr' hr
          subst e
          exact absurd k y
