set_option maxHeartbeats 4000000 in
set_option maxRecDepth 100000 in
theorem lw_loop {p : Program} {l : Launch} {e : Env} {s : State} {m : MethodId} {below : List Frame} {meth : Method} {c : Code} {D : va_G} {a a2 : Nat → Nat} {o : Nat} {cI cZ cJ : ClassId} {sa : Nat → Nat} {b L : Nat} {xs : Nat → Int32} (hL : L ≤ 2051) (C0 : lw_At p s m meth c b L xs) (hst : l.stackTraces = false) (hK : va_K D vwCl (tyw cI cZ cJ) s) (hX0 : exX (lwA s) sa s) : ∀ (n k : Nat) (x4 : Int32), 513 ≤ k + n → k ≤ 512 → x4 = nI (3 + 4 * k) → ∀ (x_agesStand : Int32) (x_searchStands : Int32) (p_blocks : Int32) (p_lines : Int32) (p_edges : Int32) (p_pairs : Int32) (g_sets : Int32) (g_size : Int32) (g_penalty : Int32) (g_comeCount : Int32) (s_answered : Int32) (s_codes : Int32) (s_ordered : Int32) (p_times : Nat → Int32) (p_touchCounts : Nat → Int32) (p_touchSlots : Nat → Int32) (p_lineOfSlot : Nat → Int32) (p_from : Nat → Int32) (p_to : Nat → Int32) (p_bounds : Nat → Int32) (p_pairA : Nat → Int32) (p_pairB : Nat → Int32) (p_leaving : Nat → Int32) (p_firstLeaving : Nat → Int32) (g_come : Nat → Int32) (g_outcomes : Nat → Int32) (g_greatestTimes : Nat → Int32) (g_leastTimes : Nat → Int32) (g_changed : Nat → Int32) (g_greatest : Nat → Int32) (g_least : Nat → Int32) (g_greatestNow : Nat → Int32) (g_leastNow : Nat → Int32) (s_order : Nat → Int32) (s_arriving : Nat → Int32) (s_unit : Nat → Int32) (s_flag : Nat → Int32) (s_forbidding : Nat → Int32) (s_most : Nat → Int64) (s_fewest : Nat → Int64) (m_thrown : Int32) (m_sets : Int32) (m_ways : Int32) (m_penalty : Int32) (m_blocks : Int32) (m_edges : Int32) (m_pairs : Int32) (m_lines : Int32) (m_isFresh : Int32) (m_isAnswer : Int32) (m_time : Nat → Int32) (m_touchMany : Nat → Int32) (m_touch : Nat → Int32) (m_line : Nat → Int32) (m_from : Nat → Int32) (m_to : Nat → Int32) (m_bound : Nat → Int32) (m_pairA : Nat → Int32) (m_pairB : Nat → Int32) (m_comeTo : Nat → Int32) (m_greatest : Nat → Int32) (m_least : Nat → Int32) (m_nowGreatest : Nat → Int32) (m_nowLeast : Nat → Int32) (m_does : Nat → Int32) (m_mostTime : Nat → Int64) (m_leastTime : Nat → Int64) (m_countUnit : Nat → Int32) (m_flagUnit : Nat → Int32) (m_worst : Nat → Int64) (m_best : Nat → Int64) (m_stack : Nat → Int32) (f : Nat → Int64) (H : Heap) (locs : List Loc), cpI x_agesStand x_searchStands p_blocks p_lines p_edges p_pairs g_sets g_size g_penalty g_comeCount s_answered s_codes s_ordered p_times p_touchCounts p_touchSlots p_lineOfSlot p_from p_to p_bounds p_pairA p_pairB p_leaving p_firstLeaving g_come g_outcomes g_greatestTimes g_leastTimes g_changed g_greatest g_least g_greatestNow g_leastNow s_order s_arriving s_unit s_flag s_forbidding s_most s_fewest m_thrown m_sets m_ways m_penalty m_blocks m_edges m_pairs m_lines m_isFresh m_isAnswer m_time m_touchMany m_touch m_line m_from m_to m_bound m_pairA m_pairB m_comeTo m_greatest m_least m_nowGreatest m_nowLeast m_does m_mostTime m_leastTime m_countUnit m_flagUnit m_worst m_best m_stack → va_P D vwCl (wC a cI cZ cJ x_agesStand x_searchStands p_blocks p_lines p_edges p_pairs g_sets g_size g_penalty g_comeCount s_answered s_codes s_ordered p_times p_touchCounts p_touchSlots p_lineOfSlot p_from p_to p_bounds p_pairA p_pairB p_leaving p_firstLeaving g_come g_outcomes g_greatestTimes g_leastTimes g_changed g_greatest g_least g_greatestNow g_leastNow s_order s_arriving s_unit s_flag s_forbidding s_most s_fewest ++ [(o, .inl (cJ, 1, .inr (.inl f)))] ++ wM a2 cI cZ cJ m_thrown m_sets m_ways m_penalty m_blocks m_edges m_pairs m_lines m_isFresh m_isAnswer m_time m_touchMany m_touch m_line m_from m_to m_bound m_pairA m_pairB m_comeTo m_greatest m_least m_nowGreatest m_nowLeast m_does m_mostTime m_leastTime m_countUnit m_flagUnit m_worst m_best m_stack) H → va_D (lwA s) (wC a cI cZ cJ x_agesStand x_searchStands p_blocks p_lines p_edges p_pairs g_sets g_size g_penalty g_comeCount s_answered s_codes s_ordered p_times p_touchCounts p_touchSlots p_lineOfSlot p_from p_to p_bounds p_pairA p_pairB p_leaving p_firstLeaving g_come g_outcomes g_greatestTimes g_leastTimes g_changed g_greatest g_least g_greatestNow g_leastNow s_order s_arriving s_unit s_flag s_forbidding s_most s_fewest ++ [(o, .inl (cJ, 1, .inr (.inl f)))] ++ wM a2 cI cZ cJ m_thrown m_sets m_ways m_penalty m_blocks m_edges m_pairs m_lines m_isFresh m_isAnswer m_time m_touchMany m_touch m_line m_from m_to m_bound m_pairA m_pairB m_comeTo m_greatest m_least m_nowGreatest m_nowLeast m_does m_mostTime m_leastTime m_countUnit m_flagUnit m_worst m_best m_stack) → va_S (lwA s) s.heap H locs → ∀ (ls : Array Slot), lv_has ls 8 [(0, .ref b), (1, .ref (a 0)), (2, .ref (a2 0)), (3, .ref o), (4, .int x4)] → W p l e room_1 s m #[Value.ref b] below meth c H locs (55 + k) (209210 + 6 * k) (lw_Z below #[Value.ref b] s) (F0 m 53 ls []) := by
  have C1 := C0
  obtain ⟨hx, hb, hr, hml, hown, htl, hX, hbl, hlocks, hgv⟩ := C1
  have hbA : ¬ lwA s b := Nat.not_le.mpr hbl
  intro n
  induction n with
  | zero => intro k x4 h1 h2; omega
  | succ n ih =>
    intro k x4 hn hk ex4 x_agesStand x_searchStands p_blocks p_lines p_edges p_pairs g_sets g_size g_penalty g_comeCount s_answered s_codes s_ordered p_times p_touchCounts p_touchSlots p_lineOfSlot p_from p_to p_bounds p_pairA p_pairB p_leaving p_firstLeaving g_come g_outcomes g_greatestTimes g_leastTimes g_changed g_greatest g_least g_greatestNow g_leastNow s_order s_arriving s_unit s_flag s_forbidding s_most s_fewest m_thrown m_sets m_ways m_penalty m_blocks m_edges m_pairs m_lines m_isFresh m_isAnswer m_time m_touchMany m_touch m_line m_from m_to m_bound m_pairA m_pairB m_comeTo m_greatest m_least m_nowGreatest m_nowLeast m_does m_mostTime m_leastTime m_countUnit m_flagUnit m_worst m_best m_stack f H locs hcp hP hD hS ls hl
    refine lv_iload hx hb dL_law_53 (lv_at hl 4 rfl) ?_
    refine lv_aload_n hx hb dL_law_55 rfl (lv_at hl 0 rfl) ?_
    refine va_slen hx hb hX hbl hbA hS dL_law_56 ?_
    refine lv_iconst (v := 4) hx hb dL_law_57 (by decide) ?_
    refine lv_isub hx hb dL_law_58 ?_
    have l4 : (Int32.ofNat L - 4).toInt = (L : Int) - 4 := by
      have e1 : (Int32.ofNat L).toInt = (L : Int) := nI_toInt (n := L) (by omega)
      have e2 : (4 : Int32).toInt = 4 := by decide
      rw [Int32.toInt_sub, e1, e2]
      exact bm32 (by omega) (by omega)
    have x4i : x4.toInt = ((3 + 4 * k : Nat) : Int) := by rw [ex4]; exact nI_toInt (by omega)
    refine lv_icmp_gt (tgt := 861) hx hb dL_law_59 (by decide) (fun hc => ?_) (fun hc => ?_)
    · refine lv_iconst (v := 1) hx hb dL_law_861 (by decide) ?_
      refine va_forget (fun q hq => hS.2.2 q hq) ?_
      refine W.widen (k := 601024) (n := 7293000) (by omega) (by omega) ?_
      exact lw_ret hx hb hr hlocks dL_law_862
    · have hi : 3 + 4 * k + 3 < L := by
        have hc := Int32.not_lt.mp hc
        rw [Int32.le_iff_toInt_le, l4, x4i] at hc
        omega
      have hk5 : k < 512 := by omega
      have h0 : vp_in (x4) L := by rw [ex4]; exact vp_in_nI (by omega) (by omega)
      have h1 : vp_in (x4 + 1) L := by rw [ex4, show nI (3 + 4 * k) + 1 = nI (3 + 4 * k + 1) from nI_add _ 1]; exact vp_in_nI (by omega) (by omega)
      have h2 : vp_in (x4 + 2) L := by rw [ex4, show nI (3 + 4 * k) + 2 = nI (3 + 4 * k + 2) from nI_add _ 2]; exact vp_in_nI (by omega) (by omega)
      have h3 : vp_in (x4 + 3) L := by rw [ex4, show nI (3 + 4 * k) + 3 = nI (3 + 4 * k + 3) from nI_add _ 3]; exact vp_in_nI (by omega) (by omega)
      have KK : lwK p l e s m below meth c D a a2 o cI cZ cJ b x4 k := by
        intro x_agesStand x_searchStands p_blocks p_lines p_edges p_pairs g_sets g_size g_penalty g_comeCount s_answered s_codes s_ordered p_times p_touchCounts p_touchSlots p_lineOfSlot p_from p_to p_bounds p_pairA p_pairB p_leaving p_firstLeaving g_come g_outcomes g_greatestTimes g_leastTimes g_changed g_greatest g_least g_greatestNow g_leastNow s_order s_arriving s_unit s_flag s_forbidding s_most s_fewest m_thrown m_sets m_ways m_penalty m_blocks m_edges m_pairs m_lines m_isFresh m_isAnswer m_time m_touchMany m_touch m_line m_from m_to m_bound m_pairA m_pairB m_comeTo m_greatest m_least m_nowGreatest m_nowLeast m_does m_mostTime m_leastTime m_countUnit m_flagUnit m_worst m_best m_stack f H locs hcp hP hD hS ls hl
        refine lv_iinc (v := x4 + 4) (lv' := [(4, .int (x4 + 4)), (0, .ref b), (1, .ref (a 0)), (2, .ref (a2 0)), (3, .ref o)]) hx hb dL_law_855 hl (k := 4) rfl rfl (by decide) rfl (fun ls hl => ?_)
        refine lv_goto (tgt := 53) hx hb dL_law_858 (by decide) ?_
        refine W.widen (k := 55 + (k + 1)) (n := 209210 + 6 * (k + 1)) (by omega) (by omega) ?_
        exact ih (k + 1) (x4 + 4) (by omega) (by omega) (by rw [ex4, show nI (3 + 4 * k) + 4 = nI (3 + 4 * k + 4) from nI_add _ 4]; exact congrArg nI (by omega)) x_agesStand x_searchStands p_blocks p_lines p_edges p_pairs g_sets g_size g_penalty g_comeCount s_answered s_codes s_ordered p_times p_touchCounts p_touchSlots p_lineOfSlot p_from p_to p_bounds p_pairA p_pairB p_leaving p_firstLeaving g_come g_outcomes g_greatestTimes g_leastTimes g_changed g_greatest g_least g_greatestNow g_leastNow s_order s_arriving s_unit s_flag s_forbidding s_most s_fewest m_thrown m_sets m_ways m_penalty m_blocks m_edges m_pairs m_lines m_isFresh m_isAnswer m_time m_touchMany m_touch m_line m_from m_to m_bound m_pairA m_pairB m_comeTo m_greatest m_least m_nowGreatest m_nowLeast m_does m_mostTime m_leastTime m_countUnit m_flagUnit m_worst m_best m_stack f H locs hcp hP hD hS ls (lv_sub hl [1, 2, 3, 4, 0] rfl)
      refine lv_aload_n hx hb dL_law_62 rfl (lv_at hl 0 rfl) ?_
      refine lv_iload hx hb dL_law_63 (lv_at hl 4 rfl) ?_
      refine va_sld hx hb hX hbl hbA hS h0 dL_law_65 ?_
      refine lv_bipush (v := 15) hx hb dL_law_66 (by decide) ?_
      refine lv_iand hx hb dL_law_68 ?_
      refine lv_topi (fun y ey => ?_)
      by_cases hc0 : y = 0
      · refine lv_tableIn (off := 63) (tgt := 132) hx hb dL_law_69 (by rw [hc0]; decide) (by rw [hc0]; decide) (by rw [hc0]; rfl) (by decide) ?_
        exact lw_block C0 hst hK hX0 hk5 h1 h2 h3 hcp hP hD hS hl KK
      by_cases hc1 : y = 1
      · refine lv_tableIn (off := 119) (tgt := 188) hx hb dL_law_69 (by rw [hc1]; decide) (by rw [hc1]; decide) (by rw [hc1]; rfl) (by decide) ?_
        exact lw_touch C0 hst hK hX0 hk5 h1 h2 h3 hcp hP hD hS hl KK
      by_cases hc2 : y = 2
      · refine lv_tableIn (off := 187) (tgt := 256) hx hb dL_law_69 (by rw [hc2]; decide) (by rw [hc2]; decide) (by rw [hc2]; rfl) (by decide) ?_
        exact lw_edge C0 hst hK hX0 hk5 h1 h2 h3 hcp hP hD hS hl KK
      by_cases hc3 : y = 3
      · refine lv_tableIn (off := 255) (tgt := 324) hx hb dL_law_69 (by rw [hc3]; decide) (by rw [hc3]; decide) (by rw [hc3]; rfl) (by decide) ?_
        exact lw_bound C0 hst hK hX0 hk5 h1 h2 h3 hcp hP hD hS hl KK
      by_cases hc4 : y = 4
      · refine lv_tableIn (off := 323) (tgt := 392) hx hb dL_law_69 (by rw [hc4]; decide) (by rw [hc4]; decide) (by rw [hc4]; rfl) (by decide) ?_
        exact lw_pair C0 hst hK hX0 hk5 h1 h2 h3 hcp hP hD hS hl KK
      by_cases hc5 : y = 5
      · refine lv_tableIn (off := 391) (tgt := 460) hx hb dL_law_69 (by rw [hc5]; decide) (by rw [hc5]; decide) (by rw [hc5]; rfl) (by decide) ?_
        exact lw_worst C0 hst hK hX0 hk5 h1 h2 h3 hcp hP hD hS hl KK
      by_cases hc6 : y = 6
      · refine lv_tableIn (off := 434) (tgt := 503) hx hb dL_law_69 (by rw [hc6]; decide) (by rw [hc6]; decide) (by rw [hc6]; rfl) (by decide) ?_
        exact lw_best C0 hst hK hX0 hk5 h1 h2 h3 hcp hP hD hS hl KK
      by_cases hc7 : y = 7
      · refine lv_tableIn (off := 477) (tgt := 546) hx hb dL_law_69 (by rw [hc7]; decide) (by rw [hc7]; decide) (by rw [hc7]; rfl) (by decide) ?_
        exact lw_way C0 hst hK hX0 hk5 h1 h2 h3 hcp hP hD hS hl KK
      by_cases hc8 : y = 8
      · refine lv_tableIn (off := 545) (tgt := 614) hx hb dL_law_69 (by rw [hc8]; decide) (by rw [hc8]; decide) (by rw [hc8]; rfl) (by decide) ?_
        exact lw_touches C0 hst hK hX0 hk5 h1 h2 h3 hcp hP hD hS hl KK
      by_cases hc9 : y = 9
      · refine lv_tableIn (off := 613) (tgt := 682) hx hb dL_law_69 (by rw [hc9]; decide) (by rw [hc9]; decide) (by rw [hc9]; rfl) (by decide) ?_
        exact lw_age C0 hst hK hX0 hk5 h1 h2 h3 hcp hP hD hS hl KK
      by_cases hc10 : y = 10
      · refine lv_tableIn (off := 693) (tgt := 762) hx hb dL_law_69 (by rw [hc10]; decide) (by rw [hc10]; decide) (by rw [hc10]; rfl) (by decide) ?_
        exact lw_time C0 hst hK hX0 hk5 h1 h2 h3 hcp hP hD hS hl KK
      by_cases hc11 : y = 11
      · refine lv_tableIn (off := 761) (tgt := 830) hx hb dL_law_69 (by rw [hc11]; decide) (by rw [hc11]; decide) (by rw [hc11]; rfl) (by decide) ?_
        exact lw_count C0 hst hK hX0 hk5 h1 h2 h3 hcp hP hD hS hl KK
      refine lv_tableOut (tgt := 855) hx hb dL_law_69 (by have h90 := lv_neT hc0 (a := 0) rfl; have h91 := lv_neT hc1 (a := 1) rfl; have h92 := lv_neT hc2 (a := 2) rfl; have h93 := lv_neT hc3 (a := 3) rfl; have h94 := lv_neT hc4 (a := 4) rfl; have h95 := lv_neT hc5 (a := 5) rfl; have h96 := lv_neT hc6 (a := 6) rfl; have h97 := lv_neT hc7 (a := 7) rfl; have h98 := lv_neT hc8 (a := 8) rfl; have h99 := lv_neT hc9 (a := 9) rfl; have h910 := lv_neT hc10 (a := 10) rfl; have h911 := lv_neT hc11 (a := 11) rfl; omega) (by decide) ?_
      refine W.widen (k := 55 + k + 1) (n := 209210 + 6 * k + 6) (by omega) (by omega) ?_
      exact KK x_agesStand x_searchStands p_blocks p_lines p_edges p_pairs g_sets g_size g_penalty g_comeCount s_answered s_codes s_ordered p_times p_touchCounts p_touchSlots p_lineOfSlot p_from p_to p_bounds p_pairA p_pairB p_leaving p_firstLeaving g_come g_outcomes g_greatestTimes g_leastTimes g_changed g_greatest g_least g_greatestNow g_leastNow s_order s_arriving s_unit s_flag s_forbidding s_most s_fewest m_thrown m_sets m_ways m_penalty m_blocks m_edges m_pairs m_lines m_isFresh m_isAnswer m_time m_touchMany m_touch m_line m_from m_to m_bound m_pairA m_pairB m_comeTo m_greatest m_least m_nowGreatest m_nowLeast m_does m_mostTime m_leastTime m_countUnit m_flagUnit m_worst m_best m_stack f H locs hcp hP hD hS ls hl
