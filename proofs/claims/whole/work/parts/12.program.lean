def wp_X1_hasBlock (v1 : Int32) (p_blocks : Int32) (Q : Int32 → Prop) : Prop := (v1 < 0 → Q 0) ∧ (¬ v1 < 0 → (p_blocks ≤ v1 → Q 0) ∧ (¬ p_blocks ≤ v1 → Q 1))
abbrev rm_X1_hasBlock : Room := { frames := 0, cells := 0, slots := 0, locals := 0 }
set_option maxHeartbeats 4000000 in
set_option maxRecDepth 100000 in
theorem c_X1_hasBlock (l : Launch) (D : va_G) (a : Nat → Nat) (cI : ClassId) (cZ : ClassId) (cJ : ClassId) (sz : Nat) (x_agesStand : Int32) (x_searchStands : Int32) (p_blocks : Int32) (p_lines : Int32) (p_edges : Int32) (p_pairs : Int32) (g_sets : Int32) (g_size : Int32) (g_penalty : Int32) (g_comeCount : Int32) (s_answered : Int32) (s_codes : Int32) (s_ordered : Int32) (p_times : Nat → Int32) (p_touchCounts : Nat → Int32) (p_touchSlots : Nat → Int32) (p_lineOfSlot : Nat → Int32) (p_from : Nat → Int32) (p_to : Nat → Int32) (p_bounds : Nat → Int32) (p_pairA : Nat → Int32) (p_pairB : Nat → Int32) (p_leaving : Nat → Int32) (p_firstLeaving : Nat → Int32) (g_come : Nat → Int32) (g_outcomes : Nat → Int32) (g_greatestTimes : Nat → Int32) (g_leastTimes : Nat → Int32) (g_changed : Nat → Int32) (g_greatest : Nat → Int32) (g_least : Nat → Int32) (g_greatestNow : Nat → Int32) (g_leastNow : Nat → Int32) (s_order : Nat → Int32) (s_arriving : Nat → Int32) (s_unit : Nat → Int32) (s_flag : Nat → Int32) (s_forbidding : Nat → Int32) (s_most : Nat → Int64) (s_fewest : Nat → Int64) (v1 : Int32) (Q : Int32 → Prop) (h : wp_X1_hasBlock v1 p_blocks Q) : Met l yX1_hasBlock wsX1_hasBlock rm_X1_hasBlock (va_Pc [.ref (a 1), .int v1] (inW D cI cZ cJ sz (wC a cI cZ cJ x_agesStand x_searchStands p_blocks p_lines p_edges p_pairs g_sets g_size g_penalty g_comeCount s_answered s_codes s_ordered p_times p_touchCounts p_touchSlots p_lineOfSlot p_from p_to p_bounds p_pairA p_pairB p_leaving p_firstLeaving g_come g_outcomes g_greatestTimes g_leastTimes g_changed g_greatest g_least g_greatestNow g_leastNow s_order s_arriving s_unit s_flag s_forbidding s_most s_fewest))) (va_Qi (fun (r : Int32) (u : Unit) => Q r) (fun (u : Unit) => outW D cI cZ cJ (va_A (wC a cI cZ cJ x_agesStand x_searchStands p_blocks p_lines p_edges p_pairs g_sets g_size g_penalty g_comeCount s_answered s_codes s_ordered p_times p_touchCounts p_touchSlots p_lineOfSlot p_from p_to p_bounds p_pairA p_pairB p_leaving p_firstLeaving g_come g_outcomes g_greatestTimes g_leastTimes g_changed g_greatest g_least g_greatestNow g_leastNow s_order s_arriving s_unit s_flag s_forbidding s_most s_fewest) sz) (wC a cI cZ cJ x_agesStand x_searchStands p_blocks p_lines p_edges p_pairs g_sets g_size g_penalty g_comeCount s_answered s_codes s_ordered p_times p_touchCounts p_touchSlots p_lineOfSlot p_from p_to p_bounds p_pairA p_pairB p_leaving p_firstLeaving g_come g_outcomes g_greatestTimes g_leastTimes g_changed g_greatest g_least g_greatestNow g_leastNow s_order s_arriving s_unit s_flag s_forbidding s_most s_fewest)) (va_A (wC a cI cZ cJ x_agesStand x_searchStands p_blocks p_lines p_edges p_pairs g_sets g_size g_penalty g_comeCount s_answered s_codes s_ordered p_times p_touchCounts p_touchSlots p_lineOfSlot p_from p_to p_bounds p_pairA p_pairB p_leaving p_firstLeaving g_come g_outcomes g_greatestTimes g_leastTimes g_changed g_greatest g_least g_greatestNow g_leastNow s_order s_arriving s_unit s_flag s_forbidding s_most s_fewest) sz)) 0 0 (va_A (wC a cI cZ cJ x_agesStand x_searchStands p_blocks p_lines p_edges p_pairs g_sets g_size g_penalty g_comeCount s_answered s_codes s_ordered p_times p_touchCounts p_touchSlots p_lineOfSlot p_from p_to p_bounds p_pairA p_pairB p_leaving p_firstLeaving g_come g_outcomes g_greatestTimes g_leastTimes g_changed g_greatest g_least g_greatestNow g_leastNow s_order s_arriving s_unit s_flag s_forbidding s_most s_fewest) sz) := by
  refine Met.ofW (cc := cX1_hasBlock) (maxL := 2) (ret := (some .boolean)) (by decide +kernel) rfl ?_
  intro p e s m args below meth c s₁ B hml hv
  obtain ⟨rfl, hsz, hP, hK, hD0⟩ := hv
  have hx := B.exec
  have hb := B.bytes
  have hr := B.returns
  have hts := atoms_spec (ws := wsX1_hasBlock) B.pre
  have hown : s.vm.findClass RX1 = some m.cls := findClass_of_methodNamed B.named
  have hlocks := B.notSynchronized
  have hinX1 : ∀ w ∈ wsX10, w ∈ wsX1_hasBlock := by decide +kernel
  subst hsz
  have hD := hD0.self (sz := s.heap.size)
  generalize hAe : va_A (wC a cI cZ cJ x_agesStand x_searchStands p_blocks p_lines p_edges p_pairs g_sets g_size g_penalty g_comeCount s_answered s_codes s_ordered p_times p_touchCounts p_touchSlots p_lineOfSlot p_from p_to p_bounds p_pairA p_pairB p_leaving p_firstLeaving g_come g_outcomes g_greatestTimes g_leastTimes g_changed g_greatest g_least g_greatestNow g_leastNow s_order s_arriving s_unit s_flag s_forbidding s_most s_fewest) s.heap.size = A at hD ⊢
  have hA : ∀ q : Nat, s.heap.size ≤ q → A q := fun q h => by rw [← hAe]; exact Or.inr h
  have hS : va_S A s.heap s.heap [] := va_S.rf
  have hP : va_P D vwCl (wC a cI cZ cJ x_agesStand x_searchStands p_blocks p_lines p_edges p_pairs g_sets g_size g_penalty g_comeCount s_answered s_codes s_ordered p_times p_touchCounts p_touchSlots p_lineOfSlot p_from p_to p_bounds p_pairA p_pairB p_leaving p_firstLeaving g_come g_outcomes g_greatestTimes g_leastTimes g_changed g_greatest g_least g_greatestNow g_leastNow s_order s_arriving s_unit s_flag s_forbidding s_most s_fewest) s.heap := hP
  have hl := lv_entry ([.ref (a 1), .int v1]) (n := 2) (Nat.le_of_ble_eq_true rfl)
  rw [lg_entry_eq]
  generalize (lg_sl ([.ref (a 1), .int v1]) ++ List.replicate (2 - (lg_sl ([.ref (a 1), .int v1])).length) Slot.unset).toArray = ls at hl ⊢
  have hl : lv_has ls 2 [(0, .ref (a 1)), (1, .int v1)] := hl
  refine wz_abs (fun Qz hQz => ?_)
  unfold wp_X1_hasBlock at h
  refine lv_iload_n hx hb dX1_hasBlock_0 rfl (lv_at hl 1 rfl) ?_
  refine lv_if_lt (tgt := 16) hx hb dX1_hasBlock_1 (by decide) (fun hc => ?_) (fun hc => ?_)
  · replace h := h.1 hc
    refine lv_iconst (v := 0) hx hb dX1_hasBlock_16 (by decide) ?_
    refine wz_mono hQz ?_
    exact W.zret (v := 0) hx hb hr rfl (fun t ht hW => ⟨⟨0, (), rfl, h, by rw [ht]; exact hP, va_K.moved hW.alike hK, hD⟩, hS.F ht⟩) hS.2.2 dX1_hasBlock_17
  · replace h := h.2 hc
    refine lv_iload_n hx hb dX1_hasBlock_4 rfl (lv_at hl 1 rfl) ?_
    refine lv_aload_n hx hb dX1_hasBlock_5 rfl (lv_at hl 0 rfl) ?_
    refine va_get (D := D) (ci := 1) (v := .int p_blocks) (C := RX1) (T := TX1) (N := 15) hx hb hts hinX1 hown hK hP 1 rfl rfl 0 (by decide) (hts (.fieldLink RX1 45 "WorstPaths$Program" "blocks" "I") (by decide +kernel)) (fun _ h9 => h9) rfl dX1_hasBlock_6 ?_
    refine lv_icmp_ge (tgt := 16) hx hb dX1_hasBlock_9 (by decide) (fun hc => ?_) (fun hc => ?_)
    · replace h := h.1 hc
      refine lv_iconst (v := 0) hx hb dX1_hasBlock_16 (by decide) ?_
      refine wz_mono hQz ?_
      exact W.zret (v := 0) hx hb hr rfl (fun t ht hW => ⟨⟨0, (), rfl, h, by rw [ht]; exact hP, va_K.moved hW.alike hK, hD⟩, hS.F ht⟩) hS.2.2 dX1_hasBlock_17
    · replace h := h.2 hc
      refine lv_iconst (v := 1) hx hb dX1_hasBlock_12 (by decide) ?_
      refine lv_goto (tgt := 17) hx hb dX1_hasBlock_13 (by decide) ?_
      refine wz_mono hQz ?_
      exact W.zret (v := 1) hx hb hr rfl (fun t ht hW => ⟨⟨1, (), rfl, h, by rw [ht]; exact hP, va_K.moved hW.alike hK, hD⟩, hS.F ht⟩) hS.2.2 dX1_hasBlock_17
def wp_X1_hasEdge (v1 : Int32) (p_edges : Int32) (Q : Int32 → Prop) : Prop := (v1 < 0 → Q 0) ∧ (¬ v1 < 0 → (p_edges ≤ v1 → Q 0) ∧ (¬ p_edges ≤ v1 → Q 1))
abbrev rm_X1_hasEdge : Room := { frames := 0, cells := 0, slots := 0, locals := 0 }
set_option maxHeartbeats 4000000 in
set_option maxRecDepth 100000 in
theorem c_X1_hasEdge (l : Launch) (D : va_G) (a : Nat → Nat) (cI : ClassId) (cZ : ClassId) (cJ : ClassId) (sz : Nat) (x_agesStand : Int32) (x_searchStands : Int32) (p_blocks : Int32) (p_lines : Int32) (p_edges : Int32) (p_pairs : Int32) (g_sets : Int32) (g_size : Int32) (g_penalty : Int32) (g_comeCount : Int32) (s_answered : Int32) (s_codes : Int32) (s_ordered : Int32) (p_times : Nat → Int32) (p_touchCounts : Nat → Int32) (p_touchSlots : Nat → Int32) (p_lineOfSlot : Nat → Int32) (p_from : Nat → Int32) (p_to : Nat → Int32) (p_bounds : Nat → Int32) (p_pairA : Nat → Int32) (p_pairB : Nat → Int32) (p_leaving : Nat → Int32) (p_firstLeaving : Nat → Int32) (g_come : Nat → Int32) (g_outcomes : Nat → Int32) (g_greatestTimes : Nat → Int32) (g_leastTimes : Nat → Int32) (g_changed : Nat → Int32) (g_greatest : Nat → Int32) (g_least : Nat → Int32) (g_greatestNow : Nat → Int32) (g_leastNow : Nat → Int32) (s_order : Nat → Int32) (s_arriving : Nat → Int32) (s_unit : Nat → Int32) (s_flag : Nat → Int32) (s_forbidding : Nat → Int32) (s_most : Nat → Int64) (s_fewest : Nat → Int64) (v1 : Int32) (Q : Int32 → Prop) (h : wp_X1_hasEdge v1 p_edges Q) : Met l yX1_hasEdge wsX1_hasEdge rm_X1_hasEdge (va_Pc [.ref (a 1), .int v1] (inW D cI cZ cJ sz (wC a cI cZ cJ x_agesStand x_searchStands p_blocks p_lines p_edges p_pairs g_sets g_size g_penalty g_comeCount s_answered s_codes s_ordered p_times p_touchCounts p_touchSlots p_lineOfSlot p_from p_to p_bounds p_pairA p_pairB p_leaving p_firstLeaving g_come g_outcomes g_greatestTimes g_leastTimes g_changed g_greatest g_least g_greatestNow g_leastNow s_order s_arriving s_unit s_flag s_forbidding s_most s_fewest))) (va_Qi (fun (r : Int32) (u : Unit) => Q r) (fun (u : Unit) => outW D cI cZ cJ (va_A (wC a cI cZ cJ x_agesStand x_searchStands p_blocks p_lines p_edges p_pairs g_sets g_size g_penalty g_comeCount s_answered s_codes s_ordered p_times p_touchCounts p_touchSlots p_lineOfSlot p_from p_to p_bounds p_pairA p_pairB p_leaving p_firstLeaving g_come g_outcomes g_greatestTimes g_leastTimes g_changed g_greatest g_least g_greatestNow g_leastNow s_order s_arriving s_unit s_flag s_forbidding s_most s_fewest) sz) (wC a cI cZ cJ x_agesStand x_searchStands p_blocks p_lines p_edges p_pairs g_sets g_size g_penalty g_comeCount s_answered s_codes s_ordered p_times p_touchCounts p_touchSlots p_lineOfSlot p_from p_to p_bounds p_pairA p_pairB p_leaving p_firstLeaving g_come g_outcomes g_greatestTimes g_leastTimes g_changed g_greatest g_least g_greatestNow g_leastNow s_order s_arriving s_unit s_flag s_forbidding s_most s_fewest)) (va_A (wC a cI cZ cJ x_agesStand x_searchStands p_blocks p_lines p_edges p_pairs g_sets g_size g_penalty g_comeCount s_answered s_codes s_ordered p_times p_touchCounts p_touchSlots p_lineOfSlot p_from p_to p_bounds p_pairA p_pairB p_leaving p_firstLeaving g_come g_outcomes g_greatestTimes g_leastTimes g_changed g_greatest g_least g_greatestNow g_leastNow s_order s_arriving s_unit s_flag s_forbidding s_most s_fewest) sz)) 0 0 (va_A (wC a cI cZ cJ x_agesStand x_searchStands p_blocks p_lines p_edges p_pairs g_sets g_size g_penalty g_comeCount s_answered s_codes s_ordered p_times p_touchCounts p_touchSlots p_lineOfSlot p_from p_to p_bounds p_pairA p_pairB p_leaving p_firstLeaving g_come g_outcomes g_greatestTimes g_leastTimes g_changed g_greatest g_least g_greatestNow g_leastNow s_order s_arriving s_unit s_flag s_forbidding s_most s_fewest) sz) := by
  refine Met.ofW (cc := cX1_hasEdge) (maxL := 2) (ret := (some .boolean)) (by decide +kernel) rfl ?_
  intro p e s m args below meth c s₁ B hml hv
  obtain ⟨rfl, hsz, hP, hK, hD0⟩ := hv
  have hx := B.exec
  have hb := B.bytes
  have hr := B.returns
  have hts := atoms_spec (ws := wsX1_hasEdge) B.pre
  have hown : s.vm.findClass RX1 = some m.cls := findClass_of_methodNamed B.named
  have hlocks := B.notSynchronized
  have hinX1 : ∀ w ∈ wsX10, w ∈ wsX1_hasEdge := by decide +kernel
  subst hsz
  have hD := hD0.self (sz := s.heap.size)
  generalize hAe : va_A (wC a cI cZ cJ x_agesStand x_searchStands p_blocks p_lines p_edges p_pairs g_sets g_size g_penalty g_comeCount s_answered s_codes s_ordered p_times p_touchCounts p_touchSlots p_lineOfSlot p_from p_to p_bounds p_pairA p_pairB p_leaving p_firstLeaving g_come g_outcomes g_greatestTimes g_leastTimes g_changed g_greatest g_least g_greatestNow g_leastNow s_order s_arriving s_unit s_flag s_forbidding s_most s_fewest) s.heap.size = A at hD ⊢
  have hA : ∀ q : Nat, s.heap.size ≤ q → A q := fun q h => by rw [← hAe]; exact Or.inr h
  have hS : va_S A s.heap s.heap [] := va_S.rf
  have hP : va_P D vwCl (wC a cI cZ cJ x_agesStand x_searchStands p_blocks p_lines p_edges p_pairs g_sets g_size g_penalty g_comeCount s_answered s_codes s_ordered p_times p_touchCounts p_touchSlots p_lineOfSlot p_from p_to p_bounds p_pairA p_pairB p_leaving p_firstLeaving g_come g_outcomes g_greatestTimes g_leastTimes g_changed g_greatest g_least g_greatestNow g_leastNow s_order s_arriving s_unit s_flag s_forbidding s_most s_fewest) s.heap := hP
  have hl := lv_entry ([.ref (a 1), .int v1]) (n := 2) (Nat.le_of_ble_eq_true rfl)
  rw [lg_entry_eq]
  generalize (lg_sl ([.ref (a 1), .int v1]) ++ List.replicate (2 - (lg_sl ([.ref (a 1), .int v1])).length) Slot.unset).toArray = ls at hl ⊢
  have hl : lv_has ls 2 [(0, .ref (a 1)), (1, .int v1)] := hl
  refine wz_abs (fun Qz hQz => ?_)
  unfold wp_X1_hasEdge at h
  refine lv_iload_n hx hb dX1_hasEdge_0 rfl (lv_at hl 1 rfl) ?_
  refine lv_if_lt (tgt := 16) hx hb dX1_hasEdge_1 (by decide) (fun hc => ?_) (fun hc => ?_)
  · replace h := h.1 hc
    refine lv_iconst (v := 0) hx hb dX1_hasEdge_16 (by decide) ?_
    refine wz_mono hQz ?_
    exact W.zret (v := 0) hx hb hr rfl (fun t ht hW => ⟨⟨0, (), rfl, h, by rw [ht]; exact hP, va_K.moved hW.alike hK, hD⟩, hS.F ht⟩) hS.2.2 dX1_hasEdge_17
  · replace h := h.2 hc
    refine lv_iload_n hx hb dX1_hasEdge_4 rfl (lv_at hl 1 rfl) ?_
    refine lv_aload_n hx hb dX1_hasEdge_5 rfl (lv_at hl 0 rfl) ?_
    refine va_get (D := D) (ci := 1) (v := .int p_edges) (C := RX1) (T := TX1) (N := 15) hx hb hts hinX1 hown hK hP 1 rfl rfl 2 (by decide) (hts (.fieldLink RX1 49 "WorstPaths$Program" "edges" "I") (by decide +kernel)) (fun _ h9 => h9) rfl dX1_hasEdge_6 ?_
    refine lv_icmp_ge (tgt := 16) hx hb dX1_hasEdge_9 (by decide) (fun hc => ?_) (fun hc => ?_)
    · replace h := h.1 hc
      refine lv_iconst (v := 0) hx hb dX1_hasEdge_16 (by decide) ?_
      refine wz_mono hQz ?_
      exact W.zret (v := 0) hx hb hr rfl (fun t ht hW => ⟨⟨0, (), rfl, h, by rw [ht]; exact hP, va_K.moved hW.alike hK, hD⟩, hS.F ht⟩) hS.2.2 dX1_hasEdge_17
    · replace h := h.2 hc
      refine lv_iconst (v := 1) hx hb dX1_hasEdge_12 (by decide) ?_
      refine lv_goto (tgt := 17) hx hb dX1_hasEdge_13 (by decide) ?_
      refine wz_mono hQz ?_
      exact W.zret (v := 1) hx hb hr rfl (fun t ht hW => ⟨⟨1, (), rfl, h, by rw [ht]; exact hP, va_K.moved hW.alike hK, hD⟩, hS.F ht⟩) hS.2.2 dX1_hasEdge_17
def lp_X1_slotOf_2 (v1 : Int32) (p_lines : Int32) (p_lineOfSlot : Nat → Int32) (Q : Int32 → Prop) : Nat → Int32 → Prop
  | 0, _ => False
  | n + 1, v2 => (p_lines ≤ v2 → Q (-1)) ∧ (¬ p_lines ≤ v2 → vp_in v2 40 ∧ ((¬ (p_lineOfSlot (Int32.toNatClampNeg v2)) = v1 → (lp_X1_slotOf_2 v1 p_lines p_lineOfSlot Q n) (v2 + 1)) ∧ ((p_lineOfSlot (Int32.toNatClampNeg v2)) = v1 → Q v2)))
def wp_X1_slotOf (v1 : Int32) (p_lines : Int32) (p_lineOfSlot : Nat → Int32) (Q : Int32 → Prop) : Prop := ∃ k2, lp_X1_slotOf_2 v1 p_lines p_lineOfSlot Q k2 0
abbrev rm_X1_slotOf : Room := { frames := 0, cells := 0, slots := 0, locals := 0 }
set_option maxHeartbeats 4000000 in
set_option maxRecDepth 100000 in
theorem c_X1_slotOf (l : Launch) (D : va_G) (a : Nat → Nat) (cI : ClassId) (cZ : ClassId) (cJ : ClassId) (sz : Nat) (x_agesStand : Int32) (x_searchStands : Int32) (p_blocks : Int32) (p_lines : Int32) (p_edges : Int32) (p_pairs : Int32) (g_sets : Int32) (g_size : Int32) (g_penalty : Int32) (g_comeCount : Int32) (s_answered : Int32) (s_codes : Int32) (s_ordered : Int32) (p_times : Nat → Int32) (p_touchCounts : Nat → Int32) (p_touchSlots : Nat → Int32) (p_lineOfSlot : Nat → Int32) (p_from : Nat → Int32) (p_to : Nat → Int32) (p_bounds : Nat → Int32) (p_pairA : Nat → Int32) (p_pairB : Nat → Int32) (p_leaving : Nat → Int32) (p_firstLeaving : Nat → Int32) (g_come : Nat → Int32) (g_outcomes : Nat → Int32) (g_greatestTimes : Nat → Int32) (g_leastTimes : Nat → Int32) (g_changed : Nat → Int32) (g_greatest : Nat → Int32) (g_least : Nat → Int32) (g_greatestNow : Nat → Int32) (g_leastNow : Nat → Int32) (s_order : Nat → Int32) (s_arriving : Nat → Int32) (s_unit : Nat → Int32) (s_flag : Nat → Int32) (s_forbidding : Nat → Int32) (s_most : Nat → Int64) (s_fewest : Nat → Int64) (v1 : Int32) (Q : Int32 → Prop) (h : wp_X1_slotOf v1 p_lines p_lineOfSlot Q) : Met l yX1_slotOf wsX1_slotOf rm_X1_slotOf (va_Pc [.ref (a 1), .int v1] (inW D cI cZ cJ sz (wC a cI cZ cJ x_agesStand x_searchStands p_blocks p_lines p_edges p_pairs g_sets g_size g_penalty g_comeCount s_answered s_codes s_ordered p_times p_touchCounts p_touchSlots p_lineOfSlot p_from p_to p_bounds p_pairA p_pairB p_leaving p_firstLeaving g_come g_outcomes g_greatestTimes g_leastTimes g_changed g_greatest g_least g_greatestNow g_leastNow s_order s_arriving s_unit s_flag s_forbidding s_most s_fewest))) (va_Qi (fun (r : Int32) (u : Unit) => Q r) (fun (u : Unit) => outW D cI cZ cJ (va_A (wC a cI cZ cJ x_agesStand x_searchStands p_blocks p_lines p_edges p_pairs g_sets g_size g_penalty g_comeCount s_answered s_codes s_ordered p_times p_touchCounts p_touchSlots p_lineOfSlot p_from p_to p_bounds p_pairA p_pairB p_leaving p_firstLeaving g_come g_outcomes g_greatestTimes g_leastTimes g_changed g_greatest g_least g_greatestNow g_leastNow s_order s_arriving s_unit s_flag s_forbidding s_most s_fewest) sz) (wC a cI cZ cJ x_agesStand x_searchStands p_blocks p_lines p_edges p_pairs g_sets g_size g_penalty g_comeCount s_answered s_codes s_ordered p_times p_touchCounts p_touchSlots p_lineOfSlot p_from p_to p_bounds p_pairA p_pairB p_leaving p_firstLeaving g_come g_outcomes g_greatestTimes g_leastTimes g_changed g_greatest g_least g_greatestNow g_leastNow s_order s_arriving s_unit s_flag s_forbidding s_most s_fewest)) (va_A (wC a cI cZ cJ x_agesStand x_searchStands p_blocks p_lines p_edges p_pairs g_sets g_size g_penalty g_comeCount s_answered s_codes s_ordered p_times p_touchCounts p_touchSlots p_lineOfSlot p_from p_to p_bounds p_pairA p_pairB p_leaving p_firstLeaving g_come g_outcomes g_greatestTimes g_leastTimes g_changed g_greatest g_least g_greatestNow g_leastNow s_order s_arriving s_unit s_flag s_forbidding s_most s_fewest) sz)) 0 0 (va_A (wC a cI cZ cJ x_agesStand x_searchStands p_blocks p_lines p_edges p_pairs g_sets g_size g_penalty g_comeCount s_answered s_codes s_ordered p_times p_touchCounts p_touchSlots p_lineOfSlot p_from p_to p_bounds p_pairA p_pairB p_leaving p_firstLeaving g_come g_outcomes g_greatestTimes g_leastTimes g_changed g_greatest g_least g_greatestNow g_leastNow s_order s_arriving s_unit s_flag s_forbidding s_most s_fewest) sz) := by
  refine Met.ofW (cc := cX1_slotOf) (maxL := 3) (ret := (some .int)) (by decide +kernel) rfl ?_
  intro p e s m args below meth c s₁ B hml hv
  obtain ⟨rfl, hsz, hP, hK, hD0⟩ := hv
  have hx := B.exec
  have hb := B.bytes
  have hr := B.returns
  have hts := atoms_spec (ws := wsX1_slotOf) B.pre
  have hown : s.vm.findClass RX1 = some m.cls := findClass_of_methodNamed B.named
  have hlocks := B.notSynchronized
  have hinX1 : ∀ w ∈ wsX10, w ∈ wsX1_slotOf := by decide +kernel
  subst hsz
  have hD := hD0.self (sz := s.heap.size)
  generalize hAe : va_A (wC a cI cZ cJ x_agesStand x_searchStands p_blocks p_lines p_edges p_pairs g_sets g_size g_penalty g_comeCount s_answered s_codes s_ordered p_times p_touchCounts p_touchSlots p_lineOfSlot p_from p_to p_bounds p_pairA p_pairB p_leaving p_firstLeaving g_come g_outcomes g_greatestTimes g_leastTimes g_changed g_greatest g_least g_greatestNow g_leastNow s_order s_arriving s_unit s_flag s_forbidding s_most s_fewest) s.heap.size = A at hD ⊢
  have hA : ∀ q : Nat, s.heap.size ≤ q → A q := fun q h => by rw [← hAe]; exact Or.inr h
  have hS : va_S A s.heap s.heap [] := va_S.rf
  have hP : va_P D vwCl (wC a cI cZ cJ x_agesStand x_searchStands p_blocks p_lines p_edges p_pairs g_sets g_size g_penalty g_comeCount s_answered s_codes s_ordered p_times p_touchCounts p_touchSlots p_lineOfSlot p_from p_to p_bounds p_pairA p_pairB p_leaving p_firstLeaving g_come g_outcomes g_greatestTimes g_leastTimes g_changed g_greatest g_least g_greatestNow g_leastNow s_order s_arriving s_unit s_flag s_forbidding s_most s_fewest) s.heap := hP
  have hl := lv_entry ([.ref (a 1), .int v1]) (n := 3) (Nat.le_of_ble_eq_true rfl)
  rw [lg_entry_eq]
  generalize (lg_sl ([.ref (a 1), .int v1]) ++ List.replicate (3 - (lg_sl ([.ref (a 1), .int v1])).length) Slot.unset).toArray = ls at hl ⊢
  have hl : lv_has ls 3 [(0, .ref (a 1)), (1, .int v1)] := hl
  refine wz_abs (fun Qz hQz => ?_)
  unfold wp_X1_slotOf at h
  refine lv_iconst (v := 0) hx hb dX1_slotOf_0 (by decide) ?_
  refine lv_istore_n (lv' := [(2, .int 0), (0, .ref (a 1)), (1, .int v1)]) hx hb dX1_slotOf_1 rfl hl (by decide) rfl (fun ls hl => ?_)
  have LP2 : ∀ (n2 : Nat) (v2_2 : Int32), lp_X1_slotOf_2 v1 p_lines p_lineOfSlot Q n2 v2_2 → ∀ (H : Heap) (locs : List Loc), va_P D vwCl (wC a cI cZ cJ x_agesStand x_searchStands p_blocks p_lines p_edges p_pairs g_sets g_size g_penalty g_comeCount s_answered s_codes s_ordered p_times p_touchCounts p_touchSlots p_lineOfSlot p_from p_to p_bounds p_pairA p_pairB p_leaving p_firstLeaving g_come g_outcomes g_greatestTimes g_leastTimes g_changed g_greatest g_least g_greatestNow g_leastNow s_order s_arriving s_unit s_flag s_forbidding s_most s_fewest) H → va_D A (wC a cI cZ cJ x_agesStand x_searchStands p_blocks p_lines p_edges p_pairs g_sets g_size g_penalty g_comeCount s_answered s_codes s_ordered p_times p_touchCounts p_touchSlots p_lineOfSlot p_from p_to p_bounds p_pairA p_pairB p_leaving p_firstLeaving g_come g_outcomes g_greatestTimes g_leastTimes g_changed g_greatest g_least g_greatestNow g_leastNow s_order s_arriving s_unit s_flag s_forbidding s_most s_fewest) → va_S A s.heap H locs → ∀ (ls : Array Slot), lv_has ls 3 [(0, .ref (a 1)), (1, .int v1), (2, .int v2_2)] → W p l e (headSpec wsX1_slotOf rm_X1_slotOf).room s m ([Value.ref (a 1), Value.int v1] : List Value).toArray below meth c H locs 0 0 Qz (F0 m 2 ls []) := by
    intro n2
    induction n2 with
    | zero => intro v2_2 h; exact h.elim
    | succ n2 ih2 =>
      intro v2_2 h H locs hP hD hS ls hl
      unfold lp_X1_slotOf_2 at h
      refine lv_iload_n hx hb dX1_slotOf_2 rfl (lv_at hl 2 rfl) ?_
      refine lv_aload_n hx hb dX1_slotOf_3 rfl (lv_at hl 0 rfl) ?_
      refine va_get (D := D) (ci := 1) (v := .int p_lines) (C := RX1) (T := TX1) (N := 15) hx hb hts hinX1 hown hK hP 1 rfl rfl 1 (by decide) (hts (.fieldLink RX1 52 "WorstPaths$Program" "lines" "I") (by decide +kernel)) (fun _ h9 => h9) rfl dX1_slotOf_4 ?_
      refine lv_icmp_ge (tgt := 28) hx hb dX1_slotOf_7 (by decide) (fun hc => ?_) (fun hc => ?_)
      · replace h := h.1 hc
        refine lv_iconst (v := (-1)) hx hb dX1_slotOf_28 (by decide) ?_
        refine wz_mono hQz ?_
        exact W.iret (v := (-1)) hx hb hr (fun t ht hW => ⟨⟨(-1), (), rfl, h, by rw [ht]; exact hP, va_K.moved hW.alike hK, hD⟩, hS.F ht⟩) hS.2.2 dX1_slotOf_29
      · replace h := h.2 hc
        refine lv_aload_n hx hb dX1_slotOf_10 rfl (lv_at hl 0 rfl) ?_
        refine va_get (D := D) (ci := 1) (v := .ref (a 7)) (C := RX1) (T := TX1) (N := 15) hx hb hts hinX1 hown hK hP 1 rfl rfl 7 (by decide) (hts (.fieldLink RX1 21 "WorstPaths$Program" "lineOfSlot" "[I") (by decide +kernel)) (fun _ h9 => h9) rfl dX1_slotOf_11 ?_
        refine lv_iload_n hx hb dX1_slotOf_14 rfl (lv_at hl 2 rfl) ?_
        obtain ⟨hq, h⟩ := h
        refine va_iald (D := D) hx hb hK hP 7 0 rfl rfl hq dX1_slotOf_15 ?_
        refine lv_iload_n hx hb dX1_slotOf_16 rfl (lv_at hl 1 rfl) ?_
        refine lv_icmp_ne (tgt := 22) hx hb dX1_slotOf_17 (by decide) (fun hc => ?_) (fun hc => ?_)
        · replace h := h.1 hc
          refine lv_iinc (v := (v2_2 + 1)) (lv' := [(2, .int (v2_2 + 1)), (0, .ref (a 1)), (1, .int v1)]) hx hb dX1_slotOf_22 hl (k := 2) rfl rfl (by decide) rfl (fun ls hl => ?_)
          refine lv_goto (tgt := 2) hx hb dX1_slotOf_25 (by decide) ?_
          exact ih2 (v2_2 + 1) h _ _ hP hD hS _ (lv_sub hl [1, 2, 0] rfl)
        · replace h := h.2 hc
          refine lv_iload_n hx hb dX1_slotOf_20 rfl (lv_at hl 2 rfl) ?_
          refine wz_mono hQz ?_
          exact W.iret (v := v2_2) hx hb hr (fun t ht hW => ⟨⟨v2_2, (), rfl, h, by rw [ht]; exact hP, va_K.moved hW.alike hK, hD⟩, hS.F ht⟩) hS.2.2 dX1_slotOf_21
  obtain ⟨k9, h⟩ := h
  exact LP2 k9 0 h _ _ hP hD hS _ (lv_sub hl [1, 2, 0] rfl)
def wp_X1_hasRoomFor (v1 : Int32) (p_lines : Int32) (p_lineOfSlot : Nat → Int32) (Q : Int32 → Prop) : Prop := (p_lines < 40 → Q 1) ∧ (¬ p_lines < 40 → wp_X1_slotOf v1 p_lines p_lineOfSlot (fun r_11 => (r_11 = (-1) → Q 0) ∧ (¬ r_11 = (-1) → Q 1)))
abbrev rm_X1_hasRoomFor : Room := { frames := 1, cells := 0, slots := 0, locals := 22 }
set_option maxHeartbeats 4000000 in
set_option maxRecDepth 100000 in
theorem c_X1_hasRoomFor (l : Launch) (D : va_G) (a : Nat → Nat) (cI : ClassId) (cZ : ClassId) (cJ : ClassId) (sz : Nat) (x_agesStand : Int32) (x_searchStands : Int32) (p_blocks : Int32) (p_lines : Int32) (p_edges : Int32) (p_pairs : Int32) (g_sets : Int32) (g_size : Int32) (g_penalty : Int32) (g_comeCount : Int32) (s_answered : Int32) (s_codes : Int32) (s_ordered : Int32) (p_times : Nat → Int32) (p_touchCounts : Nat → Int32) (p_touchSlots : Nat → Int32) (p_lineOfSlot : Nat → Int32) (p_from : Nat → Int32) (p_to : Nat → Int32) (p_bounds : Nat → Int32) (p_pairA : Nat → Int32) (p_pairB : Nat → Int32) (p_leaving : Nat → Int32) (p_firstLeaving : Nat → Int32) (g_come : Nat → Int32) (g_outcomes : Nat → Int32) (g_greatestTimes : Nat → Int32) (g_leastTimes : Nat → Int32) (g_changed : Nat → Int32) (g_greatest : Nat → Int32) (g_least : Nat → Int32) (g_greatestNow : Nat → Int32) (g_leastNow : Nat → Int32) (s_order : Nat → Int32) (s_arriving : Nat → Int32) (s_unit : Nat → Int32) (s_flag : Nat → Int32) (s_forbidding : Nat → Int32) (s_most : Nat → Int64) (s_fewest : Nat → Int64) (v1 : Int32) (Q : Int32 → Prop) (h : wp_X1_hasRoomFor v1 p_lines p_lineOfSlot Q) : Met l yX1_hasRoomFor wsX1_hasRoomFor rm_X1_hasRoomFor (va_Pc [.ref (a 1), .int v1] (inW D cI cZ cJ sz (wC a cI cZ cJ x_agesStand x_searchStands p_blocks p_lines p_edges p_pairs g_sets g_size g_penalty g_comeCount s_answered s_codes s_ordered p_times p_touchCounts p_touchSlots p_lineOfSlot p_from p_to p_bounds p_pairA p_pairB p_leaving p_firstLeaving g_come g_outcomes g_greatestTimes g_leastTimes g_changed g_greatest g_least g_greatestNow g_leastNow s_order s_arriving s_unit s_flag s_forbidding s_most s_fewest))) (va_Qi (fun (r : Int32) (u : Unit) => Q r) (fun (u : Unit) => outW D cI cZ cJ (va_A (wC a cI cZ cJ x_agesStand x_searchStands p_blocks p_lines p_edges p_pairs g_sets g_size g_penalty g_comeCount s_answered s_codes s_ordered p_times p_touchCounts p_touchSlots p_lineOfSlot p_from p_to p_bounds p_pairA p_pairB p_leaving p_firstLeaving g_come g_outcomes g_greatestTimes g_leastTimes g_changed g_greatest g_least g_greatestNow g_leastNow s_order s_arriving s_unit s_flag s_forbidding s_most s_fewest) sz) (wC a cI cZ cJ x_agesStand x_searchStands p_blocks p_lines p_edges p_pairs g_sets g_size g_penalty g_comeCount s_answered s_codes s_ordered p_times p_touchCounts p_touchSlots p_lineOfSlot p_from p_to p_bounds p_pairA p_pairB p_leaving p_firstLeaving g_come g_outcomes g_greatestTimes g_leastTimes g_changed g_greatest g_least g_greatestNow g_leastNow s_order s_arriving s_unit s_flag s_forbidding s_most s_fewest)) (va_A (wC a cI cZ cJ x_agesStand x_searchStands p_blocks p_lines p_edges p_pairs g_sets g_size g_penalty g_comeCount s_answered s_codes s_ordered p_times p_touchCounts p_touchSlots p_lineOfSlot p_from p_to p_bounds p_pairA p_pairB p_leaving p_firstLeaving g_come g_outcomes g_greatestTimes g_leastTimes g_changed g_greatest g_least g_greatestNow g_leastNow s_order s_arriving s_unit s_flag s_forbidding s_most s_fewest) sz)) 0 0 (va_A (wC a cI cZ cJ x_agesStand x_searchStands p_blocks p_lines p_edges p_pairs g_sets g_size g_penalty g_comeCount s_answered s_codes s_ordered p_times p_touchCounts p_touchSlots p_lineOfSlot p_from p_to p_bounds p_pairA p_pairB p_leaving p_firstLeaving g_come g_outcomes g_greatestTimes g_leastTimes g_changed g_greatest g_least g_greatestNow g_leastNow s_order s_arriving s_unit s_flag s_forbidding s_most s_fewest) sz) := by
  refine Met.ofW (cc := cX1_hasRoomFor) (maxL := 2) (ret := (some .boolean)) (by decide +kernel) rfl ?_
  intro p e s m args below meth c s₁ B hml hv
  obtain ⟨rfl, hsz, hP, hK, hD0⟩ := hv
  have hx := B.exec
  have hb := B.bytes
  have hr := B.returns
  have hts := atoms_spec (ws := wsX1_hasRoomFor) B.pre
  have hown : s.vm.findClass RX1 = some m.cls := findClass_of_methodNamed B.named
  have hlocks := B.notSynchronized
  have hinX1 : ∀ w ∈ wsX10, w ∈ wsX1_hasRoomFor := by decide +kernel
  subst hsz
  have hD := hD0.self (sz := s.heap.size)
  generalize hAe : va_A (wC a cI cZ cJ x_agesStand x_searchStands p_blocks p_lines p_edges p_pairs g_sets g_size g_penalty g_comeCount s_answered s_codes s_ordered p_times p_touchCounts p_touchSlots p_lineOfSlot p_from p_to p_bounds p_pairA p_pairB p_leaving p_firstLeaving g_come g_outcomes g_greatestTimes g_leastTimes g_changed g_greatest g_least g_greatestNow g_leastNow s_order s_arriving s_unit s_flag s_forbidding s_most s_fewest) s.heap.size = A at hD ⊢
  have hA : ∀ q : Nat, s.heap.size ≤ q → A q := fun q h => by rw [← hAe]; exact Or.inr h
  have hS : va_S A s.heap s.heap [] := va_S.rf
  have hP : va_P D vwCl (wC a cI cZ cJ x_agesStand x_searchStands p_blocks p_lines p_edges p_pairs g_sets g_size g_penalty g_comeCount s_answered s_codes s_ordered p_times p_touchCounts p_touchSlots p_lineOfSlot p_from p_to p_bounds p_pairA p_pairB p_leaving p_firstLeaving g_come g_outcomes g_greatestTimes g_leastTimes g_changed g_greatest g_least g_greatestNow g_leastNow s_order s_arriving s_unit s_flag s_forbidding s_most s_fewest) s.heap := hP
  have hl := lv_entry ([.ref (a 1), .int v1]) (n := 2) (Nat.le_of_ble_eq_true rfl)
  rw [lg_entry_eq]
  generalize (lg_sl ([.ref (a 1), .int v1]) ++ List.replicate (2 - (lg_sl ([.ref (a 1), .int v1])).length) Slot.unset).toArray = ls at hl ⊢
  have hl : lv_has ls 2 [(0, .ref (a 1)), (1, .int v1)] := hl
  refine wz_abs (fun Qz hQz => ?_)
  unfold wp_X1_hasRoomFor at h
  refine lv_aload_n hx hb dX1_hasRoomFor_0 rfl (lv_at hl 0 rfl) ?_
  refine va_get (D := D) (ci := 1) (v := .int p_lines) (C := RX1) (T := TX1) (N := 15) hx hb hts hinX1 hown hK hP 1 rfl rfl 1 (by decide) (hts (.fieldLink RX1 52 "WorstPaths$Program" "lines" "I") (by decide +kernel)) (fun _ h9 => h9) rfl dX1_hasRoomFor_1 ?_
  refine lv_bipush (v := 40) hx hb dX1_hasRoomFor_4 (by decide) ?_
  refine lv_icmp_lt (tgt := 18) hx hb dX1_hasRoomFor_6 (by decide) (fun hc => ?_) (fun hc => ?_)
  · replace h := h.1 hc
    refine lv_iconst (v := 1) hx hb dX1_hasRoomFor_18 (by decide) ?_
    refine lv_goto (tgt := 23) hx hb dX1_hasRoomFor_19 (by decide) ?_
    refine wz_mono hQz ?_
    exact W.zret (v := 1) hx hb hr rfl (fun t ht hW => ⟨⟨1, (), rfl, h, by rw [ht]; exact hP, va_K.moved hW.alike hK, hD⟩, hS.F ht⟩) hS.2.2 dX1_hasRoomFor_23
  · replace h := h.2 hc
    refine lv_aload_n hx hb dX1_hasRoomFor_9 rfl (lv_at hl 0 rfl) ?_
    refine lv_iload_n hx hb dX1_hasRoomFor_10 rfl (lv_at hl 1 rfl) ?_
    have hF := wz_free hD hS hA
    refine va_calli (va_runV (As := [.int v1]) (rest := []) ⟨hx, hb, hml, hown, hts⟩ (c_X1_slotOf l D a cI cZ cJ _ x_agesStand x_searchStands p_blocks p_lines p_edges p_pairs g_sets g_size g_penalty g_comeCount s_answered s_codes s_ordered p_times p_touchCounts p_touchSlots p_lineOfSlot p_from p_to p_bounds p_pairA p_pairB p_leaving p_firstLeaving g_come g_outcomes g_greatestTimes g_leastTimes g_changed g_greatest g_least g_greatestNow g_leastNow s_order s_arriving s_unit s_flag s_forbidding s_most s_fewest v1 _ h) (cwV 1 hts gX1_hasRoomFor_X1_slotOf rfl rfl rfl (by decide +kernel) ⟨Nat.le_of_ble_eq_true rfl, Nat.le_of_ble_eq_true rfl⟩) ⟨wz_blind, va_recv hK hP (ci := 1) (q0 := 1) rfl rfl, fun U hU hW => wz_at hU hW hP hK hD⟩ rfl rfl hl.1 rfl (lv_room (Nat.le_of_ble_eq_true rfl)) dX1_hasRoomFor_11 ⟨Nat.zero_le _, Nat.zero_le _⟩) hS (fun q _ hq => hF q hq) hF (fun r_11 u t H locs ht hvm h hB hz1 hk1 hS => ?_)
    obtain ⟨hP, -, hD⟩ := wz_back ht hF hB
    have hP : va_P D vwCl (wC a cI cZ cJ x_agesStand x_searchStands p_blocks p_lines p_edges p_pairs g_sets g_size g_penalty g_comeCount s_answered s_codes s_ordered p_times p_touchCounts p_touchSlots p_lineOfSlot p_from p_to p_bounds p_pairA p_pairB p_leaving p_firstLeaving g_come g_outcomes g_greatestTimes g_leastTimes g_changed g_greatest g_least g_greatestNow g_leastNow s_order s_arriving s_unit s_flag s_forbidding s_most s_fewest) H := hP
    have hD : va_D A (wC a cI cZ cJ x_agesStand x_searchStands p_blocks p_lines p_edges p_pairs g_sets g_size g_penalty g_comeCount s_answered s_codes s_ordered p_times p_touchCounts p_touchSlots p_lineOfSlot p_from p_to p_bounds p_pairA p_pairB p_leaving p_firstLeaving g_come g_outcomes g_greatestTimes g_leastTimes g_changed g_greatest g_least g_greatestNow g_leastNow s_order s_arriving s_unit s_flag s_forbidding s_most s_fewest) := hD
    refine lv_iconst (v := (-1)) hx hb dX1_hasRoomFor_14 (by decide) ?_
    refine lv_icmp_eq (tgt := 22) hx hb dX1_hasRoomFor_15 (by decide) (fun hc => ?_) (fun hc => ?_)
    · replace h := h.1 hc
      refine lv_iconst (v := 0) hx hb dX1_hasRoomFor_22 (by decide) ?_
      refine wz_mono hQz ?_
      exact W.zret (v := 0) hx hb hr rfl (fun t ht hW => ⟨⟨0, (), rfl, h, by rw [ht]; exact hP, va_K.moved hW.alike hK, hD⟩, hS.F ht⟩) hS.2.2 dX1_hasRoomFor_23
    · replace h := h.2 hc
      refine lv_iconst (v := 1) hx hb dX1_hasRoomFor_18 (by decide) ?_
      refine lv_goto (tgt := 23) hx hb dX1_hasRoomFor_19 (by decide) ?_
      refine wz_mono hQz ?_
      exact W.zret (v := 1) hx hb hr rfl (fun t ht hW => ⟨⟨1, (), rfl, h, by rw [ht]; exact hP, va_K.moved hW.alike hK, hD⟩, hS.F ht⟩) hS.2.2 dX1_hasRoomFor_23
def wp_X1_addBlock (v1 : Int32) (p_blocks : Int32) (p_times : Nat → Int32) (Q : Int32 → Int32 → (Nat → Int32) → Prop) : Prop := vp_in p_blocks 40 ∧ (Q ((p_blocks + 1) - 1) (p_blocks + 1) (upd p_times (Int32.toNatClampNeg p_blocks) v1))
abbrev rm_X1_addBlock : Room := { frames := 0, cells := 0, slots := 0, locals := 0 }
set_option maxHeartbeats 4000000 in
set_option maxRecDepth 100000 in
theorem c_X1_addBlock (l : Launch) (D : va_G) (a : Nat → Nat) (cI : ClassId) (cZ : ClassId) (cJ : ClassId) (sz : Nat) (x_agesStand : Int32) (x_searchStands : Int32) (p_blocks : Int32) (p_lines : Int32) (p_edges : Int32) (p_pairs : Int32) (g_sets : Int32) (g_size : Int32) (g_penalty : Int32) (g_comeCount : Int32) (s_answered : Int32) (s_codes : Int32) (s_ordered : Int32) (p_times : Nat → Int32) (p_touchCounts : Nat → Int32) (p_touchSlots : Nat → Int32) (p_lineOfSlot : Nat → Int32) (p_from : Nat → Int32) (p_to : Nat → Int32) (p_bounds : Nat → Int32) (p_pairA : Nat → Int32) (p_pairB : Nat → Int32) (p_leaving : Nat → Int32) (p_firstLeaving : Nat → Int32) (g_come : Nat → Int32) (g_outcomes : Nat → Int32) (g_greatestTimes : Nat → Int32) (g_leastTimes : Nat → Int32) (g_changed : Nat → Int32) (g_greatest : Nat → Int32) (g_least : Nat → Int32) (g_greatestNow : Nat → Int32) (g_leastNow : Nat → Int32) (s_order : Nat → Int32) (s_arriving : Nat → Int32) (s_unit : Nat → Int32) (s_flag : Nat → Int32) (s_forbidding : Nat → Int32) (s_most : Nat → Int64) (s_fewest : Nat → Int64) (v1 : Int32) (Q : Int32 → Int32 → (Nat → Int32) → Prop) (h : wp_X1_addBlock v1 p_blocks p_times Q) : Met l yX1_addBlock wsX1_addBlock rm_X1_addBlock (va_Pc [.ref (a 1), .int v1] (inW D cI cZ cJ sz (wC a cI cZ cJ x_agesStand x_searchStands p_blocks p_lines p_edges p_pairs g_sets g_size g_penalty g_comeCount s_answered s_codes s_ordered p_times p_touchCounts p_touchSlots p_lineOfSlot p_from p_to p_bounds p_pairA p_pairB p_leaving p_firstLeaving g_come g_outcomes g_greatestTimes g_leastTimes g_changed g_greatest g_least g_greatestNow g_leastNow s_order s_arriving s_unit s_flag s_forbidding s_most s_fewest))) (va_Qi (fun (r : Int32) (u : Int32 × (Nat → Int32)) => Q r u.1 u.2) (fun (u : Int32 × (Nat → Int32)) => outW D cI cZ cJ (va_A (wC a cI cZ cJ x_agesStand x_searchStands p_blocks p_lines p_edges p_pairs g_sets g_size g_penalty g_comeCount s_answered s_codes s_ordered p_times p_touchCounts p_touchSlots p_lineOfSlot p_from p_to p_bounds p_pairA p_pairB p_leaving p_firstLeaving g_come g_outcomes g_greatestTimes g_leastTimes g_changed g_greatest g_least g_greatestNow g_leastNow s_order s_arriving s_unit s_flag s_forbidding s_most s_fewest) sz) (wC a cI cZ cJ x_agesStand x_searchStands u.1 p_lines p_edges p_pairs g_sets g_size g_penalty g_comeCount s_answered s_codes s_ordered u.2 p_touchCounts p_touchSlots p_lineOfSlot p_from p_to p_bounds p_pairA p_pairB p_leaving p_firstLeaving g_come g_outcomes g_greatestTimes g_leastTimes g_changed g_greatest g_least g_greatestNow g_leastNow s_order s_arriving s_unit s_flag s_forbidding s_most s_fewest)) (va_A (wC a cI cZ cJ x_agesStand x_searchStands p_blocks p_lines p_edges p_pairs g_sets g_size g_penalty g_comeCount s_answered s_codes s_ordered p_times p_touchCounts p_touchSlots p_lineOfSlot p_from p_to p_bounds p_pairA p_pairB p_leaving p_firstLeaving g_come g_outcomes g_greatestTimes g_leastTimes g_changed g_greatest g_least g_greatestNow g_leastNow s_order s_arriving s_unit s_flag s_forbidding s_most s_fewest) sz)) 0 0 (va_A (wC a cI cZ cJ x_agesStand x_searchStands p_blocks p_lines p_edges p_pairs g_sets g_size g_penalty g_comeCount s_answered s_codes s_ordered p_times p_touchCounts p_touchSlots p_lineOfSlot p_from p_to p_bounds p_pairA p_pairB p_leaving p_firstLeaving g_come g_outcomes g_greatestTimes g_leastTimes g_changed g_greatest g_least g_greatestNow g_leastNow s_order s_arriving s_unit s_flag s_forbidding s_most s_fewest) sz) := by
  refine Met.ofW (cc := cX1_addBlock) (maxL := 2) (ret := (some .int)) (by decide +kernel) rfl ?_
  intro p e s m args below meth c s₁ B hml hv
  obtain ⟨rfl, hsz, hP, hK, hD0⟩ := hv
  have hx := B.exec
  have hb := B.bytes
  have hr := B.returns
  have hts := atoms_spec (ws := wsX1_addBlock) B.pre
  have hown : s.vm.findClass RX1 = some m.cls := findClass_of_methodNamed B.named
  have hlocks := B.notSynchronized
  have hinX1 : ∀ w ∈ wsX10, w ∈ wsX1_addBlock := by decide +kernel
  subst hsz
  have hD := hD0.self (sz := s.heap.size)
  generalize hAe : va_A (wC a cI cZ cJ x_agesStand x_searchStands p_blocks p_lines p_edges p_pairs g_sets g_size g_penalty g_comeCount s_answered s_codes s_ordered p_times p_touchCounts p_touchSlots p_lineOfSlot p_from p_to p_bounds p_pairA p_pairB p_leaving p_firstLeaving g_come g_outcomes g_greatestTimes g_leastTimes g_changed g_greatest g_least g_greatestNow g_leastNow s_order s_arriving s_unit s_flag s_forbidding s_most s_fewest) s.heap.size = A at hD ⊢
  have hA : ∀ q : Nat, s.heap.size ≤ q → A q := fun q h => by rw [← hAe]; exact Or.inr h
  have hS : va_S A s.heap s.heap [] := va_S.rf
  have hP : va_P D vwCl (wC a cI cZ cJ x_agesStand x_searchStands p_blocks p_lines p_edges p_pairs g_sets g_size g_penalty g_comeCount s_answered s_codes s_ordered p_times p_touchCounts p_touchSlots p_lineOfSlot p_from p_to p_bounds p_pairA p_pairB p_leaving p_firstLeaving g_come g_outcomes g_greatestTimes g_leastTimes g_changed g_greatest g_least g_greatestNow g_leastNow s_order s_arriving s_unit s_flag s_forbidding s_most s_fewest) s.heap := hP
  have hl := lv_entry ([.ref (a 1), .int v1]) (n := 2) (Nat.le_of_ble_eq_true rfl)
  rw [lg_entry_eq]
  generalize (lg_sl ([.ref (a 1), .int v1]) ++ List.replicate (2 - (lg_sl ([.ref (a 1), .int v1])).length) Slot.unset).toArray = ls at hl ⊢
  have hl : lv_has ls 2 [(0, .ref (a 1)), (1, .int v1)] := hl
  refine wz_abs (fun Qz hQz => ?_)
  unfold wp_X1_addBlock at h
  refine lv_aload_n hx hb dX1_addBlock_0 rfl (lv_at hl 0 rfl) ?_
  refine va_get (D := D) (ci := 1) (v := .ref (a 4)) (C := RX1) (T := TX1) (N := 15) hx hb hts hinX1 hown hK hP 1 rfl rfl 4 (by decide) (hts (.fieldLink RX1 9 "WorstPaths$Program" "times" "[I") (by decide +kernel)) (fun _ h9 => h9) rfl dX1_addBlock_1 ?_
  refine lv_aload_n hx hb dX1_addBlock_4 rfl (lv_at hl 0 rfl) ?_
  refine va_get (D := D) (ci := 1) (v := .int p_blocks) (C := RX1) (T := TX1) (N := 15) hx hb hts hinX1 hown hK hP 1 rfl rfl 0 (by decide) (hts (.fieldLink RX1 45 "WorstPaths$Program" "blocks" "I") (by decide +kernel)) (fun _ h9 => h9) rfl dX1_addBlock_5 ?_
  refine lv_iload_n hx hb dX1_addBlock_8 rfl (lv_at hl 1 rfl) ?_
  obtain ⟨hq, h⟩ := h
  refine va_iast (D := D) hx hb hK hP hD hS 4 0 rfl rfl hq dX1_addBlock_9 (fun H locs hP hD hS => ?_)
  have hP : va_P D vwCl (wC a cI cZ cJ x_agesStand x_searchStands p_blocks p_lines p_edges p_pairs g_sets g_size g_penalty g_comeCount s_answered s_codes s_ordered (upd p_times (Int32.toNatClampNeg p_blocks) v1) p_touchCounts p_touchSlots p_lineOfSlot p_from p_to p_bounds p_pairA p_pairB p_leaving p_firstLeaving g_come g_outcomes g_greatestTimes g_leastTimes g_changed g_greatest g_least g_greatestNow g_leastNow s_order s_arriving s_unit s_flag s_forbidding s_most s_fewest) H := hP
  have hD : va_D A (wC a cI cZ cJ x_agesStand x_searchStands p_blocks p_lines p_edges p_pairs g_sets g_size g_penalty g_comeCount s_answered s_codes s_ordered (upd p_times (Int32.toNatClampNeg p_blocks) v1) p_touchCounts p_touchSlots p_lineOfSlot p_from p_to p_bounds p_pairA p_pairB p_leaving p_firstLeaving g_come g_outcomes g_greatestTimes g_leastTimes g_changed g_greatest g_least g_greatestNow g_leastNow s_order s_arriving s_unit s_flag s_forbidding s_most s_fewest) := hD
  refine lv_aload_n hx hb dX1_addBlock_10 rfl (lv_at hl 0 rfl) ?_
  refine lv_dup hx hb dX1_addBlock_11 rfl ?_
  refine va_get (D := D) (ci := 1) (v := .int p_blocks) (C := RX1) (T := TX1) (N := 15) hx hb hts hinX1 hown hK hP 1 rfl rfl 0 (by decide) (hts (.fieldLink RX1 45 "WorstPaths$Program" "blocks" "I") (by decide +kernel)) (fun _ h9 => h9) rfl dX1_addBlock_12 ?_
  refine lv_iconst (v := 1) hx hb dX1_addBlock_15 (by decide) ?_
  refine lv_iadd hx hb dX1_addBlock_16 ?_
  refine va_put (D := D) (ci := 1) (v := .int (p_blocks + 1)) (ty := .int) (C := RX1) (T := TX1) (N := 15) hx hb hts hinX1 tyX1 tyX1_ok nmX1 hown hK hP hD hS 1 rfl rfl 0 (by decide) (hts (.fieldLink RX1 45 "WorstPaths$Program" "blocks" "I") (by decide +kernel)) (fun _ h9 => h9) rfl (by decide +kernel) rfl rfl (Nat.le_of_ble_eq_true rfl) dX1_addBlock_17 (fun H locs hP hD hS => ?_)
  have hP : va_P D vwCl (wC a cI cZ cJ x_agesStand x_searchStands (p_blocks + 1) p_lines p_edges p_pairs g_sets g_size g_penalty g_comeCount s_answered s_codes s_ordered (upd p_times (Int32.toNatClampNeg p_blocks) v1) p_touchCounts p_touchSlots p_lineOfSlot p_from p_to p_bounds p_pairA p_pairB p_leaving p_firstLeaving g_come g_outcomes g_greatestTimes g_leastTimes g_changed g_greatest g_least g_greatestNow g_leastNow s_order s_arriving s_unit s_flag s_forbidding s_most s_fewest) H := hP
  have hD : va_D A (wC a cI cZ cJ x_agesStand x_searchStands (p_blocks + 1) p_lines p_edges p_pairs g_sets g_size g_penalty g_comeCount s_answered s_codes s_ordered (upd p_times (Int32.toNatClampNeg p_blocks) v1) p_touchCounts p_touchSlots p_lineOfSlot p_from p_to p_bounds p_pairA p_pairB p_leaving p_firstLeaving g_come g_outcomes g_greatestTimes g_leastTimes g_changed g_greatest g_least g_greatestNow g_leastNow s_order s_arriving s_unit s_flag s_forbidding s_most s_fewest) := hD
  refine lv_aload_n hx hb dX1_addBlock_20 rfl (lv_at hl 0 rfl) ?_
  refine va_get (D := D) (ci := 1) (v := .int (p_blocks + 1)) (C := RX1) (T := TX1) (N := 15) hx hb hts hinX1 hown hK hP 1 rfl rfl 0 (by decide) (hts (.fieldLink RX1 45 "WorstPaths$Program" "blocks" "I") (by decide +kernel)) (fun _ h9 => h9) rfl dX1_addBlock_21 ?_
  refine lv_iconst (v := 1) hx hb dX1_addBlock_24 (by decide) ?_
  refine lv_isub hx hb dX1_addBlock_25 ?_
  refine wz_mono hQz ?_
  exact W.iret (v := ((p_blocks + 1) - 1)) hx hb hr (fun t ht hW => ⟨⟨((p_blocks + 1) - 1), ((p_blocks + 1), (upd p_times (Int32.toNatClampNeg p_blocks) v1)), rfl, h, by rw [ht]; exact hP, va_K.moved hW.alike hK, hD⟩, hS.F ht⟩) hS.2.2 dX1_addBlock_26
def jn_X1_addTouch_33 (v1 : Int32) (v3 : Int32) (p_lines : Int32) (p_touchCounts : Nat → Int32) (p_touchSlots : Nat → Int32) (p_lineOfSlot : Nat → Int32) (Q : Int32 → Int32 → (Nat → Int32) → (Nat → Int32) → (Nat → Int32) → Prop) : Prop := vp_in v1 40 ∧ (vp_in ((v1 * 6) + (p_touchCounts (Int32.toNatClampNeg v1))) 240 ∧ (vp_in v1 40 ∧ (vp_in v1 40 ∧ (vp_in v1 40 ∧ (Q ((upd p_touchCounts (Int32.toNatClampNeg v1) ((p_touchCounts (Int32.toNatClampNeg v1)) + 1)) (Int32.toNatClampNeg v1)) p_lines (upd p_touchCounts (Int32.toNatClampNeg v1) ((p_touchCounts (Int32.toNatClampNeg v1)) + 1)) (upd p_touchSlots (Int32.toNatClampNeg ((v1 * 6) + (p_touchCounts (Int32.toNatClampNeg v1)))) v3) p_lineOfSlot)))))
def wp_X1_addTouch (v1 : Int32) (v2 : Int32) (p_lines : Int32) (p_touchCounts : Nat → Int32) (p_touchSlots : Nat → Int32) (p_lineOfSlot : Nat → Int32) (Q : Int32 → Int32 → (Nat → Int32) → (Nat → Int32) → (Nat → Int32) → Prop) : Prop := wp_X1_slotOf v2 p_lines p_lineOfSlot (fun r_2 => (¬ r_2 = (-1) → jn_X1_addTouch_33 v1 r_2 p_lines p_touchCounts p_touchSlots p_lineOfSlot Q) ∧ (r_2 = (-1) → vp_in p_lines 40 ∧ (jn_X1_addTouch_33 v1 p_lines (p_lines + 1) p_touchCounts p_touchSlots (upd p_lineOfSlot (Int32.toNatClampNeg p_lines) v2) Q)))
abbrev rm_X1_addTouch : Room := { frames := 1, cells := 0, slots := 0, locals := 22 }
set_option maxHeartbeats 4000000 in
set_option maxRecDepth 100000 in
theorem c_X1_addTouch (l : Launch) (D : va_G) (a : Nat → Nat) (cI : ClassId) (cZ : ClassId) (cJ : ClassId) (sz : Nat) (x_agesStand : Int32) (x_searchStands : Int32) (p_blocks : Int32) (p_lines : Int32) (p_edges : Int32) (p_pairs : Int32) (g_sets : Int32) (g_size : Int32) (g_penalty : Int32) (g_comeCount : Int32) (s_answered : Int32) (s_codes : Int32) (s_ordered : Int32) (p_times : Nat → Int32) (p_touchCounts : Nat → Int32) (p_touchSlots : Nat → Int32) (p_lineOfSlot : Nat → Int32) (p_from : Nat → Int32) (p_to : Nat → Int32) (p_bounds : Nat → Int32) (p_pairA : Nat → Int32) (p_pairB : Nat → Int32) (p_leaving : Nat → Int32) (p_firstLeaving : Nat → Int32) (g_come : Nat → Int32) (g_outcomes : Nat → Int32) (g_greatestTimes : Nat → Int32) (g_leastTimes : Nat → Int32) (g_changed : Nat → Int32) (g_greatest : Nat → Int32) (g_least : Nat → Int32) (g_greatestNow : Nat → Int32) (g_leastNow : Nat → Int32) (s_order : Nat → Int32) (s_arriving : Nat → Int32) (s_unit : Nat → Int32) (s_flag : Nat → Int32) (s_forbidding : Nat → Int32) (s_most : Nat → Int64) (s_fewest : Nat → Int64) (v1 : Int32) (v2 : Int32) (Q : Int32 → Int32 → (Nat → Int32) → (Nat → Int32) → (Nat → Int32) → Prop) (h : wp_X1_addTouch v1 v2 p_lines p_touchCounts p_touchSlots p_lineOfSlot Q) : Met l yX1_addTouch wsX1_addTouch rm_X1_addTouch (va_Pc [.ref (a 1), .int v1, .int v2] (inW D cI cZ cJ sz (wC a cI cZ cJ x_agesStand x_searchStands p_blocks p_lines p_edges p_pairs g_sets g_size g_penalty g_comeCount s_answered s_codes s_ordered p_times p_touchCounts p_touchSlots p_lineOfSlot p_from p_to p_bounds p_pairA p_pairB p_leaving p_firstLeaving g_come g_outcomes g_greatestTimes g_leastTimes g_changed g_greatest g_least g_greatestNow g_leastNow s_order s_arriving s_unit s_flag s_forbidding s_most s_fewest))) (va_Qi (fun (r : Int32) (u : Int32 × (Nat → Int32) × (Nat → Int32) × (Nat → Int32)) => Q r u.1 u.2.1 u.2.2.1 u.2.2.2) (fun (u : Int32 × (Nat → Int32) × (Nat → Int32) × (Nat → Int32)) => outW D cI cZ cJ (va_A (wC a cI cZ cJ x_agesStand x_searchStands p_blocks p_lines p_edges p_pairs g_sets g_size g_penalty g_comeCount s_answered s_codes s_ordered p_times p_touchCounts p_touchSlots p_lineOfSlot p_from p_to p_bounds p_pairA p_pairB p_leaving p_firstLeaving g_come g_outcomes g_greatestTimes g_leastTimes g_changed g_greatest g_least g_greatestNow g_leastNow s_order s_arriving s_unit s_flag s_forbidding s_most s_fewest) sz) (wC a cI cZ cJ x_agesStand x_searchStands p_blocks u.1 p_edges p_pairs g_sets g_size g_penalty g_comeCount s_answered s_codes s_ordered p_times u.2.1 u.2.2.1 u.2.2.2 p_from p_to p_bounds p_pairA p_pairB p_leaving p_firstLeaving g_come g_outcomes g_greatestTimes g_leastTimes g_changed g_greatest g_least g_greatestNow g_leastNow s_order s_arriving s_unit s_flag s_forbidding s_most s_fewest)) (va_A (wC a cI cZ cJ x_agesStand x_searchStands p_blocks p_lines p_edges p_pairs g_sets g_size g_penalty g_comeCount s_answered s_codes s_ordered p_times p_touchCounts p_touchSlots p_lineOfSlot p_from p_to p_bounds p_pairA p_pairB p_leaving p_firstLeaving g_come g_outcomes g_greatestTimes g_leastTimes g_changed g_greatest g_least g_greatestNow g_leastNow s_order s_arriving s_unit s_flag s_forbidding s_most s_fewest) sz)) 0 0 (va_A (wC a cI cZ cJ x_agesStand x_searchStands p_blocks p_lines p_edges p_pairs g_sets g_size g_penalty g_comeCount s_answered s_codes s_ordered p_times p_touchCounts p_touchSlots p_lineOfSlot p_from p_to p_bounds p_pairA p_pairB p_leaving p_firstLeaving g_come g_outcomes g_greatestTimes g_leastTimes g_changed g_greatest g_least g_greatestNow g_leastNow s_order s_arriving s_unit s_flag s_forbidding s_most s_fewest) sz) := by
  refine Met.ofW (cc := cX1_addTouch) (maxL := 4) (ret := (some .int)) (by decide +kernel) rfl ?_
  intro p e s m args below meth c s₁ B hml hv
  obtain ⟨rfl, hsz, hP, hK, hD0⟩ := hv
  have hx := B.exec
  have hb := B.bytes
  have hr := B.returns
  have hts := atoms_spec (ws := wsX1_addTouch) B.pre
  have hown : s.vm.findClass RX1 = some m.cls := findClass_of_methodNamed B.named
  have hlocks := B.notSynchronized
  have hinX1 : ∀ w ∈ wsX10, w ∈ wsX1_addTouch := by decide +kernel
  subst hsz
  have hD := hD0.self (sz := s.heap.size)
  generalize hAe : va_A (wC a cI cZ cJ x_agesStand x_searchStands p_blocks p_lines p_edges p_pairs g_sets g_size g_penalty g_comeCount s_answered s_codes s_ordered p_times p_touchCounts p_touchSlots p_lineOfSlot p_from p_to p_bounds p_pairA p_pairB p_leaving p_firstLeaving g_come g_outcomes g_greatestTimes g_leastTimes g_changed g_greatest g_least g_greatestNow g_leastNow s_order s_arriving s_unit s_flag s_forbidding s_most s_fewest) s.heap.size = A at hD ⊢
  have hA : ∀ q : Nat, s.heap.size ≤ q → A q := fun q h => by rw [← hAe]; exact Or.inr h
  have hS : va_S A s.heap s.heap [] := va_S.rf
  have hP : va_P D vwCl (wC a cI cZ cJ x_agesStand x_searchStands p_blocks p_lines p_edges p_pairs g_sets g_size g_penalty g_comeCount s_answered s_codes s_ordered p_times p_touchCounts p_touchSlots p_lineOfSlot p_from p_to p_bounds p_pairA p_pairB p_leaving p_firstLeaving g_come g_outcomes g_greatestTimes g_leastTimes g_changed g_greatest g_least g_greatestNow g_leastNow s_order s_arriving s_unit s_flag s_forbidding s_most s_fewest) s.heap := hP
  have hl := lv_entry ([.ref (a 1), .int v1, .int v2]) (n := 4) (Nat.le_of_ble_eq_true rfl)
  rw [lg_entry_eq]
  generalize (lg_sl ([.ref (a 1), .int v1, .int v2]) ++ List.replicate (4 - (lg_sl ([.ref (a 1), .int v1, .int v2])).length) Slot.unset).toArray = ls at hl ⊢
  have hl : lv_has ls 4 [(0, .ref (a 1)), (1, .int v1), (2, .int v2)] := hl
  refine wz_abs (fun Qz hQz => ?_)
  unfold wp_X1_addTouch at h
  refine lv_aload_n hx hb dX1_addTouch_0 rfl (lv_at hl 0 rfl) ?_
  refine lv_iload_n hx hb dX1_addTouch_1 rfl (lv_at hl 2 rfl) ?_
  have hF := wz_free hD hS hA
  refine va_calli (va_runV (As := [.int v2]) (rest := []) ⟨hx, hb, hml, hown, hts⟩ (c_X1_slotOf l D a cI cZ cJ _ x_agesStand x_searchStands p_blocks p_lines p_edges p_pairs g_sets g_size g_penalty g_comeCount s_answered s_codes s_ordered p_times p_touchCounts p_touchSlots p_lineOfSlot p_from p_to p_bounds p_pairA p_pairB p_leaving p_firstLeaving g_come g_outcomes g_greatestTimes g_leastTimes g_changed g_greatest g_least g_greatestNow g_leastNow s_order s_arriving s_unit s_flag s_forbidding s_most s_fewest v2 _ h) (cwV 1 hts gX1_addTouch_X1_slotOf rfl rfl rfl (by decide +kernel) ⟨Nat.le_of_ble_eq_true rfl, Nat.le_of_ble_eq_true rfl⟩) ⟨wz_blind, va_recv hK hP (ci := 1) (q0 := 1) rfl rfl, fun U hU hW => wz_at hU hW hP hK hD⟩ rfl rfl hl.1 rfl (lv_room (Nat.le_of_ble_eq_true rfl)) dX1_addTouch_2 ⟨Nat.zero_le _, Nat.zero_le _⟩) hS (fun q _ hq => hF q hq) hF (fun r_2 u t H locs ht hvm h hB hz1 hk1 hS => ?_)
  obtain ⟨hP, -, hD⟩ := wz_back ht hF hB
  have hP : va_P D vwCl (wC a cI cZ cJ x_agesStand x_searchStands p_blocks p_lines p_edges p_pairs g_sets g_size g_penalty g_comeCount s_answered s_codes s_ordered p_times p_touchCounts p_touchSlots p_lineOfSlot p_from p_to p_bounds p_pairA p_pairB p_leaving p_firstLeaving g_come g_outcomes g_greatestTimes g_leastTimes g_changed g_greatest g_least g_greatestNow g_leastNow s_order s_arriving s_unit s_flag s_forbidding s_most s_fewest) H := hP
  have hD : va_D A (wC a cI cZ cJ x_agesStand x_searchStands p_blocks p_lines p_edges p_pairs g_sets g_size g_penalty g_comeCount s_answered s_codes s_ordered p_times p_touchCounts p_touchSlots p_lineOfSlot p_from p_to p_bounds p_pairA p_pairB p_leaving p_firstLeaving g_come g_outcomes g_greatestTimes g_leastTimes g_changed g_greatest g_least g_greatestNow g_leastNow s_order s_arriving s_unit s_flag s_forbidding s_most s_fewest) := hD
  refine lv_istore_n (lv' := [(3, .int r_2), (0, .ref (a 1)), (1, .int v1), (2, .int v2)]) hx hb dX1_addTouch_5 rfl hl (by decide) rfl (fun ls hl => ?_)
  refine lv_iload_n hx hb dX1_addTouch_6 rfl (lv_at hl 0 rfl) ?_
  refine lv_iconst (v := (-1)) hx hb dX1_addTouch_7 (by decide) ?_
  have JP33 : ∀ (v3_33 : Int32) (p_lines_33 : Int32) (p_lineOfSlot_33 : Nat → Int32), jn_X1_addTouch_33 v1 v3_33 p_lines_33 p_touchCounts p_touchSlots p_lineOfSlot_33 Q → ∀ (H : Heap) (locs : List Loc), va_P D vwCl (wC a cI cZ cJ x_agesStand x_searchStands p_blocks p_lines_33 p_edges p_pairs g_sets g_size g_penalty g_comeCount s_answered s_codes s_ordered p_times p_touchCounts p_touchSlots p_lineOfSlot_33 p_from p_to p_bounds p_pairA p_pairB p_leaving p_firstLeaving g_come g_outcomes g_greatestTimes g_leastTimes g_changed g_greatest g_least g_greatestNow g_leastNow s_order s_arriving s_unit s_flag s_forbidding s_most s_fewest) H → va_D A (wC a cI cZ cJ x_agesStand x_searchStands p_blocks p_lines_33 p_edges p_pairs g_sets g_size g_penalty g_comeCount s_answered s_codes s_ordered p_times p_touchCounts p_touchSlots p_lineOfSlot_33 p_from p_to p_bounds p_pairA p_pairB p_leaving p_firstLeaving g_come g_outcomes g_greatestTimes g_leastTimes g_changed g_greatest g_least g_greatestNow g_leastNow s_order s_arriving s_unit s_flag s_forbidding s_most s_fewest) → va_S A s.heap H locs → ∀ (ls : Array Slot), lv_has ls 4 [(0, .ref (a 1)), (1, .int v1), (3, .int v3_33)] → W p l e (headSpec wsX1_addTouch rm_X1_addTouch).room s m ([Value.ref (a 1), Value.int v1, Value.int v2] : List Value).toArray below meth c H locs 0 0 Qz (F0 m 33 ls []) := by
    intro v3_33 p_lines_33 p_lineOfSlot_33 h H locs hP hD hS ls hl
    unfold jn_X1_addTouch_33 at h
    refine lv_aload_n hx hb dX1_addTouch_33 rfl (lv_at hl 0 rfl) ?_
    refine va_get (D := D) (ci := 1) (v := .ref (a 6)) (C := RX1) (T := TX1) (N := 15) hx hb hts hinX1 hown hK hP 1 rfl rfl 6 (by decide) (hts (.fieldLink RX1 18 "WorstPaths$Program" "touchSlots" "[I") (by decide +kernel)) (fun _ h9 => h9) rfl dX1_addTouch_34 ?_
    refine lv_iload_n hx hb dX1_addTouch_37 rfl (lv_at hl 1 rfl) ?_
    refine lv_bipush (v := 6) hx hb dX1_addTouch_38 (by decide) ?_
    refine lv_imul hx hb dX1_addTouch_40 ?_
    refine lv_aload_n hx hb dX1_addTouch_41 rfl (lv_at hl 0 rfl) ?_
    refine va_get (D := D) (ci := 1) (v := .ref (a 5)) (C := RX1) (T := TX1) (N := 15) hx hb hts hinX1 hown hK hP 1 rfl rfl 5 (by decide) (hts (.fieldLink RX1 15 "WorstPaths$Program" "touchCounts" "[I") (by decide +kernel)) (fun _ h9 => h9) rfl dX1_addTouch_42 ?_
    refine lv_iload_n hx hb dX1_addTouch_45 rfl (lv_at hl 1 rfl) ?_
    obtain ⟨hq, h⟩ := h
    refine va_iald (D := D) hx hb hK hP 5 0 rfl rfl hq dX1_addTouch_46 ?_
    refine lv_iadd hx hb dX1_addTouch_47 ?_
    refine lv_iload_n hx hb dX1_addTouch_48 rfl (lv_at hl 2 rfl) ?_
    obtain ⟨hq, h⟩ := h
    refine va_iast (D := D) hx hb hK hP hD hS 6 0 rfl rfl hq dX1_addTouch_49 (fun H locs hP hD hS => ?_)
    have hP : va_P D vwCl (wC a cI cZ cJ x_agesStand x_searchStands p_blocks p_lines_33 p_edges p_pairs g_sets g_size g_penalty g_comeCount s_answered s_codes s_ordered p_times p_touchCounts (upd p_touchSlots (Int32.toNatClampNeg ((v1 * 6) + (p_touchCounts (Int32.toNatClampNeg v1)))) v3_33) p_lineOfSlot_33 p_from p_to p_bounds p_pairA p_pairB p_leaving p_firstLeaving g_come g_outcomes g_greatestTimes g_leastTimes g_changed g_greatest g_least g_greatestNow g_leastNow s_order s_arriving s_unit s_flag s_forbidding s_most s_fewest) H := hP
    have hD : va_D A (wC a cI cZ cJ x_agesStand x_searchStands p_blocks p_lines_33 p_edges p_pairs g_sets g_size g_penalty g_comeCount s_answered s_codes s_ordered p_times p_touchCounts (upd p_touchSlots (Int32.toNatClampNeg ((v1 * 6) + (p_touchCounts (Int32.toNatClampNeg v1)))) v3_33) p_lineOfSlot_33 p_from p_to p_bounds p_pairA p_pairB p_leaving p_firstLeaving g_come g_outcomes g_greatestTimes g_leastTimes g_changed g_greatest g_least g_greatestNow g_leastNow s_order s_arriving s_unit s_flag s_forbidding s_most s_fewest) := hD
    refine lv_aload_n hx hb dX1_addTouch_50 rfl (lv_at hl 0 rfl) ?_
    refine va_get (D := D) (ci := 1) (v := .ref (a 5)) (C := RX1) (T := TX1) (N := 15) hx hb hts hinX1 hown hK hP 1 rfl rfl 5 (by decide) (hts (.fieldLink RX1 15 "WorstPaths$Program" "touchCounts" "[I") (by decide +kernel)) (fun _ h9 => h9) rfl dX1_addTouch_51 ?_
    refine lv_iload_n hx hb dX1_addTouch_54 rfl (lv_at hl 1 rfl) ?_
    refine lv_dup2_11 hx hb dX1_addTouch_55 rfl rfl ?_
    obtain ⟨hq, h⟩ := h
    refine va_iald (D := D) hx hb hK hP 5 0 rfl rfl hq dX1_addTouch_56 ?_
    refine lv_iconst (v := 1) hx hb dX1_addTouch_57 (by decide) ?_
    refine lv_iadd hx hb dX1_addTouch_58 ?_
    obtain ⟨hq, h⟩ := h
    refine va_iast (D := D) hx hb hK hP hD hS 5 0 rfl rfl hq dX1_addTouch_59 (fun H locs hP hD hS => ?_)
    have hP : va_P D vwCl (wC a cI cZ cJ x_agesStand x_searchStands p_blocks p_lines_33 p_edges p_pairs g_sets g_size g_penalty g_comeCount s_answered s_codes s_ordered p_times (upd p_touchCounts (Int32.toNatClampNeg v1) ((p_touchCounts (Int32.toNatClampNeg v1)) + 1)) (upd p_touchSlots (Int32.toNatClampNeg ((v1 * 6) + (p_touchCounts (Int32.toNatClampNeg v1)))) v3_33) p_lineOfSlot_33 p_from p_to p_bounds p_pairA p_pairB p_leaving p_firstLeaving g_come g_outcomes g_greatestTimes g_leastTimes g_changed g_greatest g_least g_greatestNow g_leastNow s_order s_arriving s_unit s_flag s_forbidding s_most s_fewest) H := hP
    have hD : va_D A (wC a cI cZ cJ x_agesStand x_searchStands p_blocks p_lines_33 p_edges p_pairs g_sets g_size g_penalty g_comeCount s_answered s_codes s_ordered p_times (upd p_touchCounts (Int32.toNatClampNeg v1) ((p_touchCounts (Int32.toNatClampNeg v1)) + 1)) (upd p_touchSlots (Int32.toNatClampNeg ((v1 * 6) + (p_touchCounts (Int32.toNatClampNeg v1)))) v3_33) p_lineOfSlot_33 p_from p_to p_bounds p_pairA p_pairB p_leaving p_firstLeaving g_come g_outcomes g_greatestTimes g_leastTimes g_changed g_greatest g_least g_greatestNow g_leastNow s_order s_arriving s_unit s_flag s_forbidding s_most s_fewest) := hD
    refine lv_aload_n hx hb dX1_addTouch_60 rfl (lv_at hl 0 rfl) ?_
    refine va_get (D := D) (ci := 1) (v := .ref (a 5)) (C := RX1) (T := TX1) (N := 15) hx hb hts hinX1 hown hK hP 1 rfl rfl 5 (by decide) (hts (.fieldLink RX1 15 "WorstPaths$Program" "touchCounts" "[I") (by decide +kernel)) (fun _ h9 => h9) rfl dX1_addTouch_61 ?_
    refine lv_iload_n hx hb dX1_addTouch_64 rfl (lv_at hl 1 rfl) ?_
    obtain ⟨hq, h⟩ := h
    refine va_iald (D := D) hx hb hK hP 5 0 rfl rfl hq dX1_addTouch_65 ?_
    refine wz_mono hQz ?_
    exact W.iret (v := ((upd p_touchCounts (Int32.toNatClampNeg v1) ((p_touchCounts (Int32.toNatClampNeg v1)) + 1)) (Int32.toNatClampNeg v1))) hx hb hr (fun t ht hW => ⟨⟨((upd p_touchCounts (Int32.toNatClampNeg v1) ((p_touchCounts (Int32.toNatClampNeg v1)) + 1)) (Int32.toNatClampNeg v1)), (p_lines_33, (upd p_touchCounts (Int32.toNatClampNeg v1) ((p_touchCounts (Int32.toNatClampNeg v1)) + 1)), (upd p_touchSlots (Int32.toNatClampNeg ((v1 * 6) + (p_touchCounts (Int32.toNatClampNeg v1)))) v3_33), p_lineOfSlot_33), rfl, h, by rw [ht]; exact hP, va_K.moved hW.alike hK, hD⟩, hS.F ht⟩) hS.2.2 dX1_addTouch_66
  refine lv_icmp_ne (tgt := 33) hx hb dX1_addTouch_8 (by decide) (fun hc => ?_) (fun hc => ?_)
  · replace h := h.1 hc
    exact JP33 r_2 p_lines p_lineOfSlot h _ _ hP hD hS _ (lv_sub hl [1, 2, 0] rfl)
  · replace h := h.2 hc
    refine lv_aload_n hx hb dX1_addTouch_11 rfl (lv_at hl 1 rfl) ?_
    refine va_get (D := D) (ci := 1) (v := .int p_lines) (C := RX1) (T := TX1) (N := 15) hx hb hts hinX1 hown hK hP 1 rfl rfl 1 (by decide) (hts (.fieldLink RX1 52 "WorstPaths$Program" "lines" "I") (by decide +kernel)) (fun _ h9 => h9) rfl dX1_addTouch_12 ?_
    refine lv_istore_n (lv' := [(3, .int p_lines), (0, .ref (a 1)), (1, .int v1), (2, .int v2)]) hx hb dX1_addTouch_15 rfl hl (by decide) rfl (fun ls hl => ?_)
    refine lv_aload_n hx hb dX1_addTouch_16 rfl (lv_at hl 1 rfl) ?_
    refine va_get (D := D) (ci := 1) (v := .ref (a 7)) (C := RX1) (T := TX1) (N := 15) hx hb hts hinX1 hown hK hP 1 rfl rfl 7 (by decide) (hts (.fieldLink RX1 21 "WorstPaths$Program" "lineOfSlot" "[I") (by decide +kernel)) (fun _ h9 => h9) rfl dX1_addTouch_17 ?_
    refine lv_iload_n hx hb dX1_addTouch_20 rfl (lv_at hl 0 rfl) ?_
    refine lv_iload_n hx hb dX1_addTouch_21 rfl (lv_at hl 3 rfl) ?_
    obtain ⟨hq, h⟩ := h
    refine va_iast (D := D) hx hb hK hP hD hS 7 0 rfl rfl hq dX1_addTouch_22 (fun H locs hP hD hS => ?_)
    have hP : va_P D vwCl (wC a cI cZ cJ x_agesStand x_searchStands p_blocks p_lines p_edges p_pairs g_sets g_size g_penalty g_comeCount s_answered s_codes s_ordered p_times p_touchCounts p_touchSlots (upd p_lineOfSlot (Int32.toNatClampNeg p_lines) v2) p_from p_to p_bounds p_pairA p_pairB p_leaving p_firstLeaving g_come g_outcomes g_greatestTimes g_leastTimes g_changed g_greatest g_least g_greatestNow g_leastNow s_order s_arriving s_unit s_flag s_forbidding s_most s_fewest) H := hP
    have hD : va_D A (wC a cI cZ cJ x_agesStand x_searchStands p_blocks p_lines p_edges p_pairs g_sets g_size g_penalty g_comeCount s_answered s_codes s_ordered p_times p_touchCounts p_touchSlots (upd p_lineOfSlot (Int32.toNatClampNeg p_lines) v2) p_from p_to p_bounds p_pairA p_pairB p_leaving p_firstLeaving g_come g_outcomes g_greatestTimes g_leastTimes g_changed g_greatest g_least g_greatestNow g_leastNow s_order s_arriving s_unit s_flag s_forbidding s_most s_fewest) := hD
    refine lv_aload_n hx hb dX1_addTouch_23 rfl (lv_at hl 1 rfl) ?_
    refine lv_dup hx hb dX1_addTouch_24 rfl ?_
    refine va_get (D := D) (ci := 1) (v := .int p_lines) (C := RX1) (T := TX1) (N := 15) hx hb hts hinX1 hown hK hP 1 rfl rfl 1 (by decide) (hts (.fieldLink RX1 52 "WorstPaths$Program" "lines" "I") (by decide +kernel)) (fun _ h9 => h9) rfl dX1_addTouch_25 ?_
    refine lv_iconst (v := 1) hx hb dX1_addTouch_28 (by decide) ?_
    refine lv_iadd hx hb dX1_addTouch_29 ?_
    refine va_put (D := D) (ci := 1) (v := .int (p_lines + 1)) (ty := .int) (C := RX1) (T := TX1) (N := 15) hx hb hts hinX1 tyX1 tyX1_ok nmX1 hown hK hP hD hS 1 rfl rfl 1 (by decide) (hts (.fieldLink RX1 52 "WorstPaths$Program" "lines" "I") (by decide +kernel)) (fun _ h9 => h9) rfl (by decide +kernel) rfl rfl (Nat.le_of_ble_eq_true rfl) dX1_addTouch_30 (fun H locs hP hD hS => ?_)
    have hP : va_P D vwCl (wC a cI cZ cJ x_agesStand x_searchStands p_blocks (p_lines + 1) p_edges p_pairs g_sets g_size g_penalty g_comeCount s_answered s_codes s_ordered p_times p_touchCounts p_touchSlots (upd p_lineOfSlot (Int32.toNatClampNeg p_lines) v2) p_from p_to p_bounds p_pairA p_pairB p_leaving p_firstLeaving g_come g_outcomes g_greatestTimes g_leastTimes g_changed g_greatest g_least g_greatestNow g_leastNow s_order s_arriving s_unit s_flag s_forbidding s_most s_fewest) H := hP
    have hD : va_D A (wC a cI cZ cJ x_agesStand x_searchStands p_blocks (p_lines + 1) p_edges p_pairs g_sets g_size g_penalty g_comeCount s_answered s_codes s_ordered p_times p_touchCounts p_touchSlots (upd p_lineOfSlot (Int32.toNatClampNeg p_lines) v2) p_from p_to p_bounds p_pairA p_pairB p_leaving p_firstLeaving g_come g_outcomes g_greatestTimes g_leastTimes g_changed g_greatest g_least g_greatestNow g_leastNow s_order s_arriving s_unit s_flag s_forbidding s_most s_fewest) := hD
    exact JP33 p_lines (p_lines + 1) (upd p_lineOfSlot (Int32.toNatClampNeg p_lines) v2) h _ _ hP hD hS _ (lv_sub hl [1, 2, 0] rfl)
def lp_X1_addEdge_81 (v3 : Int32) (p_edges : Int32) (p_from : Nat → Int32) (p_to : Nat → Int32) (p_bounds : Nat → Int32) (p_leaving : Nat → Int32) (Q : Int32 → Int32 → (Nat → Int32) → (Nat → Int32) → (Nat → Int32) → (Nat → Int32) → (Nat → Int32) → Prop) : Nat → Int32 → (Nat → Int32) → Prop
  | 0, _, _ => False
  | n + 1, v5, p_firstLeaving => (40 < v5 → Q v3 (p_edges + 1) p_from p_to p_bounds p_leaving p_firstLeaving) ∧ (¬ 40 < v5 → vp_in v5 41 ∧ (vp_in v5 41 ∧ ((lp_X1_addEdge_81 v3 p_edges p_from p_to p_bounds p_leaving Q n) (v5 + 1) (upd p_firstLeaving (Int32.toNatClampNeg v5) ((p_firstLeaving (Int32.toNatClampNeg v5)) + 1)))))
def lp_X1_addEdge_39 (v1 : Int32) (v3 : Int32) (v4 : Int32) (p_edges : Int32) (p_from : Nat → Int32) (p_to : Nat → Int32) (p_bounds : Nat → Int32) (p_firstLeaving : Nat → Int32) (Q : Int32 → Int32 → (Nat → Int32) → (Nat → Int32) → (Nat → Int32) → (Nat → Int32) → (Nat → Int32) → Prop) : Nat → Int32 → (Nat → Int32) → Prop
  | 0, _, _ => False
  | n + 1, v5, p_leaving => (v5 ≤ v4 → vp_in v4 80 ∧ (∃ k81, lp_X1_addEdge_81 v3 p_edges p_from p_to p_bounds (upd p_leaving (Int32.toNatClampNeg v4) v3) Q k81 (v1 + 1) p_firstLeaving)) ∧ (¬ v5 ≤ v4 → vp_in (v5 - 1) 80 ∧ (vp_in v5 80 ∧ ((lp_X1_addEdge_39 v1 v3 v4 p_edges p_from p_to p_bounds p_firstLeaving Q n) (v5 + (-1)) (upd p_leaving (Int32.toNatClampNeg v5) (p_leaving (Int32.toNatClampNeg (v5 - 1)))))))
def wp_X1_addEdge (v1 : Int32) (v2 : Int32) (p_edges : Int32) (p_from : Nat → Int32) (p_to : Nat → Int32) (p_bounds : Nat → Int32) (p_leaving : Nat → Int32) (p_firstLeaving : Nat → Int32) (Q : Int32 → Int32 → (Nat → Int32) → (Nat → Int32) → (Nat → Int32) → (Nat → Int32) → (Nat → Int32) → Prop) : Prop := vp_in p_edges 80 ∧ (vp_in p_edges 80 ∧ (vp_in p_edges 80 ∧ (vp_in (v1 + 1) 41 ∧ (∃ k39, lp_X1_addEdge_39 v1 p_edges (p_firstLeaving (Int32.toNatClampNeg (v1 + 1))) p_edges (upd p_from (Int32.toNatClampNeg p_edges) v1) (upd p_to (Int32.toNatClampNeg p_edges) v2) (upd p_bounds (Int32.toNatClampNeg p_edges) (-1)) p_firstLeaving Q k39 p_edges p_leaving))))
abbrev rm_X1_addEdge : Room := { frames := 0, cells := 0, slots := 0, locals := 0 }
set_option maxHeartbeats 4000000 in
set_option maxRecDepth 100000 in
theorem c_X1_addEdge (l : Launch) (D : va_G) (a : Nat → Nat) (cI : ClassId) (cZ : ClassId) (cJ : ClassId) (sz : Nat) (x_agesStand : Int32) (x_searchStands : Int32) (p_blocks : Int32) (p_lines : Int32) (p_edges : Int32) (p_pairs : Int32) (g_sets : Int32) (g_size : Int32) (g_penalty : Int32) (g_comeCount : Int32) (s_answered : Int32) (s_codes : Int32) (s_ordered : Int32) (p_times : Nat → Int32) (p_touchCounts : Nat → Int32) (p_touchSlots : Nat → Int32) (p_lineOfSlot : Nat → Int32) (p_from : Nat → Int32) (p_to : Nat → Int32) (p_bounds : Nat → Int32) (p_pairA : Nat → Int32) (p_pairB : Nat → Int32) (p_leaving : Nat → Int32) (p_firstLeaving : Nat → Int32) (g_come : Nat → Int32) (g_outcomes : Nat → Int32) (g_greatestTimes : Nat → Int32) (g_leastTimes : Nat → Int32) (g_changed : Nat → Int32) (g_greatest : Nat → Int32) (g_least : Nat → Int32) (g_greatestNow : Nat → Int32) (g_leastNow : Nat → Int32) (s_order : Nat → Int32) (s_arriving : Nat → Int32) (s_unit : Nat → Int32) (s_flag : Nat → Int32) (s_forbidding : Nat → Int32) (s_most : Nat → Int64) (s_fewest : Nat → Int64) (v1 : Int32) (v2 : Int32) (Q : Int32 → Int32 → (Nat → Int32) → (Nat → Int32) → (Nat → Int32) → (Nat → Int32) → (Nat → Int32) → Prop) (h : wp_X1_addEdge v1 v2 p_edges p_from p_to p_bounds p_leaving p_firstLeaving Q) : Met l yX1_addEdge wsX1_addEdge rm_X1_addEdge (va_Pc [.ref (a 1), .int v1, .int v2] (inW D cI cZ cJ sz (wC a cI cZ cJ x_agesStand x_searchStands p_blocks p_lines p_edges p_pairs g_sets g_size g_penalty g_comeCount s_answered s_codes s_ordered p_times p_touchCounts p_touchSlots p_lineOfSlot p_from p_to p_bounds p_pairA p_pairB p_leaving p_firstLeaving g_come g_outcomes g_greatestTimes g_leastTimes g_changed g_greatest g_least g_greatestNow g_leastNow s_order s_arriving s_unit s_flag s_forbidding s_most s_fewest))) (va_Qi (fun (r : Int32) (u : Int32 × (Nat → Int32) × (Nat → Int32) × (Nat → Int32) × (Nat → Int32) × (Nat → Int32)) => Q r u.1 u.2.1 u.2.2.1 u.2.2.2.1 u.2.2.2.2.1 u.2.2.2.2.2) (fun (u : Int32 × (Nat → Int32) × (Nat → Int32) × (Nat → Int32) × (Nat → Int32) × (Nat → Int32)) => outW D cI cZ cJ (va_A (wC a cI cZ cJ x_agesStand x_searchStands p_blocks p_lines p_edges p_pairs g_sets g_size g_penalty g_comeCount s_answered s_codes s_ordered p_times p_touchCounts p_touchSlots p_lineOfSlot p_from p_to p_bounds p_pairA p_pairB p_leaving p_firstLeaving g_come g_outcomes g_greatestTimes g_leastTimes g_changed g_greatest g_least g_greatestNow g_leastNow s_order s_arriving s_unit s_flag s_forbidding s_most s_fewest) sz) (wC a cI cZ cJ x_agesStand x_searchStands p_blocks p_lines u.1 p_pairs g_sets g_size g_penalty g_comeCount s_answered s_codes s_ordered p_times p_touchCounts p_touchSlots p_lineOfSlot u.2.1 u.2.2.1 u.2.2.2.1 p_pairA p_pairB u.2.2.2.2.1 u.2.2.2.2.2 g_come g_outcomes g_greatestTimes g_leastTimes g_changed g_greatest g_least g_greatestNow g_leastNow s_order s_arriving s_unit s_flag s_forbidding s_most s_fewest)) (va_A (wC a cI cZ cJ x_agesStand x_searchStands p_blocks p_lines p_edges p_pairs g_sets g_size g_penalty g_comeCount s_answered s_codes s_ordered p_times p_touchCounts p_touchSlots p_lineOfSlot p_from p_to p_bounds p_pairA p_pairB p_leaving p_firstLeaving g_come g_outcomes g_greatestTimes g_leastTimes g_changed g_greatest g_least g_greatestNow g_leastNow s_order s_arriving s_unit s_flag s_forbidding s_most s_fewest) sz)) 0 0 (va_A (wC a cI cZ cJ x_agesStand x_searchStands p_blocks p_lines p_edges p_pairs g_sets g_size g_penalty g_comeCount s_answered s_codes s_ordered p_times p_touchCounts p_touchSlots p_lineOfSlot p_from p_to p_bounds p_pairA p_pairB p_leaving p_firstLeaving g_come g_outcomes g_greatestTimes g_leastTimes g_changed g_greatest g_least g_greatestNow g_leastNow s_order s_arriving s_unit s_flag s_forbidding s_most s_fewest) sz) := by
  refine Met.ofW (cc := cX1_addEdge) (maxL := 6) (ret := (some .int)) (by decide +kernel) rfl ?_
  intro p e s m args below meth c s₁ B hml hv
  obtain ⟨rfl, hsz, hP, hK, hD0⟩ := hv
  have hx := B.exec
  have hb := B.bytes
  have hr := B.returns
  have hts := atoms_spec (ws := wsX1_addEdge) B.pre
  have hown : s.vm.findClass RX1 = some m.cls := findClass_of_methodNamed B.named
  have hlocks := B.notSynchronized
  have hinX1 : ∀ w ∈ wsX10, w ∈ wsX1_addEdge := by decide +kernel
  subst hsz
  have hD := hD0.self (sz := s.heap.size)
  generalize hAe : va_A (wC a cI cZ cJ x_agesStand x_searchStands p_blocks p_lines p_edges p_pairs g_sets g_size g_penalty g_comeCount s_answered s_codes s_ordered p_times p_touchCounts p_touchSlots p_lineOfSlot p_from p_to p_bounds p_pairA p_pairB p_leaving p_firstLeaving g_come g_outcomes g_greatestTimes g_leastTimes g_changed g_greatest g_least g_greatestNow g_leastNow s_order s_arriving s_unit s_flag s_forbidding s_most s_fewest) s.heap.size = A at hD ⊢
  have hA : ∀ q : Nat, s.heap.size ≤ q → A q := fun q h => by rw [← hAe]; exact Or.inr h
  have hS : va_S A s.heap s.heap [] := va_S.rf
  have hP : va_P D vwCl (wC a cI cZ cJ x_agesStand x_searchStands p_blocks p_lines p_edges p_pairs g_sets g_size g_penalty g_comeCount s_answered s_codes s_ordered p_times p_touchCounts p_touchSlots p_lineOfSlot p_from p_to p_bounds p_pairA p_pairB p_leaving p_firstLeaving g_come g_outcomes g_greatestTimes g_leastTimes g_changed g_greatest g_least g_greatestNow g_leastNow s_order s_arriving s_unit s_flag s_forbidding s_most s_fewest) s.heap := hP
  have hl := lv_entry ([.ref (a 1), .int v1, .int v2]) (n := 6) (Nat.le_of_ble_eq_true rfl)
  rw [lg_entry_eq]
  generalize (lg_sl ([.ref (a 1), .int v1, .int v2]) ++ List.replicate (6 - (lg_sl ([.ref (a 1), .int v1, .int v2])).length) Slot.unset).toArray = ls at hl ⊢
  have hl : lv_has ls 6 [(0, .ref (a 1)), (1, .int v1), (2, .int v2)] := hl
  refine wz_abs (fun Qz hQz => ?_)
  unfold wp_X1_addEdge at h
  refine lv_aload_n hx hb dX1_addEdge_0 rfl (lv_at hl 0 rfl) ?_
  refine va_get (D := D) (ci := 1) (v := .int p_edges) (C := RX1) (T := TX1) (N := 15) hx hb hts hinX1 hown hK hP 1 rfl rfl 2 (by decide) (hts (.fieldLink RX1 49 "WorstPaths$Program" "edges" "I") (by decide +kernel)) (fun _ h9 => h9) rfl dX1_addEdge_1 ?_
  refine lv_istore_n (lv' := [(3, .int p_edges), (0, .ref (a 1)), (1, .int v1), (2, .int v2)]) hx hb dX1_addEdge_4 rfl hl (by decide) rfl (fun ls hl => ?_)
  refine lv_aload_n hx hb dX1_addEdge_5 rfl (lv_at hl 1 rfl) ?_
  refine va_get (D := D) (ci := 1) (v := .ref (a 8)) (C := RX1) (T := TX1) (N := 15) hx hb hts hinX1 hown hK hP 1 rfl rfl 8 (by decide) (hts (.fieldLink RX1 24 "WorstPaths$Program" "from" "[I") (by decide +kernel)) (fun _ h9 => h9) rfl dX1_addEdge_6 ?_
  refine lv_iload_n hx hb dX1_addEdge_9 rfl (lv_at hl 0 rfl) ?_
  refine lv_iload_n hx hb dX1_addEdge_10 rfl (lv_at hl 2 rfl) ?_
  obtain ⟨hq, h⟩ := h
  refine va_iast (D := D) hx hb hK hP hD hS 8 0 rfl rfl hq dX1_addEdge_11 (fun H locs hP hD hS => ?_)
  have hP : va_P D vwCl (wC a cI cZ cJ x_agesStand x_searchStands p_blocks p_lines p_edges p_pairs g_sets g_size g_penalty g_comeCount s_answered s_codes s_ordered p_times p_touchCounts p_touchSlots p_lineOfSlot (upd p_from (Int32.toNatClampNeg p_edges) v1) p_to p_bounds p_pairA p_pairB p_leaving p_firstLeaving g_come g_outcomes g_greatestTimes g_leastTimes g_changed g_greatest g_least g_greatestNow g_leastNow s_order s_arriving s_unit s_flag s_forbidding s_most s_fewest) H := hP
  have hD : va_D A (wC a cI cZ cJ x_agesStand x_searchStands p_blocks p_lines p_edges p_pairs g_sets g_size g_penalty g_comeCount s_answered s_codes s_ordered p_times p_touchCounts p_touchSlots p_lineOfSlot (upd p_from (Int32.toNatClampNeg p_edges) v1) p_to p_bounds p_pairA p_pairB p_leaving p_firstLeaving g_come g_outcomes g_greatestTimes g_leastTimes g_changed g_greatest g_least g_greatestNow g_leastNow s_order s_arriving s_unit s_flag s_forbidding s_most s_fewest) := hD
  refine lv_aload_n hx hb dX1_addEdge_12 rfl (lv_at hl 1 rfl) ?_
  refine va_get (D := D) (ci := 1) (v := .ref (a 9)) (C := RX1) (T := TX1) (N := 15) hx hb hts hinX1 hown hK hP 1 rfl rfl 9 (by decide) (hts (.fieldLink RX1 27 "WorstPaths$Program" "to" "[I") (by decide +kernel)) (fun _ h9 => h9) rfl dX1_addEdge_13 ?_
  refine lv_iload_n hx hb dX1_addEdge_16 rfl (lv_at hl 0 rfl) ?_
  refine lv_iload_n hx hb dX1_addEdge_17 rfl (lv_at hl 3 rfl) ?_
  obtain ⟨hq, h⟩ := h
  refine va_iast (D := D) hx hb hK hP hD hS 9 0 rfl rfl hq dX1_addEdge_18 (fun H locs hP hD hS => ?_)
  have hP : va_P D vwCl (wC a cI cZ cJ x_agesStand x_searchStands p_blocks p_lines p_edges p_pairs g_sets g_size g_penalty g_comeCount s_answered s_codes s_ordered p_times p_touchCounts p_touchSlots p_lineOfSlot (upd p_from (Int32.toNatClampNeg p_edges) v1) (upd p_to (Int32.toNatClampNeg p_edges) v2) p_bounds p_pairA p_pairB p_leaving p_firstLeaving g_come g_outcomes g_greatestTimes g_leastTimes g_changed g_greatest g_least g_greatestNow g_leastNow s_order s_arriving s_unit s_flag s_forbidding s_most s_fewest) H := hP
  have hD : va_D A (wC a cI cZ cJ x_agesStand x_searchStands p_blocks p_lines p_edges p_pairs g_sets g_size g_penalty g_comeCount s_answered s_codes s_ordered p_times p_touchCounts p_touchSlots p_lineOfSlot (upd p_from (Int32.toNatClampNeg p_edges) v1) (upd p_to (Int32.toNatClampNeg p_edges) v2) p_bounds p_pairA p_pairB p_leaving p_firstLeaving g_come g_outcomes g_greatestTimes g_leastTimes g_changed g_greatest g_least g_greatestNow g_leastNow s_order s_arriving s_unit s_flag s_forbidding s_most s_fewest) := hD
  refine lv_aload_n hx hb dX1_addEdge_19 rfl (lv_at hl 1 rfl) ?_
  refine va_get (D := D) (ci := 1) (v := .ref (a 10)) (C := RX1) (T := TX1) (N := 15) hx hb hts hinX1 hown hK hP 1 rfl rfl 10 (by decide) (hts (.fieldLink RX1 30 "WorstPaths$Program" "bounds" "[I") (by decide +kernel)) (fun _ h9 => h9) rfl dX1_addEdge_20 ?_
  refine lv_iload_n hx hb dX1_addEdge_23 rfl (lv_at hl 0 rfl) ?_
  refine lv_iconst (v := (-1)) hx hb dX1_addEdge_24 (by decide) ?_
  obtain ⟨hq, h⟩ := h
  refine va_iast (D := D) hx hb hK hP hD hS 10 0 rfl rfl hq dX1_addEdge_25 (fun H locs hP hD hS => ?_)
  have hP : va_P D vwCl (wC a cI cZ cJ x_agesStand x_searchStands p_blocks p_lines p_edges p_pairs g_sets g_size g_penalty g_comeCount s_answered s_codes s_ordered p_times p_touchCounts p_touchSlots p_lineOfSlot (upd p_from (Int32.toNatClampNeg p_edges) v1) (upd p_to (Int32.toNatClampNeg p_edges) v2) (upd p_bounds (Int32.toNatClampNeg p_edges) (-1)) p_pairA p_pairB p_leaving p_firstLeaving g_come g_outcomes g_greatestTimes g_leastTimes g_changed g_greatest g_least g_greatestNow g_leastNow s_order s_arriving s_unit s_flag s_forbidding s_most s_fewest) H := hP
  have hD : va_D A (wC a cI cZ cJ x_agesStand x_searchStands p_blocks p_lines p_edges p_pairs g_sets g_size g_penalty g_comeCount s_answered s_codes s_ordered p_times p_touchCounts p_touchSlots p_lineOfSlot (upd p_from (Int32.toNatClampNeg p_edges) v1) (upd p_to (Int32.toNatClampNeg p_edges) v2) (upd p_bounds (Int32.toNatClampNeg p_edges) (-1)) p_pairA p_pairB p_leaving p_firstLeaving g_come g_outcomes g_greatestTimes g_leastTimes g_changed g_greatest g_least g_greatestNow g_leastNow s_order s_arriving s_unit s_flag s_forbidding s_most s_fewest) := hD
  refine lv_aload_n hx hb dX1_addEdge_26 rfl (lv_at hl 1 rfl) ?_
  refine va_get (D := D) (ci := 1) (v := .ref (a 14)) (C := RX1) (T := TX1) (N := 15) hx hb hts hinX1 hown hK hP 1 rfl rfl 14 (by decide) (hts (.fieldLink RX1 42 "WorstPaths$Program" "firstLeaving" "[I") (by decide +kernel)) (fun _ h9 => h9) rfl dX1_addEdge_27 ?_
  refine lv_iload_n hx hb dX1_addEdge_30 rfl (lv_at hl 2 rfl) ?_
  refine lv_iconst (v := 1) hx hb dX1_addEdge_31 (by decide) ?_
  refine lv_iadd hx hb dX1_addEdge_32 ?_
  obtain ⟨hq, h⟩ := h
  refine va_iald (D := D) hx hb hK hP 14 0 rfl rfl hq dX1_addEdge_33 ?_
  refine lv_istore (lv' := [(4, .int (p_firstLeaving (Int32.toNatClampNeg (v1 + 1)))), (3, .int p_edges), (0, .ref (a 1)), (1, .int v1), (2, .int v2)]) hx hb dX1_addEdge_34 hl (by decide) rfl (fun ls hl => ?_)
  refine lv_iload_n hx hb dX1_addEdge_36 rfl (lv_at hl 1 rfl) ?_
  refine lv_istore (lv' := [(5, .int p_edges), (4, .int (p_firstLeaving (Int32.toNatClampNeg (v1 + 1)))), (3, .int p_edges), (0, .ref (a 1)), (1, .int v1), (2, .int v2)]) hx hb dX1_addEdge_37 hl (by decide) rfl (fun ls hl => ?_)
  have LP39 : ∀ (n39 : Nat) (v5_39 : Int32) (p_leaving_39 : Nat → Int32), lp_X1_addEdge_39 v1 p_edges (p_firstLeaving (Int32.toNatClampNeg (v1 + 1))) p_edges (upd p_from (Int32.toNatClampNeg p_edges) v1) (upd p_to (Int32.toNatClampNeg p_edges) v2) (upd p_bounds (Int32.toNatClampNeg p_edges) (-1)) p_firstLeaving Q n39 v5_39 p_leaving_39 → ∀ (H : Heap) (locs : List Loc), va_P D vwCl (wC a cI cZ cJ x_agesStand x_searchStands p_blocks p_lines p_edges p_pairs g_sets g_size g_penalty g_comeCount s_answered s_codes s_ordered p_times p_touchCounts p_touchSlots p_lineOfSlot (upd p_from (Int32.toNatClampNeg p_edges) v1) (upd p_to (Int32.toNatClampNeg p_edges) v2) (upd p_bounds (Int32.toNatClampNeg p_edges) (-1)) p_pairA p_pairB p_leaving_39 p_firstLeaving g_come g_outcomes g_greatestTimes g_leastTimes g_changed g_greatest g_least g_greatestNow g_leastNow s_order s_arriving s_unit s_flag s_forbidding s_most s_fewest) H → va_D A (wC a cI cZ cJ x_agesStand x_searchStands p_blocks p_lines p_edges p_pairs g_sets g_size g_penalty g_comeCount s_answered s_codes s_ordered p_times p_touchCounts p_touchSlots p_lineOfSlot (upd p_from (Int32.toNatClampNeg p_edges) v1) (upd p_to (Int32.toNatClampNeg p_edges) v2) (upd p_bounds (Int32.toNatClampNeg p_edges) (-1)) p_pairA p_pairB p_leaving_39 p_firstLeaving g_come g_outcomes g_greatestTimes g_leastTimes g_changed g_greatest g_least g_greatestNow g_leastNow s_order s_arriving s_unit s_flag s_forbidding s_most s_fewest) → va_S A s.heap H locs → ∀ (ls : Array Slot), lv_has ls 6 [(0, .ref (a 1)), (1, .int v1), (3, .int p_edges), (4, .int (p_firstLeaving (Int32.toNatClampNeg (v1 + 1)))), (5, .int v5_39)] → W p l e (headSpec wsX1_addEdge rm_X1_addEdge).room s m ([Value.ref (a 1), Value.int v1, Value.int v2] : List Value).toArray below meth c H locs 0 0 Qz (F0 m 39 ls []) := by
    intro n39
    induction n39 with
    | zero => intro v5_39 p_leaving_39 h; exact h.elim
    | succ n39 ih39 =>
      intro v5_39 p_leaving_39 h H locs hP hD hS ls hl
      unfold lp_X1_addEdge_39 at h
      refine lv_iload hx hb dX1_addEdge_39 (lv_at hl 4 rfl) ?_
      refine lv_iload hx hb dX1_addEdge_41 (lv_at hl 3 rfl) ?_
      refine lv_icmp_le (tgt := 68) hx hb dX1_addEdge_43 (by decide) (fun hc => ?_) (fun hc => ?_)
      · replace h := h.1 hc
        refine lv_aload_n hx hb dX1_addEdge_68 rfl (lv_at hl 0 rfl) ?_
        refine va_get (D := D) (ci := 1) (v := .ref (a 13)) (C := RX1) (T := TX1) (N := 15) hx hb hts hinX1 hown hK hP 1 rfl rfl 13 (by decide) (hts (.fieldLink RX1 39 "WorstPaths$Program" "leaving" "[I") (by decide +kernel)) (fun _ h9 => h9) rfl dX1_addEdge_69 ?_
        refine lv_iload hx hb dX1_addEdge_72 (lv_at hl 3 rfl) ?_
        refine lv_iload_n hx hb dX1_addEdge_74 rfl (lv_at hl 2 rfl) ?_
        obtain ⟨hq, h⟩ := h
        refine va_iast (D := D) hx hb hK hP hD hS 13 0 rfl rfl hq dX1_addEdge_75 (fun H locs hP hD hS => ?_)
        have hP : va_P D vwCl (wC a cI cZ cJ x_agesStand x_searchStands p_blocks p_lines p_edges p_pairs g_sets g_size g_penalty g_comeCount s_answered s_codes s_ordered p_times p_touchCounts p_touchSlots p_lineOfSlot (upd p_from (Int32.toNatClampNeg p_edges) v1) (upd p_to (Int32.toNatClampNeg p_edges) v2) (upd p_bounds (Int32.toNatClampNeg p_edges) (-1)) p_pairA p_pairB (upd p_leaving_39 (Int32.toNatClampNeg (p_firstLeaving (Int32.toNatClampNeg (v1 + 1)))) p_edges) p_firstLeaving g_come g_outcomes g_greatestTimes g_leastTimes g_changed g_greatest g_least g_greatestNow g_leastNow s_order s_arriving s_unit s_flag s_forbidding s_most s_fewest) H := hP
        have hD : va_D A (wC a cI cZ cJ x_agesStand x_searchStands p_blocks p_lines p_edges p_pairs g_sets g_size g_penalty g_comeCount s_answered s_codes s_ordered p_times p_touchCounts p_touchSlots p_lineOfSlot (upd p_from (Int32.toNatClampNeg p_edges) v1) (upd p_to (Int32.toNatClampNeg p_edges) v2) (upd p_bounds (Int32.toNatClampNeg p_edges) (-1)) p_pairA p_pairB (upd p_leaving_39 (Int32.toNatClampNeg (p_firstLeaving (Int32.toNatClampNeg (v1 + 1)))) p_edges) p_firstLeaving g_come g_outcomes g_greatestTimes g_leastTimes g_changed g_greatest g_least g_greatestNow g_leastNow s_order s_arriving s_unit s_flag s_forbidding s_most s_fewest) := hD
        refine lv_iload_n hx hb dX1_addEdge_76 rfl (lv_at hl 1 rfl) ?_
        refine lv_iconst (v := 1) hx hb dX1_addEdge_77 (by decide) ?_
        refine lv_iadd hx hb dX1_addEdge_78 ?_
        refine lv_istore (lv' := [(5, .int (v1 + 1)), (0, .ref (a 1)), (1, .int v1), (3, .int p_edges), (4, .int (p_firstLeaving (Int32.toNatClampNeg (v1 + 1))))]) hx hb dX1_addEdge_79 hl (by decide) rfl (fun ls hl => ?_)
        have LP81 : ∀ (n81 : Nat) (v5_81 : Int32) (p_firstLeaving_81 : Nat → Int32), lp_X1_addEdge_81 p_edges p_edges (upd p_from (Int32.toNatClampNeg p_edges) v1) (upd p_to (Int32.toNatClampNeg p_edges) v2) (upd p_bounds (Int32.toNatClampNeg p_edges) (-1)) (upd p_leaving_39 (Int32.toNatClampNeg (p_firstLeaving (Int32.toNatClampNeg (v1 + 1)))) p_edges) Q n81 v5_81 p_firstLeaving_81 → ∀ (H : Heap) (locs : List Loc), va_P D vwCl (wC a cI cZ cJ x_agesStand x_searchStands p_blocks p_lines p_edges p_pairs g_sets g_size g_penalty g_comeCount s_answered s_codes s_ordered p_times p_touchCounts p_touchSlots p_lineOfSlot (upd p_from (Int32.toNatClampNeg p_edges) v1) (upd p_to (Int32.toNatClampNeg p_edges) v2) (upd p_bounds (Int32.toNatClampNeg p_edges) (-1)) p_pairA p_pairB (upd p_leaving_39 (Int32.toNatClampNeg (p_firstLeaving (Int32.toNatClampNeg (v1 + 1)))) p_edges) p_firstLeaving_81 g_come g_outcomes g_greatestTimes g_leastTimes g_changed g_greatest g_least g_greatestNow g_leastNow s_order s_arriving s_unit s_flag s_forbidding s_most s_fewest) H → va_D A (wC a cI cZ cJ x_agesStand x_searchStands p_blocks p_lines p_edges p_pairs g_sets g_size g_penalty g_comeCount s_answered s_codes s_ordered p_times p_touchCounts p_touchSlots p_lineOfSlot (upd p_from (Int32.toNatClampNeg p_edges) v1) (upd p_to (Int32.toNatClampNeg p_edges) v2) (upd p_bounds (Int32.toNatClampNeg p_edges) (-1)) p_pairA p_pairB (upd p_leaving_39 (Int32.toNatClampNeg (p_firstLeaving (Int32.toNatClampNeg (v1 + 1)))) p_edges) p_firstLeaving_81 g_come g_outcomes g_greatestTimes g_leastTimes g_changed g_greatest g_least g_greatestNow g_leastNow s_order s_arriving s_unit s_flag s_forbidding s_most s_fewest) → va_S A s.heap H locs → ∀ (ls : Array Slot), lv_has ls 6 [(0, .ref (a 1)), (3, .int p_edges), (5, .int v5_81)] → W p l e (headSpec wsX1_addEdge rm_X1_addEdge).room s m ([Value.ref (a 1), Value.int v1, Value.int v2] : List Value).toArray below meth c H locs 0 0 Qz (F0 m 81 ls []) := by
          intro n81
          induction n81 with
          | zero => intro v5_81 p_firstLeaving_81 h; exact h.elim
          | succ n81 ih81 =>
            intro v5_81 p_firstLeaving_81 h H locs hP hD hS ls hl
            unfold lp_X1_addEdge_81 at h
            refine lv_iload hx hb dX1_addEdge_81 (lv_at hl 2 rfl) ?_
            refine lv_bipush (v := 40) hx hb dX1_addEdge_83 (by decide) ?_
            refine lv_icmp_gt (tgt := 105) hx hb dX1_addEdge_85 (by decide) (fun hc => ?_) (fun hc => ?_)
            · replace h := h.1 hc
              refine lv_aload_n hx hb dX1_addEdge_105 rfl (lv_at hl 0 rfl) ?_
              refine lv_dup hx hb dX1_addEdge_106 rfl ?_
              refine va_get (D := D) (ci := 1) (v := .int p_edges) (C := RX1) (T := TX1) (N := 15) hx hb hts hinX1 hown hK hP 1 rfl rfl 2 (by decide) (hts (.fieldLink RX1 49 "WorstPaths$Program" "edges" "I") (by decide +kernel)) (fun _ h9 => h9) rfl dX1_addEdge_107 ?_
              refine lv_iconst (v := 1) hx hb dX1_addEdge_110 (by decide) ?_
              refine lv_iadd hx hb dX1_addEdge_111 ?_
              refine va_put (D := D) (ci := 1) (v := .int (p_edges + 1)) (ty := .int) (C := RX1) (T := TX1) (N := 15) hx hb hts hinX1 tyX1 tyX1_ok nmX1 hown hK hP hD hS 1 rfl rfl 2 (by decide) (hts (.fieldLink RX1 49 "WorstPaths$Program" "edges" "I") (by decide +kernel)) (fun _ h9 => h9) rfl (by decide +kernel) rfl rfl (Nat.le_of_ble_eq_true rfl) dX1_addEdge_112 (fun H locs hP hD hS => ?_)
              have hP : va_P D vwCl (wC a cI cZ cJ x_agesStand x_searchStands p_blocks p_lines (p_edges + 1) p_pairs g_sets g_size g_penalty g_comeCount s_answered s_codes s_ordered p_times p_touchCounts p_touchSlots p_lineOfSlot (upd p_from (Int32.toNatClampNeg p_edges) v1) (upd p_to (Int32.toNatClampNeg p_edges) v2) (upd p_bounds (Int32.toNatClampNeg p_edges) (-1)) p_pairA p_pairB (upd p_leaving_39 (Int32.toNatClampNeg (p_firstLeaving (Int32.toNatClampNeg (v1 + 1)))) p_edges) p_firstLeaving_81 g_come g_outcomes g_greatestTimes g_leastTimes g_changed g_greatest g_least g_greatestNow g_leastNow s_order s_arriving s_unit s_flag s_forbidding s_most s_fewest) H := hP
              have hD : va_D A (wC a cI cZ cJ x_agesStand x_searchStands p_blocks p_lines (p_edges + 1) p_pairs g_sets g_size g_penalty g_comeCount s_answered s_codes s_ordered p_times p_touchCounts p_touchSlots p_lineOfSlot (upd p_from (Int32.toNatClampNeg p_edges) v1) (upd p_to (Int32.toNatClampNeg p_edges) v2) (upd p_bounds (Int32.toNatClampNeg p_edges) (-1)) p_pairA p_pairB (upd p_leaving_39 (Int32.toNatClampNeg (p_firstLeaving (Int32.toNatClampNeg (v1 + 1)))) p_edges) p_firstLeaving_81 g_come g_outcomes g_greatestTimes g_leastTimes g_changed g_greatest g_least g_greatestNow g_leastNow s_order s_arriving s_unit s_flag s_forbidding s_most s_fewest) := hD
              refine lv_iload_n hx hb dX1_addEdge_115 rfl (lv_at hl 1 rfl) ?_
              refine wz_mono hQz ?_
              exact W.iret (v := p_edges) hx hb hr (fun t ht hW => ⟨⟨p_edges, ((p_edges + 1), (upd p_from (Int32.toNatClampNeg p_edges) v1), (upd p_to (Int32.toNatClampNeg p_edges) v2), (upd p_bounds (Int32.toNatClampNeg p_edges) (-1)), (upd p_leaving_39 (Int32.toNatClampNeg (p_firstLeaving (Int32.toNatClampNeg (v1 + 1)))) p_edges), p_firstLeaving_81), rfl, h, by rw [ht]; exact hP, va_K.moved hW.alike hK, hD⟩, hS.F ht⟩) hS.2.2 dX1_addEdge_116
            · replace h := h.2 hc
              refine lv_aload_n hx hb dX1_addEdge_88 rfl (lv_at hl 0 rfl) ?_
              refine va_get (D := D) (ci := 1) (v := .ref (a 14)) (C := RX1) (T := TX1) (N := 15) hx hb hts hinX1 hown hK hP 1 rfl rfl 14 (by decide) (hts (.fieldLink RX1 42 "WorstPaths$Program" "firstLeaving" "[I") (by decide +kernel)) (fun _ h9 => h9) rfl dX1_addEdge_89 ?_
              refine lv_iload hx hb dX1_addEdge_92 (lv_at hl 2 rfl) ?_
              refine lv_dup2_11 hx hb dX1_addEdge_94 rfl rfl ?_
              obtain ⟨hq, h⟩ := h
              refine va_iald (D := D) hx hb hK hP 14 0 rfl rfl hq dX1_addEdge_95 ?_
              refine lv_iconst (v := 1) hx hb dX1_addEdge_96 (by decide) ?_
              refine lv_iadd hx hb dX1_addEdge_97 ?_
              obtain ⟨hq, h⟩ := h
              refine va_iast (D := D) hx hb hK hP hD hS 14 0 rfl rfl hq dX1_addEdge_98 (fun H locs hP hD hS => ?_)
              have hP : va_P D vwCl (wC a cI cZ cJ x_agesStand x_searchStands p_blocks p_lines p_edges p_pairs g_sets g_size g_penalty g_comeCount s_answered s_codes s_ordered p_times p_touchCounts p_touchSlots p_lineOfSlot (upd p_from (Int32.toNatClampNeg p_edges) v1) (upd p_to (Int32.toNatClampNeg p_edges) v2) (upd p_bounds (Int32.toNatClampNeg p_edges) (-1)) p_pairA p_pairB (upd p_leaving_39 (Int32.toNatClampNeg (p_firstLeaving (Int32.toNatClampNeg (v1 + 1)))) p_edges) (upd p_firstLeaving_81 (Int32.toNatClampNeg v5_81) ((p_firstLeaving_81 (Int32.toNatClampNeg v5_81)) + 1)) g_come g_outcomes g_greatestTimes g_leastTimes g_changed g_greatest g_least g_greatestNow g_leastNow s_order s_arriving s_unit s_flag s_forbidding s_most s_fewest) H := hP
              have hD : va_D A (wC a cI cZ cJ x_agesStand x_searchStands p_blocks p_lines p_edges p_pairs g_sets g_size g_penalty g_comeCount s_answered s_codes s_ordered p_times p_touchCounts p_touchSlots p_lineOfSlot (upd p_from (Int32.toNatClampNeg p_edges) v1) (upd p_to (Int32.toNatClampNeg p_edges) v2) (upd p_bounds (Int32.toNatClampNeg p_edges) (-1)) p_pairA p_pairB (upd p_leaving_39 (Int32.toNatClampNeg (p_firstLeaving (Int32.toNatClampNeg (v1 + 1)))) p_edges) (upd p_firstLeaving_81 (Int32.toNatClampNeg v5_81) ((p_firstLeaving_81 (Int32.toNatClampNeg v5_81)) + 1)) g_come g_outcomes g_greatestTimes g_leastTimes g_changed g_greatest g_least g_greatestNow g_leastNow s_order s_arriving s_unit s_flag s_forbidding s_most s_fewest) := hD
              refine lv_iinc (v := (v5_81 + 1)) (lv' := [(5, .int (v5_81 + 1)), (0, .ref (a 1)), (3, .int p_edges)]) hx hb dX1_addEdge_99 hl (k := 2) rfl rfl (by decide) rfl (fun ls hl => ?_)
              refine lv_goto (tgt := 81) hx hb dX1_addEdge_102 (by decide) ?_
              exact ih81 (v5_81 + 1) (upd p_firstLeaving_81 (Int32.toNatClampNeg v5_81) ((p_firstLeaving_81 (Int32.toNatClampNeg v5_81)) + 1)) h _ _ hP hD hS _ (lv_sub hl [1, 2, 0] rfl)
        obtain ⟨k9, h⟩ := h
        exact LP81 k9 (v1 + 1) p_firstLeaving h _ _ hP hD hS _ (lv_sub hl [1, 3, 0] rfl)
      · replace h := h.2 hc
        refine lv_aload_n hx hb dX1_addEdge_46 rfl (lv_at hl 0 rfl) ?_
        refine va_get (D := D) (ci := 1) (v := .ref (a 13)) (C := RX1) (T := TX1) (N := 15) hx hb hts hinX1 hown hK hP 1 rfl rfl 13 (by decide) (hts (.fieldLink RX1 39 "WorstPaths$Program" "leaving" "[I") (by decide +kernel)) (fun _ h9 => h9) rfl dX1_addEdge_47 ?_
        refine lv_iload hx hb dX1_addEdge_50 (lv_at hl 4 rfl) ?_
        refine lv_aload_n hx hb dX1_addEdge_52 rfl (lv_at hl 0 rfl) ?_
        refine va_get (D := D) (ci := 1) (v := .ref (a 13)) (C := RX1) (T := TX1) (N := 15) hx hb hts hinX1 hown hK hP 1 rfl rfl 13 (by decide) (hts (.fieldLink RX1 39 "WorstPaths$Program" "leaving" "[I") (by decide +kernel)) (fun _ h9 => h9) rfl dX1_addEdge_53 ?_
        refine lv_iload hx hb dX1_addEdge_56 (lv_at hl 4 rfl) ?_
        refine lv_iconst (v := 1) hx hb dX1_addEdge_58 (by decide) ?_
        refine lv_isub hx hb dX1_addEdge_59 ?_
        obtain ⟨hq, h⟩ := h
        refine va_iald (D := D) hx hb hK hP 13 0 rfl rfl hq dX1_addEdge_60 ?_
        obtain ⟨hq, h⟩ := h
        refine va_iast (D := D) hx hb hK hP hD hS 13 0 rfl rfl hq dX1_addEdge_61 (fun H locs hP hD hS => ?_)
        have hP : va_P D vwCl (wC a cI cZ cJ x_agesStand x_searchStands p_blocks p_lines p_edges p_pairs g_sets g_size g_penalty g_comeCount s_answered s_codes s_ordered p_times p_touchCounts p_touchSlots p_lineOfSlot (upd p_from (Int32.toNatClampNeg p_edges) v1) (upd p_to (Int32.toNatClampNeg p_edges) v2) (upd p_bounds (Int32.toNatClampNeg p_edges) (-1)) p_pairA p_pairB (upd p_leaving_39 (Int32.toNatClampNeg v5_39) (p_leaving_39 (Int32.toNatClampNeg (v5_39 - 1)))) p_firstLeaving g_come g_outcomes g_greatestTimes g_leastTimes g_changed g_greatest g_least g_greatestNow g_leastNow s_order s_arriving s_unit s_flag s_forbidding s_most s_fewest) H := hP
        have hD : va_D A (wC a cI cZ cJ x_agesStand x_searchStands p_blocks p_lines p_edges p_pairs g_sets g_size g_penalty g_comeCount s_answered s_codes s_ordered p_times p_touchCounts p_touchSlots p_lineOfSlot (upd p_from (Int32.toNatClampNeg p_edges) v1) (upd p_to (Int32.toNatClampNeg p_edges) v2) (upd p_bounds (Int32.toNatClampNeg p_edges) (-1)) p_pairA p_pairB (upd p_leaving_39 (Int32.toNatClampNeg v5_39) (p_leaving_39 (Int32.toNatClampNeg (v5_39 - 1)))) p_firstLeaving g_come g_outcomes g_greatestTimes g_leastTimes g_changed g_greatest g_least g_greatestNow g_leastNow s_order s_arriving s_unit s_flag s_forbidding s_most s_fewest) := hD
        refine lv_iinc (v := (v5_39 + (-1))) (lv' := [(5, .int (v5_39 + (-1))), (0, .ref (a 1)), (1, .int v1), (3, .int p_edges), (4, .int (p_firstLeaving (Int32.toNatClampNeg (v1 + 1))))]) hx hb dX1_addEdge_62 hl (k := 4) rfl rfl (by decide) rfl (fun ls hl => ?_)
        refine lv_goto (tgt := 39) hx hb dX1_addEdge_65 (by decide) ?_
        exact ih39 (v5_39 + (-1)) (upd p_leaving_39 (Int32.toNatClampNeg v5_39) (p_leaving_39 (Int32.toNatClampNeg (v5_39 - 1)))) h _ _ hP hD hS _ (lv_sub hl [1, 2, 3, 4, 0] rfl)
  obtain ⟨k9, h⟩ := h
  exact LP39 k9 p_edges p_leaving h _ _ hP hD hS _ (lv_sub hl [3, 4, 2, 1, 0] rfl)
def wp_X1_addPair (v1 : Int32) (v2 : Int32) (p_pairs : Int32) (p_pairA : Nat → Int32) (p_pairB : Nat → Int32) (Q : Int32 → Int32 → (Nat → Int32) → (Nat → Int32) → Prop) : Prop := vp_in p_pairs 3 ∧ (vp_in p_pairs 3 ∧ (Q (p_pairs + 1) (p_pairs + 1) (upd p_pairA (Int32.toNatClampNeg p_pairs) v1) (upd p_pairB (Int32.toNatClampNeg p_pairs) v2)))
abbrev rm_X1_addPair : Room := { frames := 0, cells := 0, slots := 0, locals := 0 }
set_option maxHeartbeats 4000000 in
set_option maxRecDepth 100000 in
theorem c_X1_addPair (l : Launch) (D : va_G) (a : Nat → Nat) (cI : ClassId) (cZ : ClassId) (cJ : ClassId) (sz : Nat) (x_agesStand : Int32) (x_searchStands : Int32) (p_blocks : Int32) (p_lines : Int32) (p_edges : Int32) (p_pairs : Int32) (g_sets : Int32) (g_size : Int32) (g_penalty : Int32) (g_comeCount : Int32) (s_answered : Int32) (s_codes : Int32) (s_ordered : Int32) (p_times : Nat → Int32) (p_touchCounts : Nat → Int32) (p_touchSlots : Nat → Int32) (p_lineOfSlot : Nat → Int32) (p_from : Nat → Int32) (p_to : Nat → Int32) (p_bounds : Nat → Int32) (p_pairA : Nat → Int32) (p_pairB : Nat → Int32) (p_leaving : Nat → Int32) (p_firstLeaving : Nat → Int32) (g_come : Nat → Int32) (g_outcomes : Nat → Int32) (g_greatestTimes : Nat → Int32) (g_leastTimes : Nat → Int32) (g_changed : Nat → Int32) (g_greatest : Nat → Int32) (g_least : Nat → Int32) (g_greatestNow : Nat → Int32) (g_leastNow : Nat → Int32) (s_order : Nat → Int32) (s_arriving : Nat → Int32) (s_unit : Nat → Int32) (s_flag : Nat → Int32) (s_forbidding : Nat → Int32) (s_most : Nat → Int64) (s_fewest : Nat → Int64) (v1 : Int32) (v2 : Int32) (Q : Int32 → Int32 → (Nat → Int32) → (Nat → Int32) → Prop) (h : wp_X1_addPair v1 v2 p_pairs p_pairA p_pairB Q) : Met l yX1_addPair wsX1_addPair rm_X1_addPair (va_Pc [.ref (a 1), .int v1, .int v2] (inW D cI cZ cJ sz (wC a cI cZ cJ x_agesStand x_searchStands p_blocks p_lines p_edges p_pairs g_sets g_size g_penalty g_comeCount s_answered s_codes s_ordered p_times p_touchCounts p_touchSlots p_lineOfSlot p_from p_to p_bounds p_pairA p_pairB p_leaving p_firstLeaving g_come g_outcomes g_greatestTimes g_leastTimes g_changed g_greatest g_least g_greatestNow g_leastNow s_order s_arriving s_unit s_flag s_forbidding s_most s_fewest))) (va_Qi (fun (r : Int32) (u : Int32 × (Nat → Int32) × (Nat → Int32)) => Q r u.1 u.2.1 u.2.2) (fun (u : Int32 × (Nat → Int32) × (Nat → Int32)) => outW D cI cZ cJ (va_A (wC a cI cZ cJ x_agesStand x_searchStands p_blocks p_lines p_edges p_pairs g_sets g_size g_penalty g_comeCount s_answered s_codes s_ordered p_times p_touchCounts p_touchSlots p_lineOfSlot p_from p_to p_bounds p_pairA p_pairB p_leaving p_firstLeaving g_come g_outcomes g_greatestTimes g_leastTimes g_changed g_greatest g_least g_greatestNow g_leastNow s_order s_arriving s_unit s_flag s_forbidding s_most s_fewest) sz) (wC a cI cZ cJ x_agesStand x_searchStands p_blocks p_lines p_edges u.1 g_sets g_size g_penalty g_comeCount s_answered s_codes s_ordered p_times p_touchCounts p_touchSlots p_lineOfSlot p_from p_to p_bounds u.2.1 u.2.2 p_leaving p_firstLeaving g_come g_outcomes g_greatestTimes g_leastTimes g_changed g_greatest g_least g_greatestNow g_leastNow s_order s_arriving s_unit s_flag s_forbidding s_most s_fewest)) (va_A (wC a cI cZ cJ x_agesStand x_searchStands p_blocks p_lines p_edges p_pairs g_sets g_size g_penalty g_comeCount s_answered s_codes s_ordered p_times p_touchCounts p_touchSlots p_lineOfSlot p_from p_to p_bounds p_pairA p_pairB p_leaving p_firstLeaving g_come g_outcomes g_greatestTimes g_leastTimes g_changed g_greatest g_least g_greatestNow g_leastNow s_order s_arriving s_unit s_flag s_forbidding s_most s_fewest) sz)) 0 0 (va_A (wC a cI cZ cJ x_agesStand x_searchStands p_blocks p_lines p_edges p_pairs g_sets g_size g_penalty g_comeCount s_answered s_codes s_ordered p_times p_touchCounts p_touchSlots p_lineOfSlot p_from p_to p_bounds p_pairA p_pairB p_leaving p_firstLeaving g_come g_outcomes g_greatestTimes g_leastTimes g_changed g_greatest g_least g_greatestNow g_leastNow s_order s_arriving s_unit s_flag s_forbidding s_most s_fewest) sz) := by
  refine Met.ofW (cc := cX1_addPair) (maxL := 3) (ret := (some .int)) (by decide +kernel) rfl ?_
  intro p e s m args below meth c s₁ B hml hv
  obtain ⟨rfl, hsz, hP, hK, hD0⟩ := hv
  have hx := B.exec
  have hb := B.bytes
  have hr := B.returns
  have hts := atoms_spec (ws := wsX1_addPair) B.pre
  have hown : s.vm.findClass RX1 = some m.cls := findClass_of_methodNamed B.named
  have hlocks := B.notSynchronized
  have hinX1 : ∀ w ∈ wsX10, w ∈ wsX1_addPair := by decide +kernel
  subst hsz
  have hD := hD0.self (sz := s.heap.size)
  generalize hAe : va_A (wC a cI cZ cJ x_agesStand x_searchStands p_blocks p_lines p_edges p_pairs g_sets g_size g_penalty g_comeCount s_answered s_codes s_ordered p_times p_touchCounts p_touchSlots p_lineOfSlot p_from p_to p_bounds p_pairA p_pairB p_leaving p_firstLeaving g_come g_outcomes g_greatestTimes g_leastTimes g_changed g_greatest g_least g_greatestNow g_leastNow s_order s_arriving s_unit s_flag s_forbidding s_most s_fewest) s.heap.size = A at hD ⊢
  have hA : ∀ q : Nat, s.heap.size ≤ q → A q := fun q h => by rw [← hAe]; exact Or.inr h
  have hS : va_S A s.heap s.heap [] := va_S.rf
  have hP : va_P D vwCl (wC a cI cZ cJ x_agesStand x_searchStands p_blocks p_lines p_edges p_pairs g_sets g_size g_penalty g_comeCount s_answered s_codes s_ordered p_times p_touchCounts p_touchSlots p_lineOfSlot p_from p_to p_bounds p_pairA p_pairB p_leaving p_firstLeaving g_come g_outcomes g_greatestTimes g_leastTimes g_changed g_greatest g_least g_greatestNow g_leastNow s_order s_arriving s_unit s_flag s_forbidding s_most s_fewest) s.heap := hP
  have hl := lv_entry ([.ref (a 1), .int v1, .int v2]) (n := 3) (Nat.le_of_ble_eq_true rfl)
  rw [lg_entry_eq]
  generalize (lg_sl ([.ref (a 1), .int v1, .int v2]) ++ List.replicate (3 - (lg_sl ([.ref (a 1), .int v1, .int v2])).length) Slot.unset).toArray = ls at hl ⊢
  have hl : lv_has ls 3 [(0, .ref (a 1)), (1, .int v1), (2, .int v2)] := hl
  refine wz_abs (fun Qz hQz => ?_)
  unfold wp_X1_addPair at h
  refine lv_aload_n hx hb dX1_addPair_0 rfl (lv_at hl 0 rfl) ?_
  refine va_get (D := D) (ci := 1) (v := .ref (a 11)) (C := RX1) (T := TX1) (N := 15) hx hb hts hinX1 hown hK hP 1 rfl rfl 11 (by decide) (hts (.fieldLink RX1 33 "WorstPaths$Program" "pairA" "[I") (by decide +kernel)) (fun _ h9 => h9) rfl dX1_addPair_1 ?_
  refine lv_aload_n hx hb dX1_addPair_4 rfl (lv_at hl 0 rfl) ?_
  refine va_get (D := D) (ci := 1) (v := .int p_pairs) (C := RX1) (T := TX1) (N := 15) hx hb hts hinX1 hown hK hP 1 rfl rfl 3 (by decide) (hts (.fieldLink RX1 59 "WorstPaths$Program" "pairs" "I") (by decide +kernel)) (fun _ h9 => h9) rfl dX1_addPair_5 ?_
  refine lv_iload_n hx hb dX1_addPair_8 rfl (lv_at hl 1 rfl) ?_
  obtain ⟨hq, h⟩ := h
  refine va_iast (D := D) hx hb hK hP hD hS 11 0 rfl rfl hq dX1_addPair_9 (fun H locs hP hD hS => ?_)
  have hP : va_P D vwCl (wC a cI cZ cJ x_agesStand x_searchStands p_blocks p_lines p_edges p_pairs g_sets g_size g_penalty g_comeCount s_answered s_codes s_ordered p_times p_touchCounts p_touchSlots p_lineOfSlot p_from p_to p_bounds (upd p_pairA (Int32.toNatClampNeg p_pairs) v1) p_pairB p_leaving p_firstLeaving g_come g_outcomes g_greatestTimes g_leastTimes g_changed g_greatest g_least g_greatestNow g_leastNow s_order s_arriving s_unit s_flag s_forbidding s_most s_fewest) H := hP
  have hD : va_D A (wC a cI cZ cJ x_agesStand x_searchStands p_blocks p_lines p_edges p_pairs g_sets g_size g_penalty g_comeCount s_answered s_codes s_ordered p_times p_touchCounts p_touchSlots p_lineOfSlot p_from p_to p_bounds (upd p_pairA (Int32.toNatClampNeg p_pairs) v1) p_pairB p_leaving p_firstLeaving g_come g_outcomes g_greatestTimes g_leastTimes g_changed g_greatest g_least g_greatestNow g_leastNow s_order s_arriving s_unit s_flag s_forbidding s_most s_fewest) := hD
  refine lv_aload_n hx hb dX1_addPair_10 rfl (lv_at hl 0 rfl) ?_
  refine va_get (D := D) (ci := 1) (v := .ref (a 12)) (C := RX1) (T := TX1) (N := 15) hx hb hts hinX1 hown hK hP 1 rfl rfl 12 (by decide) (hts (.fieldLink RX1 36 "WorstPaths$Program" "pairB" "[I") (by decide +kernel)) (fun _ h9 => h9) rfl dX1_addPair_11 ?_
  refine lv_aload_n hx hb dX1_addPair_14 rfl (lv_at hl 0 rfl) ?_
  refine va_get (D := D) (ci := 1) (v := .int p_pairs) (C := RX1) (T := TX1) (N := 15) hx hb hts hinX1 hown hK hP 1 rfl rfl 3 (by decide) (hts (.fieldLink RX1 59 "WorstPaths$Program" "pairs" "I") (by decide +kernel)) (fun _ h9 => h9) rfl dX1_addPair_15 ?_
  refine lv_iload_n hx hb dX1_addPair_18 rfl (lv_at hl 2 rfl) ?_
  obtain ⟨hq, h⟩ := h
  refine va_iast (D := D) hx hb hK hP hD hS 12 0 rfl rfl hq dX1_addPair_19 (fun H locs hP hD hS => ?_)
  have hP : va_P D vwCl (wC a cI cZ cJ x_agesStand x_searchStands p_blocks p_lines p_edges p_pairs g_sets g_size g_penalty g_comeCount s_answered s_codes s_ordered p_times p_touchCounts p_touchSlots p_lineOfSlot p_from p_to p_bounds (upd p_pairA (Int32.toNatClampNeg p_pairs) v1) (upd p_pairB (Int32.toNatClampNeg p_pairs) v2) p_leaving p_firstLeaving g_come g_outcomes g_greatestTimes g_leastTimes g_changed g_greatest g_least g_greatestNow g_leastNow s_order s_arriving s_unit s_flag s_forbidding s_most s_fewest) H := hP
  have hD : va_D A (wC a cI cZ cJ x_agesStand x_searchStands p_blocks p_lines p_edges p_pairs g_sets g_size g_penalty g_comeCount s_answered s_codes s_ordered p_times p_touchCounts p_touchSlots p_lineOfSlot p_from p_to p_bounds (upd p_pairA (Int32.toNatClampNeg p_pairs) v1) (upd p_pairB (Int32.toNatClampNeg p_pairs) v2) p_leaving p_firstLeaving g_come g_outcomes g_greatestTimes g_leastTimes g_changed g_greatest g_least g_greatestNow g_leastNow s_order s_arriving s_unit s_flag s_forbidding s_most s_fewest) := hD
  refine lv_aload_n hx hb dX1_addPair_20 rfl (lv_at hl 0 rfl) ?_
  refine lv_dup hx hb dX1_addPair_21 rfl ?_
  refine va_get (D := D) (ci := 1) (v := .int p_pairs) (C := RX1) (T := TX1) (N := 15) hx hb hts hinX1 hown hK hP 1 rfl rfl 3 (by decide) (hts (.fieldLink RX1 59 "WorstPaths$Program" "pairs" "I") (by decide +kernel)) (fun _ h9 => h9) rfl dX1_addPair_22 ?_
  refine lv_iconst (v := 1) hx hb dX1_addPair_25 (by decide) ?_
  refine lv_iadd hx hb dX1_addPair_26 ?_
  refine va_put (D := D) (ci := 1) (v := .int (p_pairs + 1)) (ty := .int) (C := RX1) (T := TX1) (N := 15) hx hb hts hinX1 tyX1 tyX1_ok nmX1 hown hK hP hD hS 1 rfl rfl 3 (by decide) (hts (.fieldLink RX1 59 "WorstPaths$Program" "pairs" "I") (by decide +kernel)) (fun _ h9 => h9) rfl (by decide +kernel) rfl rfl (Nat.le_of_ble_eq_true rfl) dX1_addPair_27 (fun H locs hP hD hS => ?_)
  have hP : va_P D vwCl (wC a cI cZ cJ x_agesStand x_searchStands p_blocks p_lines p_edges (p_pairs + 1) g_sets g_size g_penalty g_comeCount s_answered s_codes s_ordered p_times p_touchCounts p_touchSlots p_lineOfSlot p_from p_to p_bounds (upd p_pairA (Int32.toNatClampNeg p_pairs) v1) (upd p_pairB (Int32.toNatClampNeg p_pairs) v2) p_leaving p_firstLeaving g_come g_outcomes g_greatestTimes g_leastTimes g_changed g_greatest g_least g_greatestNow g_leastNow s_order s_arriving s_unit s_flag s_forbidding s_most s_fewest) H := hP
  have hD : va_D A (wC a cI cZ cJ x_agesStand x_searchStands p_blocks p_lines p_edges (p_pairs + 1) g_sets g_size g_penalty g_comeCount s_answered s_codes s_ordered p_times p_touchCounts p_touchSlots p_lineOfSlot p_from p_to p_bounds (upd p_pairA (Int32.toNatClampNeg p_pairs) v1) (upd p_pairB (Int32.toNatClampNeg p_pairs) v2) p_leaving p_firstLeaving g_come g_outcomes g_greatestTimes g_leastTimes g_changed g_greatest g_least g_greatestNow g_leastNow s_order s_arriving s_unit s_flag s_forbidding s_most s_fewest) := hD
  refine lv_aload_n hx hb dX1_addPair_30 rfl (lv_at hl 0 rfl) ?_
  refine va_get (D := D) (ci := 1) (v := .int (p_pairs + 1)) (C := RX1) (T := TX1) (N := 15) hx hb hts hinX1 hown hK hP 1 rfl rfl 3 (by decide) (hts (.fieldLink RX1 59 "WorstPaths$Program" "pairs" "I") (by decide +kernel)) (fun _ h9 => h9) rfl dX1_addPair_31 ?_
  refine wz_mono hQz ?_
  exact W.iret (v := (p_pairs + 1)) hx hb hr (fun t ht hW => ⟨⟨(p_pairs + 1), ((p_pairs + 1), (upd p_pairA (Int32.toNatClampNeg p_pairs) v1), (upd p_pairB (Int32.toNatClampNeg p_pairs) v2)), rfl, h, by rw [ht]; exact hP, va_K.moved hW.alike hK, hD⟩, hS.F ht⟩) hS.2.2 dX1_addPair_34
