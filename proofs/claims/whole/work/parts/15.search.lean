def wp_X2_mostOfAll (s_most : Nat → Int64) (Q : Int64 → Prop) : Prop := vp_in 0 40000 ∧ (Q (s_most (Int32.toNatClampNeg 0)))
abbrev rm_X2_mostOfAll : Room := { frames := 0, cells := 0, slots := 0, locals := 0 }
set_option maxHeartbeats 4000000 in
set_option maxRecDepth 100000 in
theorem c_X2_mostOfAll (l : Launch) (D : va_G) (a : Nat → Nat) (cI : ClassId) (cZ : ClassId) (cJ : ClassId) (sz : Nat) (x_agesStand : Int32) (x_searchStands : Int32) (p_blocks : Int32) (p_lines : Int32) (p_edges : Int32) (p_pairs : Int32) (g_sets : Int32) (g_size : Int32) (g_penalty : Int32) (g_comeCount : Int32) (s_answered : Int32) (s_codes : Int32) (s_ordered : Int32) (p_times : Nat → Int32) (p_touchCounts : Nat → Int32) (p_touchSlots : Nat → Int32) (p_lineOfSlot : Nat → Int32) (p_from : Nat → Int32) (p_to : Nat → Int32) (p_bounds : Nat → Int32) (p_pairA : Nat → Int32) (p_pairB : Nat → Int32) (p_leaving : Nat → Int32) (p_firstLeaving : Nat → Int32) (g_come : Nat → Int32) (g_outcomes : Nat → Int32) (g_greatestTimes : Nat → Int32) (g_leastTimes : Nat → Int32) (g_changed : Nat → Int32) (g_greatest : Nat → Int32) (g_least : Nat → Int32) (g_greatestNow : Nat → Int32) (g_leastNow : Nat → Int32) (s_order : Nat → Int32) (s_arriving : Nat → Int32) (s_unit : Nat → Int32) (s_flag : Nat → Int32) (s_forbidding : Nat → Int32) (s_most : Nat → Int64) (s_fewest : Nat → Int64) (Q : Int64 → Prop) (h : wp_X2_mostOfAll s_most Q) : Met l yX2_mostOfAll wsX2_mostOfAll rm_X2_mostOfAll (va_Pc [.ref (a 3)] (inW D cI cZ cJ sz (wC a cI cZ cJ x_agesStand x_searchStands p_blocks p_lines p_edges p_pairs g_sets g_size g_penalty g_comeCount s_answered s_codes s_ordered p_times p_touchCounts p_touchSlots p_lineOfSlot p_from p_to p_bounds p_pairA p_pairB p_leaving p_firstLeaving g_come g_outcomes g_greatestTimes g_leastTimes g_changed g_greatest g_least g_greatestNow g_leastNow s_order s_arriving s_unit s_flag s_forbidding s_most s_fewest))) (va_Ql (fun (r : Int64) (u : Unit) => Q r) (fun (u : Unit) => outW D cI cZ cJ (va_A (wC a cI cZ cJ x_agesStand x_searchStands p_blocks p_lines p_edges p_pairs g_sets g_size g_penalty g_comeCount s_answered s_codes s_ordered p_times p_touchCounts p_touchSlots p_lineOfSlot p_from p_to p_bounds p_pairA p_pairB p_leaving p_firstLeaving g_come g_outcomes g_greatestTimes g_leastTimes g_changed g_greatest g_least g_greatestNow g_leastNow s_order s_arriving s_unit s_flag s_forbidding s_most s_fewest) sz) (wC a cI cZ cJ x_agesStand x_searchStands p_blocks p_lines p_edges p_pairs g_sets g_size g_penalty g_comeCount s_answered s_codes s_ordered p_times p_touchCounts p_touchSlots p_lineOfSlot p_from p_to p_bounds p_pairA p_pairB p_leaving p_firstLeaving g_come g_outcomes g_greatestTimes g_leastTimes g_changed g_greatest g_least g_greatestNow g_leastNow s_order s_arriving s_unit s_flag s_forbidding s_most s_fewest)) (va_A (wC a cI cZ cJ x_agesStand x_searchStands p_blocks p_lines p_edges p_pairs g_sets g_size g_penalty g_comeCount s_answered s_codes s_ordered p_times p_touchCounts p_touchSlots p_lineOfSlot p_from p_to p_bounds p_pairA p_pairB p_leaving p_firstLeaving g_come g_outcomes g_greatestTimes g_leastTimes g_changed g_greatest g_least g_greatestNow g_leastNow s_order s_arriving s_unit s_flag s_forbidding s_most s_fewest) sz)) 0 0 (va_A (wC a cI cZ cJ x_agesStand x_searchStands p_blocks p_lines p_edges p_pairs g_sets g_size g_penalty g_comeCount s_answered s_codes s_ordered p_times p_touchCounts p_touchSlots p_lineOfSlot p_from p_to p_bounds p_pairA p_pairB p_leaving p_firstLeaving g_come g_outcomes g_greatestTimes g_leastTimes g_changed g_greatest g_least g_greatestNow g_leastNow s_order s_arriving s_unit s_flag s_forbidding s_most s_fewest) sz) := by
  refine Met.ofW (cc := cX2_mostOfAll) (maxL := 1) (ret := (some .long)) (by decide +kernel) rfl ?_
  intro p e s m args below meth c s₁ B hml hv
  obtain ⟨rfl, hsz, hP, hK, hD0⟩ := hv
  have hx := B.exec
  have hb := B.bytes
  have hr := B.returns
  have hts := atoms_spec (ws := wsX2_mostOfAll) B.pre
  have hown : s.vm.findClass RX2 = some m.cls := findClass_of_methodNamed B.named
  have hlocks := B.notSynchronized
  have hinX2 : ∀ w ∈ wsX20, w ∈ wsX2_mostOfAll := by decide +kernel
  subst hsz
  have hD := hD0.self (sz := s.heap.size)
  generalize hAe : va_A (wC a cI cZ cJ x_agesStand x_searchStands p_blocks p_lines p_edges p_pairs g_sets g_size g_penalty g_comeCount s_answered s_codes s_ordered p_times p_touchCounts p_touchSlots p_lineOfSlot p_from p_to p_bounds p_pairA p_pairB p_leaving p_firstLeaving g_come g_outcomes g_greatestTimes g_leastTimes g_changed g_greatest g_least g_greatestNow g_leastNow s_order s_arriving s_unit s_flag s_forbidding s_most s_fewest) s.heap.size = A at hD ⊢
  have hA : ∀ q : Nat, s.heap.size ≤ q → A q := fun q h => by rw [← hAe]; exact Or.inr h
  have hS : va_S A s.heap s.heap [] := va_S.rf
  have hP : va_P D vwCl (wC a cI cZ cJ x_agesStand x_searchStands p_blocks p_lines p_edges p_pairs g_sets g_size g_penalty g_comeCount s_answered s_codes s_ordered p_times p_touchCounts p_touchSlots p_lineOfSlot p_from p_to p_bounds p_pairA p_pairB p_leaving p_firstLeaving g_come g_outcomes g_greatestTimes g_leastTimes g_changed g_greatest g_least g_greatestNow g_leastNow s_order s_arriving s_unit s_flag s_forbidding s_most s_fewest) s.heap := hP
  have hl := lv_entry ([.ref (a 3)]) (n := 1) (Nat.le_of_ble_eq_true rfl)
  rw [lg_entry_eq]
  generalize (lg_sl ([.ref (a 3)]) ++ List.replicate (1 - (lg_sl ([.ref (a 3)])).length) Slot.unset).toArray = ls at hl ⊢
  have hl : lv_has ls 1 [(0, .ref (a 3))] := hl
  refine wz_abs (fun Qz hQz => ?_)
  unfold wp_X2_mostOfAll at h
  refine lv_aload_n hx hb dX2_mostOfAll_0 rfl (lv_at hl 0 rfl) ?_
  refine va_get (D := D) (ci := 2) (v := .ref (a 29)) (C := RX2) (T := TX2) (N := 10) hx hb hts hinX2 hown hK hP 3 rfl rfl 8 (by decide) (hts (.fieldLink RX2 28 "WorstPaths$Search" "most" "[J") (by decide +kernel)) (fun _ h9 => h9) rfl dX2_mostOfAll_1 ?_
  refine lv_iconst (v := 0) hx hb dX2_mostOfAll_4 (by decide) ?_
  obtain ⟨hq, h⟩ := h
  refine va_lald (D := D) hx hb hK hP 29 2 rfl rfl hq dX2_mostOfAll_5 ?_
  refine wz_mono hQz ?_
  exact W.lret (v := (s_most (Int32.toNatClampNeg 0))) hx hb hr (fun t ht hW => ⟨⟨(s_most (Int32.toNatClampNeg 0)), (), rfl, h, by rw [ht]; exact hP, va_K.moved hW.alike hK, hD⟩, hS.F ht⟩) hS.2.2 dX2_mostOfAll_6
def wp_X2_fewestOfAll (s_fewest : Nat → Int64) (Q : Int64 → Prop) : Prop := vp_in 0 40000 ∧ (Q (s_fewest (Int32.toNatClampNeg 0)))
abbrev rm_X2_fewestOfAll : Room := { frames := 0, cells := 0, slots := 0, locals := 0 }
set_option maxHeartbeats 4000000 in
set_option maxRecDepth 100000 in
theorem c_X2_fewestOfAll (l : Launch) (D : va_G) (a : Nat → Nat) (cI : ClassId) (cZ : ClassId) (cJ : ClassId) (sz : Nat) (x_agesStand : Int32) (x_searchStands : Int32) (p_blocks : Int32) (p_lines : Int32) (p_edges : Int32) (p_pairs : Int32) (g_sets : Int32) (g_size : Int32) (g_penalty : Int32) (g_comeCount : Int32) (s_answered : Int32) (s_codes : Int32) (s_ordered : Int32) (p_times : Nat → Int32) (p_touchCounts : Nat → Int32) (p_touchSlots : Nat → Int32) (p_lineOfSlot : Nat → Int32) (p_from : Nat → Int32) (p_to : Nat → Int32) (p_bounds : Nat → Int32) (p_pairA : Nat → Int32) (p_pairB : Nat → Int32) (p_leaving : Nat → Int32) (p_firstLeaving : Nat → Int32) (g_come : Nat → Int32) (g_outcomes : Nat → Int32) (g_greatestTimes : Nat → Int32) (g_leastTimes : Nat → Int32) (g_changed : Nat → Int32) (g_greatest : Nat → Int32) (g_least : Nat → Int32) (g_greatestNow : Nat → Int32) (g_leastNow : Nat → Int32) (s_order : Nat → Int32) (s_arriving : Nat → Int32) (s_unit : Nat → Int32) (s_flag : Nat → Int32) (s_forbidding : Nat → Int32) (s_most : Nat → Int64) (s_fewest : Nat → Int64) (Q : Int64 → Prop) (h : wp_X2_fewestOfAll s_fewest Q) : Met l yX2_fewestOfAll wsX2_fewestOfAll rm_X2_fewestOfAll (va_Pc [.ref (a 3)] (inW D cI cZ cJ sz (wC a cI cZ cJ x_agesStand x_searchStands p_blocks p_lines p_edges p_pairs g_sets g_size g_penalty g_comeCount s_answered s_codes s_ordered p_times p_touchCounts p_touchSlots p_lineOfSlot p_from p_to p_bounds p_pairA p_pairB p_leaving p_firstLeaving g_come g_outcomes g_greatestTimes g_leastTimes g_changed g_greatest g_least g_greatestNow g_leastNow s_order s_arriving s_unit s_flag s_forbidding s_most s_fewest))) (va_Ql (fun (r : Int64) (u : Unit) => Q r) (fun (u : Unit) => outW D cI cZ cJ (va_A (wC a cI cZ cJ x_agesStand x_searchStands p_blocks p_lines p_edges p_pairs g_sets g_size g_penalty g_comeCount s_answered s_codes s_ordered p_times p_touchCounts p_touchSlots p_lineOfSlot p_from p_to p_bounds p_pairA p_pairB p_leaving p_firstLeaving g_come g_outcomes g_greatestTimes g_leastTimes g_changed g_greatest g_least g_greatestNow g_leastNow s_order s_arriving s_unit s_flag s_forbidding s_most s_fewest) sz) (wC a cI cZ cJ x_agesStand x_searchStands p_blocks p_lines p_edges p_pairs g_sets g_size g_penalty g_comeCount s_answered s_codes s_ordered p_times p_touchCounts p_touchSlots p_lineOfSlot p_from p_to p_bounds p_pairA p_pairB p_leaving p_firstLeaving g_come g_outcomes g_greatestTimes g_leastTimes g_changed g_greatest g_least g_greatestNow g_leastNow s_order s_arriving s_unit s_flag s_forbidding s_most s_fewest)) (va_A (wC a cI cZ cJ x_agesStand x_searchStands p_blocks p_lines p_edges p_pairs g_sets g_size g_penalty g_comeCount s_answered s_codes s_ordered p_times p_touchCounts p_touchSlots p_lineOfSlot p_from p_to p_bounds p_pairA p_pairB p_leaving p_firstLeaving g_come g_outcomes g_greatestTimes g_leastTimes g_changed g_greatest g_least g_greatestNow g_leastNow s_order s_arriving s_unit s_flag s_forbidding s_most s_fewest) sz)) 0 0 (va_A (wC a cI cZ cJ x_agesStand x_searchStands p_blocks p_lines p_edges p_pairs g_sets g_size g_penalty g_comeCount s_answered s_codes s_ordered p_times p_touchCounts p_touchSlots p_lineOfSlot p_from p_to p_bounds p_pairA p_pairB p_leaving p_firstLeaving g_come g_outcomes g_greatestTimes g_leastTimes g_changed g_greatest g_least g_greatestNow g_leastNow s_order s_arriving s_unit s_flag s_forbidding s_most s_fewest) sz) := by
  refine Met.ofW (cc := cX2_fewestOfAll) (maxL := 1) (ret := (some .long)) (by decide +kernel) rfl ?_
  intro p e s m args below meth c s₁ B hml hv
  obtain ⟨rfl, hsz, hP, hK, hD0⟩ := hv
  have hx := B.exec
  have hb := B.bytes
  have hr := B.returns
  have hts := atoms_spec (ws := wsX2_fewestOfAll) B.pre
  have hown : s.vm.findClass RX2 = some m.cls := findClass_of_methodNamed B.named
  have hlocks := B.notSynchronized
  have hinX2 : ∀ w ∈ wsX20, w ∈ wsX2_fewestOfAll := by decide +kernel
  subst hsz
  have hD := hD0.self (sz := s.heap.size)
  generalize hAe : va_A (wC a cI cZ cJ x_agesStand x_searchStands p_blocks p_lines p_edges p_pairs g_sets g_size g_penalty g_comeCount s_answered s_codes s_ordered p_times p_touchCounts p_touchSlots p_lineOfSlot p_from p_to p_bounds p_pairA p_pairB p_leaving p_firstLeaving g_come g_outcomes g_greatestTimes g_leastTimes g_changed g_greatest g_least g_greatestNow g_leastNow s_order s_arriving s_unit s_flag s_forbidding s_most s_fewest) s.heap.size = A at hD ⊢
  have hA : ∀ q : Nat, s.heap.size ≤ q → A q := fun q h => by rw [← hAe]; exact Or.inr h
  have hS : va_S A s.heap s.heap [] := va_S.rf
  have hP : va_P D vwCl (wC a cI cZ cJ x_agesStand x_searchStands p_blocks p_lines p_edges p_pairs g_sets g_size g_penalty g_comeCount s_answered s_codes s_ordered p_times p_touchCounts p_touchSlots p_lineOfSlot p_from p_to p_bounds p_pairA p_pairB p_leaving p_firstLeaving g_come g_outcomes g_greatestTimes g_leastTimes g_changed g_greatest g_least g_greatestNow g_leastNow s_order s_arriving s_unit s_flag s_forbidding s_most s_fewest) s.heap := hP
  have hl := lv_entry ([.ref (a 3)]) (n := 1) (Nat.le_of_ble_eq_true rfl)
  rw [lg_entry_eq]
  generalize (lg_sl ([.ref (a 3)]) ++ List.replicate (1 - (lg_sl ([.ref (a 3)])).length) Slot.unset).toArray = ls at hl ⊢
  have hl : lv_has ls 1 [(0, .ref (a 3))] := hl
  refine wz_abs (fun Qz hQz => ?_)
  unfold wp_X2_fewestOfAll at h
  refine lv_aload_n hx hb dX2_fewestOfAll_0 rfl (lv_at hl 0 rfl) ?_
  refine va_get (D := D) (ci := 2) (v := .ref (a 30)) (C := RX2) (T := TX2) (N := 10) hx hb hts hinX2 hown hK hP 3 rfl rfl 9 (by decide) (hts (.fieldLink RX2 32 "WorstPaths$Search" "fewest" "[J") (by decide +kernel)) (fun _ h9 => h9) rfl dX2_fewestOfAll_1 ?_
  refine lv_iconst (v := 0) hx hb dX2_fewestOfAll_4 (by decide) ?_
  obtain ⟨hq, h⟩ := h
  refine va_lald (D := D) hx hb hK hP 30 2 rfl rfl hq dX2_fewestOfAll_5 ?_
  refine wz_mono hQz ?_
  exact W.lret (v := (s_fewest (Int32.toNatClampNeg 0))) hx hb hr (fun t ht hW => ⟨⟨(s_fewest (Int32.toNatClampNeg 0)), (), rfl, h, by rw [ht]; exact hP, va_K.moved hW.alike hK, hD⟩, hS.F ht⟩) hS.2.2 dX2_fewestOfAll_6
def lp_X2_isInPair_2 (v1 : Int32) (p_pairs : Int32) (p_pairA : Nat → Int32) (p_pairB : Nat → Int32) (Q : Int32 → Prop) : Nat → Int32 → Prop
  | 0, _ => False
  | n + 1, v2 => (p_pairs ≤ v2 → Q 0) ∧ (¬ p_pairs ≤ v2 → vp_in v2 3 ∧ (((p_pairA (Int32.toNatClampNeg v2)) = v1 → Q 1) ∧ (¬ (p_pairA (Int32.toNatClampNeg v2)) = v1 → vp_in v2 3 ∧ ((¬ (p_pairB (Int32.toNatClampNeg v2)) = v1 → (lp_X2_isInPair_2 v1 p_pairs p_pairA p_pairB Q n) (v2 + 1)) ∧ ((p_pairB (Int32.toNatClampNeg v2)) = v1 → Q 1)))))
def wp_X2_isInPair (v1 : Int32) (p_pairs : Int32) (p_pairA : Nat → Int32) (p_pairB : Nat → Int32) (Q : Int32 → Prop) : Prop := ∃ k2, lp_X2_isInPair_2 v1 p_pairs p_pairA p_pairB Q k2 0
abbrev rm_X2_isInPair : Room := { frames := 0, cells := 0, slots := 0, locals := 0 }
set_option maxHeartbeats 4000000 in
set_option maxRecDepth 100000 in
theorem c_X2_isInPair (l : Launch) (D : va_G) (a : Nat → Nat) (cI : ClassId) (cZ : ClassId) (cJ : ClassId) (sz : Nat) (x_agesStand : Int32) (x_searchStands : Int32) (p_blocks : Int32) (p_lines : Int32) (p_edges : Int32) (p_pairs : Int32) (g_sets : Int32) (g_size : Int32) (g_penalty : Int32) (g_comeCount : Int32) (s_answered : Int32) (s_codes : Int32) (s_ordered : Int32) (p_times : Nat → Int32) (p_touchCounts : Nat → Int32) (p_touchSlots : Nat → Int32) (p_lineOfSlot : Nat → Int32) (p_from : Nat → Int32) (p_to : Nat → Int32) (p_bounds : Nat → Int32) (p_pairA : Nat → Int32) (p_pairB : Nat → Int32) (p_leaving : Nat → Int32) (p_firstLeaving : Nat → Int32) (g_come : Nat → Int32) (g_outcomes : Nat → Int32) (g_greatestTimes : Nat → Int32) (g_leastTimes : Nat → Int32) (g_changed : Nat → Int32) (g_greatest : Nat → Int32) (g_least : Nat → Int32) (g_greatestNow : Nat → Int32) (g_leastNow : Nat → Int32) (s_order : Nat → Int32) (s_arriving : Nat → Int32) (s_unit : Nat → Int32) (s_flag : Nat → Int32) (s_forbidding : Nat → Int32) (s_most : Nat → Int64) (s_fewest : Nat → Int64) (v1 : Int32) (Q : Int32 → Prop) (h : wp_X2_isInPair v1 p_pairs p_pairA p_pairB Q) : Met l yX2_isInPair wsX2_isInPair rm_X2_isInPair (va_Pc [.ref (a 1), .int v1] (inW D cI cZ cJ sz (wC a cI cZ cJ x_agesStand x_searchStands p_blocks p_lines p_edges p_pairs g_sets g_size g_penalty g_comeCount s_answered s_codes s_ordered p_times p_touchCounts p_touchSlots p_lineOfSlot p_from p_to p_bounds p_pairA p_pairB p_leaving p_firstLeaving g_come g_outcomes g_greatestTimes g_leastTimes g_changed g_greatest g_least g_greatestNow g_leastNow s_order s_arriving s_unit s_flag s_forbidding s_most s_fewest))) (va_Qi (fun (r : Int32) (u : Unit) => Q r) (fun (u : Unit) => outW D cI cZ cJ (va_A (wC a cI cZ cJ x_agesStand x_searchStands p_blocks p_lines p_edges p_pairs g_sets g_size g_penalty g_comeCount s_answered s_codes s_ordered p_times p_touchCounts p_touchSlots p_lineOfSlot p_from p_to p_bounds p_pairA p_pairB p_leaving p_firstLeaving g_come g_outcomes g_greatestTimes g_leastTimes g_changed g_greatest g_least g_greatestNow g_leastNow s_order s_arriving s_unit s_flag s_forbidding s_most s_fewest) sz) (wC a cI cZ cJ x_agesStand x_searchStands p_blocks p_lines p_edges p_pairs g_sets g_size g_penalty g_comeCount s_answered s_codes s_ordered p_times p_touchCounts p_touchSlots p_lineOfSlot p_from p_to p_bounds p_pairA p_pairB p_leaving p_firstLeaving g_come g_outcomes g_greatestTimes g_leastTimes g_changed g_greatest g_least g_greatestNow g_leastNow s_order s_arriving s_unit s_flag s_forbidding s_most s_fewest)) (va_A (wC a cI cZ cJ x_agesStand x_searchStands p_blocks p_lines p_edges p_pairs g_sets g_size g_penalty g_comeCount s_answered s_codes s_ordered p_times p_touchCounts p_touchSlots p_lineOfSlot p_from p_to p_bounds p_pairA p_pairB p_leaving p_firstLeaving g_come g_outcomes g_greatestTimes g_leastTimes g_changed g_greatest g_least g_greatestNow g_leastNow s_order s_arriving s_unit s_flag s_forbidding s_most s_fewest) sz)) 0 0 (va_A (wC a cI cZ cJ x_agesStand x_searchStands p_blocks p_lines p_edges p_pairs g_sets g_size g_penalty g_comeCount s_answered s_codes s_ordered p_times p_touchCounts p_touchSlots p_lineOfSlot p_from p_to p_bounds p_pairA p_pairB p_leaving p_firstLeaving g_come g_outcomes g_greatestTimes g_leastTimes g_changed g_greatest g_least g_greatestNow g_leastNow s_order s_arriving s_unit s_flag s_forbidding s_most s_fewest) sz) := by
  refine Met.ofW (cc := cX2_isInPair) (maxL := 3) (ret := (some .boolean)) (by decide +kernel) rfl ?_
  intro p e s m args below meth c s₁ B hml hv
  obtain ⟨rfl, hsz, hP, hK, hD0⟩ := hv
  have hx := B.exec
  have hb := B.bytes
  have hr := B.returns
  have hts := atoms_spec (ws := wsX2_isInPair) B.pre
  have hown : s.vm.findClass RX2 = some m.cls := findClass_of_methodNamed B.named
  have hlocks := B.notSynchronized
  have hinX1 : ∀ w ∈ wsX10, w ∈ wsX2_isInPair := by decide +kernel
  subst hsz
  have hD := hD0.self (sz := s.heap.size)
  generalize hAe : va_A (wC a cI cZ cJ x_agesStand x_searchStands p_blocks p_lines p_edges p_pairs g_sets g_size g_penalty g_comeCount s_answered s_codes s_ordered p_times p_touchCounts p_touchSlots p_lineOfSlot p_from p_to p_bounds p_pairA p_pairB p_leaving p_firstLeaving g_come g_outcomes g_greatestTimes g_leastTimes g_changed g_greatest g_least g_greatestNow g_leastNow s_order s_arriving s_unit s_flag s_forbidding s_most s_fewest) s.heap.size = A at hD ⊢
  have hA : ∀ q : Nat, s.heap.size ≤ q → A q := fun q h => by rw [← hAe]; exact Or.inr h
  have hS : va_S A s.heap s.heap [] := va_S.rf
  have hP : va_P D vwCl (wC a cI cZ cJ x_agesStand x_searchStands p_blocks p_lines p_edges p_pairs g_sets g_size g_penalty g_comeCount s_answered s_codes s_ordered p_times p_touchCounts p_touchSlots p_lineOfSlot p_from p_to p_bounds p_pairA p_pairB p_leaving p_firstLeaving g_come g_outcomes g_greatestTimes g_leastTimes g_changed g_greatest g_least g_greatestNow g_leastNow s_order s_arriving s_unit s_flag s_forbidding s_most s_fewest) s.heap := hP
  have hl := lv_entry ([.ref (a 1), .int v1]) (n := 3) (Nat.le_of_ble_eq_true rfl)
  rw [lg_entry_eq]
  generalize (lg_sl ([.ref (a 1), .int v1]) ++ List.replicate (3 - (lg_sl ([.ref (a 1), .int v1])).length) Slot.unset).toArray = ls at hl ⊢
  have hl : lv_has ls 3 [(0, .ref (a 1)), (1, .int v1)] := hl
  refine wz_abs (fun Qz hQz => ?_)
  unfold wp_X2_isInPair at h
  refine lv_iconst (v := 0) hx hb dX2_isInPair_0 (by decide) ?_
  refine lv_istore_n (lv' := [(2, .int 0), (0, .ref (a 1)), (1, .int v1)]) hx hb dX2_isInPair_1 rfl hl (by decide) rfl (fun ls hl => ?_)
  have LP2 : ∀ (n2 : Nat) (v2_2 : Int32), lp_X2_isInPair_2 v1 p_pairs p_pairA p_pairB Q n2 v2_2 → ∀ (H : Heap) (locs : List Loc), va_P D vwCl (wC a cI cZ cJ x_agesStand x_searchStands p_blocks p_lines p_edges p_pairs g_sets g_size g_penalty g_comeCount s_answered s_codes s_ordered p_times p_touchCounts p_touchSlots p_lineOfSlot p_from p_to p_bounds p_pairA p_pairB p_leaving p_firstLeaving g_come g_outcomes g_greatestTimes g_leastTimes g_changed g_greatest g_least g_greatestNow g_leastNow s_order s_arriving s_unit s_flag s_forbidding s_most s_fewest) H → va_D A (wC a cI cZ cJ x_agesStand x_searchStands p_blocks p_lines p_edges p_pairs g_sets g_size g_penalty g_comeCount s_answered s_codes s_ordered p_times p_touchCounts p_touchSlots p_lineOfSlot p_from p_to p_bounds p_pairA p_pairB p_leaving p_firstLeaving g_come g_outcomes g_greatestTimes g_leastTimes g_changed g_greatest g_least g_greatestNow g_leastNow s_order s_arriving s_unit s_flag s_forbidding s_most s_fewest) → va_S A s.heap H locs → ∀ (ls : Array Slot), lv_has ls 3 [(0, .ref (a 1)), (1, .int v1), (2, .int v2_2)] → W p l e (headSpec wsX2_isInPair rm_X2_isInPair).room s m ([Value.ref (a 1), Value.int v1] : List Value).toArray below meth c H locs 0 0 Qz (F0 m 2 ls []) := by
    intro n2
    induction n2 with
    | zero => intro v2_2 h; exact h.elim
    | succ n2 ih2 =>
      intro v2_2 h H locs hP hD hS ls hl
      unfold lp_X2_isInPair_2 at h
      refine lv_iload_n hx hb dX2_isInPair_2 rfl (lv_at hl 2 rfl) ?_
      refine lv_aload_n hx hb dX2_isInPair_3 rfl (lv_at hl 0 rfl) ?_
      refine va_get (D := D) (ci := 1) (v := .int p_pairs) (C := RX1) (T := TX1) (N := 15) hx hb hts hinX1 hown hK hP 1 rfl rfl 3 (by decide) (hts (.fieldLink RX2 73 "WorstPaths$Program" "pairs" "I") (by decide +kernel)) (fun _ h9 => h9) rfl dX2_isInPair_4 ?_
      refine lv_icmp_ge (tgt := 38) hx hb dX2_isInPair_7 (by decide) (fun hc => ?_) (fun hc => ?_)
      · replace h := h.1 hc
        refine lv_iconst (v := 0) hx hb dX2_isInPair_38 (by decide) ?_
        refine wz_mono hQz ?_
        exact W.zret (v := 0) hx hb hr rfl (fun t ht hW => ⟨⟨0, (), rfl, h, by rw [ht]; exact hP, va_K.moved hW.alike hK, hD⟩, hS.F ht⟩) hS.2.2 dX2_isInPair_39
      · replace h := h.2 hc
        refine lv_aload_n hx hb dX2_isInPair_10 rfl (lv_at hl 0 rfl) ?_
        refine va_get (D := D) (ci := 1) (v := .ref (a 11)) (C := RX1) (T := TX1) (N := 15) hx hb hts hinX1 hown hK hP 1 rfl rfl 11 (by decide) (hts (.fieldLink RX2 76 "WorstPaths$Program" "pairA" "[I") (by decide +kernel)) (fun _ h9 => h9) rfl dX2_isInPair_11 ?_
        refine lv_iload_n hx hb dX2_isInPair_14 rfl (lv_at hl 2 rfl) ?_
        obtain ⟨hq, h⟩ := h
        refine va_iald (D := D) hx hb hK hP 11 0 rfl rfl hq dX2_isInPair_15 ?_
        refine lv_iload_n hx hb dX2_isInPair_16 rfl (lv_at hl 1 rfl) ?_
        refine lv_icmp_eq (tgt := 30) hx hb dX2_isInPair_17 (by decide) (fun hc => ?_) (fun hc => ?_)
        · replace h := h.1 hc
          refine lv_iconst (v := 1) hx hb dX2_isInPair_30 (by decide) ?_
          refine wz_mono hQz ?_
          exact W.zret (v := 1) hx hb hr rfl (fun t ht hW => ⟨⟨1, (), rfl, h, by rw [ht]; exact hP, va_K.moved hW.alike hK, hD⟩, hS.F ht⟩) hS.2.2 dX2_isInPair_31
        · replace h := h.2 hc
          refine lv_aload_n hx hb dX2_isInPair_20 rfl (lv_at hl 0 rfl) ?_
          refine va_get (D := D) (ci := 1) (v := .ref (a 12)) (C := RX1) (T := TX1) (N := 15) hx hb hts hinX1 hown hK hP 1 rfl rfl 12 (by decide) (hts (.fieldLink RX2 79 "WorstPaths$Program" "pairB" "[I") (by decide +kernel)) (fun _ h9 => h9) rfl dX2_isInPair_21 ?_
          refine lv_iload_n hx hb dX2_isInPair_24 rfl (lv_at hl 2 rfl) ?_
          obtain ⟨hq, h⟩ := h
          refine va_iald (D := D) hx hb hK hP 12 0 rfl rfl hq dX2_isInPair_25 ?_
          refine lv_iload_n hx hb dX2_isInPair_26 rfl (lv_at hl 1 rfl) ?_
          refine lv_icmp_ne (tgt := 32) hx hb dX2_isInPair_27 (by decide) (fun hc => ?_) (fun hc => ?_)
          · replace h := h.1 hc
            refine lv_iinc (v := (v2_2 + 1)) (lv' := [(2, .int (v2_2 + 1)), (0, .ref (a 1)), (1, .int v1)]) hx hb dX2_isInPair_32 hl (k := 2) rfl rfl (by decide) rfl (fun ls hl => ?_)
            refine lv_goto (tgt := 2) hx hb dX2_isInPair_35 (by decide) ?_
            exact ih2 (v2_2 + 1) h _ _ hP hD hS _ (lv_sub hl [1, 2, 0] rfl)
          · replace h := h.2 hc
            refine lv_iconst (v := 1) hx hb dX2_isInPair_30 (by decide) ?_
            refine wz_mono hQz ?_
            exact W.zret (v := 1) hx hb hr rfl (fun t ht hW => ⟨⟨1, (), rfl, h, by rw [ht]; exact hP, va_K.moved hW.alike hK, hD⟩, hS.F ht⟩) hS.2.2 dX2_isInPair_31
  obtain ⟨k9, h⟩ := h
  exact LP2 k9 0 h _ _ hP hD hS _ (lv_sub hl [1, 2, 0] rfl)
def jn_X2_fitsInStates_42 (v2 : Int32) (v3 : Int32) (p_blocks : Int32) (p_edges : Int32) (p_pairs : Int32) (p_bounds : Nat → Int32) (p_pairA : Nat → Int32) (p_pairB : Nat → Int32) (K7 : Int32 → Int32 → Prop) (Q : Int32 → Prop) : Prop := wp_X2_isInPair v3 p_pairs p_pairA p_pairB (fun r_44 => (r_44 = 0 → K7 v2 (v3 + 1)) ∧ (¬ r_44 = 0 → K7 (v2 * 2) (v3 + 1)))
def lp_X2_fitsInStates_7 (p_blocks : Int32) (p_edges : Int32) (p_pairs : Int32) (p_bounds : Nat → Int32) (p_pairA : Nat → Int32) (p_pairB : Nat → Int32) (Q : Int32 → Prop) : Nat → Int32 → Int32 → Prop
  | 0, _, _ => False
  | n + 1, v2, v3 => (p_edges ≤ v3 → (40000 < v2 → Q 0) ∧ (¬ 40000 < v2 → Q 1)) ∧ (¬ p_edges ≤ v3 → (40000 < v2 → (40000 < v2 → Q 0) ∧ (¬ 40000 < v2 → Q 1)) ∧ (¬ 40000 < v2 → vp_in v3 80 ∧ (((p_bounds (Int32.toNatClampNeg v3)) = (-1) → jn_X2_fitsInStates_42 v2 v3 p_blocks p_edges p_pairs p_bounds p_pairA p_pairB (lp_X2_fitsInStates_7 p_blocks p_edges p_pairs p_bounds p_pairA p_pairB Q n) Q) ∧ (¬ (p_bounds (Int32.toNatClampNeg v3)) = (-1) → vp_in v3 80 ∧ (jn_X2_fitsInStates_42 (v2 * ((p_bounds (Int32.toNatClampNeg v3)) + 1)) v3 p_blocks p_edges p_pairs p_bounds p_pairA p_pairB (lp_X2_fitsInStates_7 p_blocks p_edges p_pairs p_bounds p_pairA p_pairB Q n) Q)))))
def wp_X2_fitsInStates (p_blocks : Int32) (p_edges : Int32) (p_pairs : Int32) (p_bounds : Nat → Int32) (p_pairA : Nat → Int32) (p_pairB : Nat → Int32) (Q : Int32 → Prop) : Prop := ∃ k7, lp_X2_fitsInStates_7 p_blocks p_edges p_pairs p_bounds p_pairA p_pairB Q k7 p_blocks 0
abbrev rm_X2_fitsInStates : Room := { frames := 1, cells := 0, slots := 0, locals := 22 }
set_option maxHeartbeats 4000000 in
set_option maxRecDepth 100000 in
theorem c_X2_fitsInStates (l : Launch) (D : va_G) (a : Nat → Nat) (cI : ClassId) (cZ : ClassId) (cJ : ClassId) (sz : Nat) (x_agesStand : Int32) (x_searchStands : Int32) (p_blocks : Int32) (p_lines : Int32) (p_edges : Int32) (p_pairs : Int32) (g_sets : Int32) (g_size : Int32) (g_penalty : Int32) (g_comeCount : Int32) (s_answered : Int32) (s_codes : Int32) (s_ordered : Int32) (p_times : Nat → Int32) (p_touchCounts : Nat → Int32) (p_touchSlots : Nat → Int32) (p_lineOfSlot : Nat → Int32) (p_from : Nat → Int32) (p_to : Nat → Int32) (p_bounds : Nat → Int32) (p_pairA : Nat → Int32) (p_pairB : Nat → Int32) (p_leaving : Nat → Int32) (p_firstLeaving : Nat → Int32) (g_come : Nat → Int32) (g_outcomes : Nat → Int32) (g_greatestTimes : Nat → Int32) (g_leastTimes : Nat → Int32) (g_changed : Nat → Int32) (g_greatest : Nat → Int32) (g_least : Nat → Int32) (g_greatestNow : Nat → Int32) (g_leastNow : Nat → Int32) (s_order : Nat → Int32) (s_arriving : Nat → Int32) (s_unit : Nat → Int32) (s_flag : Nat → Int32) (s_forbidding : Nat → Int32) (s_most : Nat → Int64) (s_fewest : Nat → Int64) (Q : Int32 → Prop) (h : wp_X2_fitsInStates p_blocks p_edges p_pairs p_bounds p_pairA p_pairB Q) : Met l yX2_fitsInStates wsX2_fitsInStates rm_X2_fitsInStates (va_Pc [.ref (a 3), .ref (a 1)] (inW D cI cZ cJ sz (wC a cI cZ cJ x_agesStand x_searchStands p_blocks p_lines p_edges p_pairs g_sets g_size g_penalty g_comeCount s_answered s_codes s_ordered p_times p_touchCounts p_touchSlots p_lineOfSlot p_from p_to p_bounds p_pairA p_pairB p_leaving p_firstLeaving g_come g_outcomes g_greatestTimes g_leastTimes g_changed g_greatest g_least g_greatestNow g_leastNow s_order s_arriving s_unit s_flag s_forbidding s_most s_fewest))) (va_Qi (fun (r : Int32) (u : Unit) => Q r) (fun (u : Unit) => outW D cI cZ cJ (va_A (wC a cI cZ cJ x_agesStand x_searchStands p_blocks p_lines p_edges p_pairs g_sets g_size g_penalty g_comeCount s_answered s_codes s_ordered p_times p_touchCounts p_touchSlots p_lineOfSlot p_from p_to p_bounds p_pairA p_pairB p_leaving p_firstLeaving g_come g_outcomes g_greatestTimes g_leastTimes g_changed g_greatest g_least g_greatestNow g_leastNow s_order s_arriving s_unit s_flag s_forbidding s_most s_fewest) sz) (wC a cI cZ cJ x_agesStand x_searchStands p_blocks p_lines p_edges p_pairs g_sets g_size g_penalty g_comeCount s_answered s_codes s_ordered p_times p_touchCounts p_touchSlots p_lineOfSlot p_from p_to p_bounds p_pairA p_pairB p_leaving p_firstLeaving g_come g_outcomes g_greatestTimes g_leastTimes g_changed g_greatest g_least g_greatestNow g_leastNow s_order s_arriving s_unit s_flag s_forbidding s_most s_fewest)) (va_A (wC a cI cZ cJ x_agesStand x_searchStands p_blocks p_lines p_edges p_pairs g_sets g_size g_penalty g_comeCount s_answered s_codes s_ordered p_times p_touchCounts p_touchSlots p_lineOfSlot p_from p_to p_bounds p_pairA p_pairB p_leaving p_firstLeaving g_come g_outcomes g_greatestTimes g_leastTimes g_changed g_greatest g_least g_greatestNow g_leastNow s_order s_arriving s_unit s_flag s_forbidding s_most s_fewest) sz)) 0 0 (va_A (wC a cI cZ cJ x_agesStand x_searchStands p_blocks p_lines p_edges p_pairs g_sets g_size g_penalty g_comeCount s_answered s_codes s_ordered p_times p_touchCounts p_touchSlots p_lineOfSlot p_from p_to p_bounds p_pairA p_pairB p_leaving p_firstLeaving g_come g_outcomes g_greatestTimes g_leastTimes g_changed g_greatest g_least g_greatestNow g_leastNow s_order s_arriving s_unit s_flag s_forbidding s_most s_fewest) sz) := by
  refine Met.ofW (cc := cX2_fitsInStates) (maxL := 4) (ret := (some .boolean)) (by decide +kernel) rfl ?_
  intro p e s m args below meth c s₁ B hml hv
  obtain ⟨rfl, hsz, hP, hK, hD0⟩ := hv
  have hx := B.exec
  have hb := B.bytes
  have hr := B.returns
  have hts := atoms_spec (ws := wsX2_fitsInStates) B.pre
  have hown : s.vm.findClass RX2 = some m.cls := findClass_of_methodNamed B.named
  have hlocks := B.notSynchronized
  have hinX1 : ∀ w ∈ wsX10, w ∈ wsX2_fitsInStates := by decide +kernel
  subst hsz
  have hD := hD0.self (sz := s.heap.size)
  generalize hAe : va_A (wC a cI cZ cJ x_agesStand x_searchStands p_blocks p_lines p_edges p_pairs g_sets g_size g_penalty g_comeCount s_answered s_codes s_ordered p_times p_touchCounts p_touchSlots p_lineOfSlot p_from p_to p_bounds p_pairA p_pairB p_leaving p_firstLeaving g_come g_outcomes g_greatestTimes g_leastTimes g_changed g_greatest g_least g_greatestNow g_leastNow s_order s_arriving s_unit s_flag s_forbidding s_most s_fewest) s.heap.size = A at hD ⊢
  have hA : ∀ q : Nat, s.heap.size ≤ q → A q := fun q h => by rw [← hAe]; exact Or.inr h
  have hS : va_S A s.heap s.heap [] := va_S.rf
  have hP : va_P D vwCl (wC a cI cZ cJ x_agesStand x_searchStands p_blocks p_lines p_edges p_pairs g_sets g_size g_penalty g_comeCount s_answered s_codes s_ordered p_times p_touchCounts p_touchSlots p_lineOfSlot p_from p_to p_bounds p_pairA p_pairB p_leaving p_firstLeaving g_come g_outcomes g_greatestTimes g_leastTimes g_changed g_greatest g_least g_greatestNow g_leastNow s_order s_arriving s_unit s_flag s_forbidding s_most s_fewest) s.heap := hP
  have hl := lv_entry ([.ref (a 3), .ref (a 1)]) (n := 4) (Nat.le_of_ble_eq_true rfl)
  rw [lg_entry_eq]
  generalize (lg_sl ([.ref (a 3), .ref (a 1)]) ++ List.replicate (4 - (lg_sl ([.ref (a 3), .ref (a 1)])).length) Slot.unset).toArray = ls at hl ⊢
  have hl : lv_has ls 4 [(0, .ref (a 3)), (1, .ref (a 1))] := hl
  refine wz_abs (fun Qz hQz => ?_)
  unfold wp_X2_fitsInStates at h
  refine lv_aload_n hx hb dX2_fitsInStates_0 rfl (lv_at hl 1 rfl) ?_
  refine va_get (D := D) (ci := 1) (v := .int p_blocks) (C := RX1) (T := TX1) (N := 15) hx hb hts hinX1 hown hK hP 1 rfl rfl 0 (by decide) (hts (.fieldLink RX2 39 "WorstPaths$Program" "blocks" "I") (by decide +kernel)) (fun _ h9 => h9) rfl dX2_fitsInStates_1 ?_
  refine lv_istore_n (lv' := [(2, .int p_blocks), (0, .ref (a 3)), (1, .ref (a 1))]) hx hb dX2_fitsInStates_4 rfl hl (by decide) rfl (fun ls hl => ?_)
  refine lv_iconst (v := 0) hx hb dX2_fitsInStates_5 (by decide) ?_
  refine lv_istore_n (lv' := [(3, .int 0), (2, .int p_blocks), (0, .ref (a 3)), (1, .ref (a 1))]) hx hb dX2_fitsInStates_6 rfl hl (by decide) rfl (fun ls hl => ?_)
  have LP7 : ∀ (n7 : Nat) (v2_7 : Int32) (v3_7 : Int32), lp_X2_fitsInStates_7 p_blocks p_edges p_pairs p_bounds p_pairA p_pairB Q n7 v2_7 v3_7 → ∀ (H : Heap) (locs : List Loc), va_P D vwCl (wC a cI cZ cJ x_agesStand x_searchStands p_blocks p_lines p_edges p_pairs g_sets g_size g_penalty g_comeCount s_answered s_codes s_ordered p_times p_touchCounts p_touchSlots p_lineOfSlot p_from p_to p_bounds p_pairA p_pairB p_leaving p_firstLeaving g_come g_outcomes g_greatestTimes g_leastTimes g_changed g_greatest g_least g_greatestNow g_leastNow s_order s_arriving s_unit s_flag s_forbidding s_most s_fewest) H → va_D A (wC a cI cZ cJ x_agesStand x_searchStands p_blocks p_lines p_edges p_pairs g_sets g_size g_penalty g_comeCount s_answered s_codes s_ordered p_times p_touchCounts p_touchSlots p_lineOfSlot p_from p_to p_bounds p_pairA p_pairB p_leaving p_firstLeaving g_come g_outcomes g_greatestTimes g_leastTimes g_changed g_greatest g_least g_greatestNow g_leastNow s_order s_arriving s_unit s_flag s_forbidding s_most s_fewest) → va_S A s.heap H locs → ∀ (ls : Array Slot), lv_has ls 4 [(1, .ref (a 1)), (2, .int v2_7), (3, .int v3_7)] → W p l e (headSpec wsX2_fitsInStates rm_X2_fitsInStates).room s m ([Value.ref (a 3), Value.ref (a 1)] : List Value).toArray below meth c H locs 0 0 Qz (F0 m 7 ls []) := by
    intro n7
    induction n7 with
    | zero => intro v2_7 v3_7 h; exact h.elim
    | succ n7 ih7 =>
      intro v2_7 v3_7 h H locs hP hD hS ls hl
      unfold lp_X2_fitsInStates_7 at h
      refine lv_iload_n hx hb dX2_fitsInStates_7 rfl (lv_at hl 2 rfl) ?_
      refine lv_aload_n hx hb dX2_fitsInStates_8 rfl (lv_at hl 0 rfl) ?_
      refine va_get (D := D) (ci := 1) (v := .int p_edges) (C := RX1) (T := TX1) (N := 15) hx hb hts hinX1 hown hK hP 1 rfl rfl 2 (by decide) (hts (.fieldLink RX2 63 "WorstPaths$Program" "edges" "I") (by decide +kernel)) (fun _ h9 => h9) rfl dX2_fitsInStates_9 ?_
      refine lv_icmp_ge (tgt := 60) hx hb dX2_fitsInStates_12 (by decide) (fun hc => ?_) (fun hc => ?_)
      · replace h := h.1 hc
        refine lv_iload_n hx hb dX2_fitsInStates_60 rfl (lv_at hl 1 rfl) ?_
        refine lv_ldc (v := 40000) hx hb hown (hts (.constant RX2 27 (40000)) (by decide +kernel)) dX2_fitsInStates_61 ?_
        refine lv_icmp_gt (tgt := 70) hx hb dX2_fitsInStates_63 (by decide) (fun hc => ?_) (fun hc => ?_)
        · replace h := h.1 hc
          refine lv_iconst (v := 0) hx hb dX2_fitsInStates_70 (by decide) ?_
          refine wz_mono hQz ?_
          exact W.zret (v := 0) hx hb hr rfl (fun t ht hW => ⟨⟨0, (), rfl, h, by rw [ht]; exact hP, va_K.moved hW.alike hK, hD⟩, hS.F ht⟩) hS.2.2 dX2_fitsInStates_71
        · replace h := h.2 hc
          refine lv_iconst (v := 1) hx hb dX2_fitsInStates_66 (by decide) ?_
          refine lv_goto (tgt := 71) hx hb dX2_fitsInStates_67 (by decide) ?_
          refine wz_mono hQz ?_
          exact W.zret (v := 1) hx hb hr rfl (fun t ht hW => ⟨⟨1, (), rfl, h, by rw [ht]; exact hP, va_K.moved hW.alike hK, hD⟩, hS.F ht⟩) hS.2.2 dX2_fitsInStates_71
      · replace h := h.2 hc
        refine lv_iload_n hx hb dX2_fitsInStates_15 rfl (lv_at hl 1 rfl) ?_
        refine lv_ldc (v := 40000) hx hb hown (hts (.constant RX2 27 (40000)) (by decide +kernel)) dX2_fitsInStates_16 ?_
        refine lv_icmp_gt (tgt := 60) hx hb dX2_fitsInStates_18 (by decide) (fun hc => ?_) (fun hc => ?_)
        · replace h := h.1 hc
          refine lv_iload_n hx hb dX2_fitsInStates_60 rfl (lv_at hl 1 rfl) ?_
          refine lv_ldc (v := 40000) hx hb hown (hts (.constant RX2 27 (40000)) (by decide +kernel)) dX2_fitsInStates_61 ?_
          refine lv_icmp_gt (tgt := 70) hx hb dX2_fitsInStates_63 (by decide) (fun hc => ?_) (fun hc => ?_)
          · replace h := h.1 hc
            refine lv_iconst (v := 0) hx hb dX2_fitsInStates_70 (by decide) ?_
            refine wz_mono hQz ?_
            exact W.zret (v := 0) hx hb hr rfl (fun t ht hW => ⟨⟨0, (), rfl, h, by rw [ht]; exact hP, va_K.moved hW.alike hK, hD⟩, hS.F ht⟩) hS.2.2 dX2_fitsInStates_71
          · replace h := h.2 hc
            refine lv_iconst (v := 1) hx hb dX2_fitsInStates_66 (by decide) ?_
            refine lv_goto (tgt := 71) hx hb dX2_fitsInStates_67 (by decide) ?_
            refine wz_mono hQz ?_
            exact W.zret (v := 1) hx hb hr rfl (fun t ht hW => ⟨⟨1, (), rfl, h, by rw [ht]; exact hP, va_K.moved hW.alike hK, hD⟩, hS.F ht⟩) hS.2.2 dX2_fitsInStates_71
        · replace h := h.2 hc
          refine lv_aload_n hx hb dX2_fitsInStates_21 rfl (lv_at hl 0 rfl) ?_
          refine va_get (D := D) (ci := 1) (v := .ref (a 10)) (C := RX1) (T := TX1) (N := 15) hx hb hts hinX1 hown hK hP 1 rfl rfl 10 (by decide) (hts (.fieldLink RX2 66 "WorstPaths$Program" "bounds" "[I") (by decide +kernel)) (fun _ h9 => h9) rfl dX2_fitsInStates_22 ?_
          refine lv_iload_n hx hb dX2_fitsInStates_25 rfl (lv_at hl 2 rfl) ?_
          obtain ⟨hq, h⟩ := h
          refine va_iald (D := D) hx hb hK hP 10 0 rfl rfl hq dX2_fitsInStates_26 ?_
          refine lv_iconst (v := (-1)) hx hb dX2_fitsInStates_27 (by decide) ?_
          have JP42 : ∀ (v2_42 : Int32), jn_X2_fitsInStates_42 v2_42 v3_7 p_blocks p_edges p_pairs p_bounds p_pairA p_pairB (lp_X2_fitsInStates_7 p_blocks p_edges p_pairs p_bounds p_pairA p_pairB Q n7) Q → ∀ (H : Heap) (locs : List Loc), va_P D vwCl (wC a cI cZ cJ x_agesStand x_searchStands p_blocks p_lines p_edges p_pairs g_sets g_size g_penalty g_comeCount s_answered s_codes s_ordered p_times p_touchCounts p_touchSlots p_lineOfSlot p_from p_to p_bounds p_pairA p_pairB p_leaving p_firstLeaving g_come g_outcomes g_greatestTimes g_leastTimes g_changed g_greatest g_least g_greatestNow g_leastNow s_order s_arriving s_unit s_flag s_forbidding s_most s_fewest) H → va_D A (wC a cI cZ cJ x_agesStand x_searchStands p_blocks p_lines p_edges p_pairs g_sets g_size g_penalty g_comeCount s_answered s_codes s_ordered p_times p_touchCounts p_touchSlots p_lineOfSlot p_from p_to p_bounds p_pairA p_pairB p_leaving p_firstLeaving g_come g_outcomes g_greatestTimes g_leastTimes g_changed g_greatest g_least g_greatestNow g_leastNow s_order s_arriving s_unit s_flag s_forbidding s_most s_fewest) → va_S A s.heap H locs → ∀ (ls : Array Slot), lv_has ls 4 [(1, .ref (a 1)), (2, .int v2_42), (3, .int v3_7)] → W p l e (headSpec wsX2_fitsInStates rm_X2_fitsInStates).room s m ([Value.ref (a 3), Value.ref (a 1)] : List Value).toArray below meth c H locs 0 0 Qz (F0 m 42 ls []) := by
            intro v2_42 h H locs hP hD hS ls hl
            unfold jn_X2_fitsInStates_42 at h
            refine lv_aload_n hx hb dX2_fitsInStates_42 rfl (lv_at hl 0 rfl) ?_
            refine lv_iload_n hx hb dX2_fitsInStates_43 rfl (lv_at hl 2 rfl) ?_
            have hF := wz_free hD hS hA
            refine va_calli (va_runS (As := [.ref (a 1), .int v3_7]) (rest := []) ⟨hx, hb, hml, hown, hts⟩ (c_X2_isInPair l D a cI cZ cJ _ x_agesStand x_searchStands p_blocks p_lines p_edges p_pairs g_sets g_size g_penalty g_comeCount s_answered s_codes s_ordered p_times p_touchCounts p_touchSlots p_lineOfSlot p_from p_to p_bounds p_pairA p_pairB p_leaving p_firstLeaving g_come g_outcomes g_greatestTimes g_leastTimes g_changed g_greatest g_least g_greatestNow g_leastNow s_order s_arriving s_unit s_flag s_forbidding s_most s_fewest v3_7 _ h) (va_cwS 2 hts gX2_fitsInStates_X2_isInPair rfl rfl rfl (by decide +kernel) ⟨Nat.le_of_ble_eq_true rfl, Nat.le_of_ble_eq_true rfl⟩) ⟨wz_blind, fun U hU hW => wz_at hU hW hP hK hD⟩ rfl rfl hl.1 rfl (lv_room (Nat.le_of_ble_eq_true rfl)) dX2_fitsInStates_44 ⟨Nat.zero_le _, Nat.zero_le _⟩) hS (fun q _ hq => hF q hq) hF (fun r_44 u t H locs ht hvm h hB hz1 hk1 hS => ?_)
            obtain ⟨hP, -, hD⟩ := wz_back ht hF hB
            have hP : va_P D vwCl (wC a cI cZ cJ x_agesStand x_searchStands p_blocks p_lines p_edges p_pairs g_sets g_size g_penalty g_comeCount s_answered s_codes s_ordered p_times p_touchCounts p_touchSlots p_lineOfSlot p_from p_to p_bounds p_pairA p_pairB p_leaving p_firstLeaving g_come g_outcomes g_greatestTimes g_leastTimes g_changed g_greatest g_least g_greatestNow g_leastNow s_order s_arriving s_unit s_flag s_forbidding s_most s_fewest) H := hP
            have hD : va_D A (wC a cI cZ cJ x_agesStand x_searchStands p_blocks p_lines p_edges p_pairs g_sets g_size g_penalty g_comeCount s_answered s_codes s_ordered p_times p_touchCounts p_touchSlots p_lineOfSlot p_from p_to p_bounds p_pairA p_pairB p_leaving p_firstLeaving g_come g_outcomes g_greatestTimes g_leastTimes g_changed g_greatest g_least g_greatestNow g_leastNow s_order s_arriving s_unit s_flag s_forbidding s_most s_fewest) := hD
            refine lv_if_eq (tgt := 54) hx hb dX2_fitsInStates_47 (by decide) (fun hc => ?_) (fun hc => ?_)
            · replace h := h.1 hc
              refine lv_iinc (v := (v3_7 + 1)) (lv' := [(3, .int (v3_7 + 1)), (1, .ref (a 1)), (2, .int v2_42)]) hx hb dX2_fitsInStates_54 hl (k := 2) rfl rfl (by decide) rfl (fun ls hl => ?_)
              refine lv_goto (tgt := 7) hx hb dX2_fitsInStates_57 (by decide) ?_
              exact ih7 v2_42 (v3_7 + 1) h _ _ hP hD hS _ (lv_sub hl [1, 2, 0] rfl)
            · replace h := h.2 hc
              refine lv_iload_n hx hb dX2_fitsInStates_50 rfl (lv_at hl 1 rfl) ?_
              refine lv_iconst (v := 2) hx hb dX2_fitsInStates_51 (by decide) ?_
              refine lv_imul hx hb dX2_fitsInStates_52 ?_
              refine lv_istore_n (lv' := [(2, .int (v2_42 * 2)), (1, .ref (a 1)), (3, .int v3_7)]) hx hb dX2_fitsInStates_53 rfl hl (by decide) rfl (fun ls hl => ?_)
              refine lv_iinc (v := (v3_7 + 1)) (lv' := [(3, .int (v3_7 + 1)), (2, .int (v2_42 * 2)), (1, .ref (a 1))]) hx hb dX2_fitsInStates_54 hl (k := 2) rfl rfl (by decide) rfl (fun ls hl => ?_)
              refine lv_goto (tgt := 7) hx hb dX2_fitsInStates_57 (by decide) ?_
              exact ih7 (v2_42 * 2) (v3_7 + 1) h _ _ hP hD hS _ (lv_sub hl [2, 1, 0] rfl)
          refine lv_icmp_eq (tgt := 42) hx hb dX2_fitsInStates_28 (by decide) (fun hc => ?_) (fun hc => ?_)
          · replace h := h.1 hc
            exact JP42 v2_7 h _ _ hP hD hS _ (lv_sub hl [0, 1, 2] rfl)
          · replace h := h.2 hc
            refine lv_iload_n hx hb dX2_fitsInStates_31 rfl (lv_at hl 1 rfl) ?_
            refine lv_aload_n hx hb dX2_fitsInStates_32 rfl (lv_at hl 0 rfl) ?_
            refine va_get (D := D) (ci := 1) (v := .ref (a 10)) (C := RX1) (T := TX1) (N := 15) hx hb hts hinX1 hown hK hP 1 rfl rfl 10 (by decide) (hts (.fieldLink RX2 66 "WorstPaths$Program" "bounds" "[I") (by decide +kernel)) (fun _ h9 => h9) rfl dX2_fitsInStates_33 ?_
            refine lv_iload_n hx hb dX2_fitsInStates_36 rfl (lv_at hl 2 rfl) ?_
            obtain ⟨hq, h⟩ := h
            refine va_iald (D := D) hx hb hK hP 10 0 rfl rfl hq dX2_fitsInStates_37 ?_
            refine lv_iconst (v := 1) hx hb dX2_fitsInStates_38 (by decide) ?_
            refine lv_iadd hx hb dX2_fitsInStates_39 ?_
            refine lv_imul hx hb dX2_fitsInStates_40 ?_
            refine lv_istore_n (lv' := [(2, .int (v2_7 * ((p_bounds (Int32.toNatClampNeg v3_7)) + 1))), (1, .ref (a 1)), (3, .int v3_7)]) hx hb dX2_fitsInStates_41 rfl hl (by decide) rfl (fun ls hl => ?_)
            exact JP42 (v2_7 * ((p_bounds (Int32.toNatClampNeg v3_7)) + 1)) h _ _ hP hD hS _ (lv_sub hl [1, 0, 2] rfl)
  obtain ⟨k9, h⟩ := h
  exact LP7 k9 p_blocks 0 h _ _ hP hD hS _ (lv_sub hl [3, 1, 0] rfl)
def lp_X2_countArriving_10 (p_edges : Int32) (p_from : Nat → Int32) (p_to : Nat → Int32) (p_bounds : Nat → Int32) (g_come : Nat → Int32) (Q : (Nat → Int32) → Prop) : Nat → Int32 → (Nat → Int32) → Prop
  | 0, _, _ => False
  | n + 1, v3, s_arriving => (p_edges ≤ v3 → Q s_arriving) ∧ (¬ p_edges ≤ v3 → vp_in v3 80 ∧ ((¬ (p_bounds (Int32.toNatClampNeg v3)) = (-1) → (lp_X2_countArriving_10 p_edges p_from p_to p_bounds g_come Q n) (v3 + 1) s_arriving) ∧ ((p_bounds (Int32.toNatClampNeg v3)) = (-1) → vp_in v3 80 ∧ (vp_in (p_from (Int32.toNatClampNeg v3)) 40 ∧ (((g_come (Int32.toNatClampNeg (p_from (Int32.toNatClampNeg v3)))) = 0 → (lp_X2_countArriving_10 p_edges p_from p_to p_bounds g_come Q n) (v3 + 1) s_arriving) ∧ (¬ (g_come (Int32.toNatClampNeg (p_from (Int32.toNatClampNeg v3)))) = 0 → vp_in v3 80 ∧ (vp_in (p_to (Int32.toNatClampNeg v3)) 40 ∧ (vp_in (p_to (Int32.toNatClampNeg v3)) 40 ∧ ((lp_X2_countArriving_10 p_edges p_from p_to p_bounds g_come Q n) (v3 + 1) (upd s_arriving (Int32.toNatClampNeg (p_to (Int32.toNatClampNeg v3))) ((s_arriving (Int32.toNatClampNeg (p_to (Int32.toNatClampNeg v3)))) + 1)))))))))))
def wp_X2_countArriving (p_edges : Int32) (p_from : Nat → Int32) (p_to : Nat → Int32) (p_bounds : Nat → Int32) (g_come : Nat → Int32) (s_arriving : Nat → Int32) (Q : (Nat → Int32) → Prop) : Prop := ∃ k10, lp_X2_countArriving_10 p_edges p_from p_to p_bounds g_come Q k10 0 (filled s_arriving 40 0)
abbrev rm_X2_countArriving : Room := { frames := 1, cells := 0, slots := 0, locals := 23 }
set_option maxHeartbeats 4000000 in
set_option maxRecDepth 100000 in
theorem c_X2_countArriving (l : Launch) (D : va_G) (a : Nat → Nat) (cI : ClassId) (cZ : ClassId) (cJ : ClassId) (sz : Nat) (x_agesStand : Int32) (x_searchStands : Int32) (p_blocks : Int32) (p_lines : Int32) (p_edges : Int32) (p_pairs : Int32) (g_sets : Int32) (g_size : Int32) (g_penalty : Int32) (g_comeCount : Int32) (s_answered : Int32) (s_codes : Int32) (s_ordered : Int32) (p_times : Nat → Int32) (p_touchCounts : Nat → Int32) (p_touchSlots : Nat → Int32) (p_lineOfSlot : Nat → Int32) (p_from : Nat → Int32) (p_to : Nat → Int32) (p_bounds : Nat → Int32) (p_pairA : Nat → Int32) (p_pairB : Nat → Int32) (p_leaving : Nat → Int32) (p_firstLeaving : Nat → Int32) (g_come : Nat → Int32) (g_outcomes : Nat → Int32) (g_greatestTimes : Nat → Int32) (g_leastTimes : Nat → Int32) (g_changed : Nat → Int32) (g_greatest : Nat → Int32) (g_least : Nat → Int32) (g_greatestNow : Nat → Int32) (g_leastNow : Nat → Int32) (s_order : Nat → Int32) (s_arriving : Nat → Int32) (s_unit : Nat → Int32) (s_flag : Nat → Int32) (s_forbidding : Nat → Int32) (s_most : Nat → Int64) (s_fewest : Nat → Int64) (Q : (Nat → Int32) → Prop) (h : wp_X2_countArriving p_edges p_from p_to p_bounds g_come s_arriving Q) : Met l yX2_countArriving wsX2_countArriving rm_X2_countArriving (va_Pc [.ref (a 3), .ref (a 1), .ref (a 2)] (inW D cI cZ cJ sz (wC a cI cZ cJ x_agesStand x_searchStands p_blocks p_lines p_edges p_pairs g_sets g_size g_penalty g_comeCount s_answered s_codes s_ordered p_times p_touchCounts p_touchSlots p_lineOfSlot p_from p_to p_bounds p_pairA p_pairB p_leaving p_firstLeaving g_come g_outcomes g_greatestTimes g_leastTimes g_changed g_greatest g_least g_greatestNow g_leastNow s_order s_arriving s_unit s_flag s_forbidding s_most s_fewest))) (va_Qv (fun (u : (Nat → Int32)) => Q u) (fun (u : (Nat → Int32)) => outW D cI cZ cJ (va_A (wC a cI cZ cJ x_agesStand x_searchStands p_blocks p_lines p_edges p_pairs g_sets g_size g_penalty g_comeCount s_answered s_codes s_ordered p_times p_touchCounts p_touchSlots p_lineOfSlot p_from p_to p_bounds p_pairA p_pairB p_leaving p_firstLeaving g_come g_outcomes g_greatestTimes g_leastTimes g_changed g_greatest g_least g_greatestNow g_leastNow s_order s_arriving s_unit s_flag s_forbidding s_most s_fewest) sz) (wC a cI cZ cJ x_agesStand x_searchStands p_blocks p_lines p_edges p_pairs g_sets g_size g_penalty g_comeCount s_answered s_codes s_ordered p_times p_touchCounts p_touchSlots p_lineOfSlot p_from p_to p_bounds p_pairA p_pairB p_leaving p_firstLeaving g_come g_outcomes g_greatestTimes g_leastTimes g_changed g_greatest g_least g_greatestNow g_leastNow s_order u s_unit s_flag s_forbidding s_most s_fewest)) (va_A (wC a cI cZ cJ x_agesStand x_searchStands p_blocks p_lines p_edges p_pairs g_sets g_size g_penalty g_comeCount s_answered s_codes s_ordered p_times p_touchCounts p_touchSlots p_lineOfSlot p_from p_to p_bounds p_pairA p_pairB p_leaving p_firstLeaving g_come g_outcomes g_greatestTimes g_leastTimes g_changed g_greatest g_least g_greatestNow g_leastNow s_order s_arriving s_unit s_flag s_forbidding s_most s_fewest) sz)) 0 0 (va_A (wC a cI cZ cJ x_agesStand x_searchStands p_blocks p_lines p_edges p_pairs g_sets g_size g_penalty g_comeCount s_answered s_codes s_ordered p_times p_touchCounts p_touchSlots p_lineOfSlot p_from p_to p_bounds p_pairA p_pairB p_leaving p_firstLeaving g_come g_outcomes g_greatestTimes g_leastTimes g_changed g_greatest g_least g_greatestNow g_leastNow s_order s_arriving s_unit s_flag s_forbidding s_most s_fewest) sz) := by
  refine Met.ofW (cc := cX2_countArriving) (maxL := 4) (ret := none) (by decide +kernel) rfl ?_
  intro p e s m args below meth c s₁ B hml hv
  obtain ⟨rfl, hsz, hP, hK, hD0⟩ := hv
  have hx := B.exec
  have hb := B.bytes
  have hr := B.returns
  have hts := atoms_spec (ws := wsX2_countArriving) B.pre
  have hown : s.vm.findClass RX2 = some m.cls := findClass_of_methodNamed B.named
  have hlocks := B.notSynchronized
  have hinX0 : ∀ w ∈ wsX00, w ∈ wsX2_countArriving := by decide +kernel
  have hinX1 : ∀ w ∈ wsX10, w ∈ wsX2_countArriving := by decide +kernel
  have hinX2 : ∀ w ∈ wsX20, w ∈ wsX2_countArriving := by decide +kernel
  subst hsz
  have hD := hD0.self (sz := s.heap.size)
  generalize hAe : va_A (wC a cI cZ cJ x_agesStand x_searchStands p_blocks p_lines p_edges p_pairs g_sets g_size g_penalty g_comeCount s_answered s_codes s_ordered p_times p_touchCounts p_touchSlots p_lineOfSlot p_from p_to p_bounds p_pairA p_pairB p_leaving p_firstLeaving g_come g_outcomes g_greatestTimes g_leastTimes g_changed g_greatest g_least g_greatestNow g_leastNow s_order s_arriving s_unit s_flag s_forbidding s_most s_fewest) s.heap.size = A at hD ⊢
  have hA : ∀ q : Nat, s.heap.size ≤ q → A q := fun q h => by rw [← hAe]; exact Or.inr h
  have hS : va_S A s.heap s.heap [] := va_S.rf
  have hP : va_P D vwCl (wC a cI cZ cJ x_agesStand x_searchStands p_blocks p_lines p_edges p_pairs g_sets g_size g_penalty g_comeCount s_answered s_codes s_ordered p_times p_touchCounts p_touchSlots p_lineOfSlot p_from p_to p_bounds p_pairA p_pairB p_leaving p_firstLeaving g_come g_outcomes g_greatestTimes g_leastTimes g_changed g_greatest g_least g_greatestNow g_leastNow s_order s_arriving s_unit s_flag s_forbidding s_most s_fewest) s.heap := hP
  have hl := lv_entry ([.ref (a 3), .ref (a 1), .ref (a 2)]) (n := 4) (Nat.le_of_ble_eq_true rfl)
  rw [lg_entry_eq]
  generalize (lg_sl ([.ref (a 3), .ref (a 1), .ref (a 2)]) ++ List.replicate (4 - (lg_sl ([.ref (a 3), .ref (a 1), .ref (a 2)])).length) Slot.unset).toArray = ls at hl ⊢
  have hl : lv_has ls 4 [(0, .ref (a 3)), (1, .ref (a 1)), (2, .ref (a 2))] := hl
  refine wz_abs (fun Qz hQz => ?_)
  unfold wp_X2_countArriving at h
  refine lv_aload_n hx hb dX2_countArriving_0 rfl (lv_at hl 0 rfl) ?_
  refine va_get (D := D) (ci := 2) (v := .ref (a 25)) (C := RX2) (T := TX2) (N := 10) hx hb hts hinX2 hown hK hP 3 rfl rfl 4 (by decide) (hts (.fieldLink RX2 15 "WorstPaths$Search" "arriving" "[I") (by decide +kernel)) (fun _ h9 => h9) rfl dX2_countArriving_1 ?_
  refine lv_iconst (v := 0) hx hb dX2_countArriving_4 (by decide) ?_
  have hF := wz_free hD hS hA
  refine va_callv (va_runS (As := [.ref (a 25), .int 0]) (rest := []) ⟨hx, hb, hml, hown, hts⟩ (c_fill l D cI cZ cJ _ (wC a cI cZ cJ x_agesStand x_searchStands p_blocks p_lines p_edges p_pairs g_sets g_size g_penalty g_comeCount s_answered s_codes s_ordered p_times p_touchCounts p_touchSlots p_lineOfSlot p_from p_to p_bounds p_pairA p_pairB p_leaving p_firstLeaving g_come g_outcomes g_greatestTimes g_leastTimes g_changed g_greatest g_least g_greatestNow g_leastNow s_order s_arriving s_unit s_flag s_forbidding s_most s_fewest) 25 (a 25) 40 s_arriving 0 (by decide) rfl) (va_cwS 2 hts gX2_countArriving_J7_fill_53178 rfl rfl rfl (by decide +kernel) ⟨Nat.le_of_ble_eq_true rfl, Nat.le_of_ble_eq_true rfl⟩) ⟨wz_blind, fun U hU hW => wz_at hU hW hP hK hD⟩ rfl rfl hl.1 rfl (lv_room (Nat.le_of_ble_eq_true rfl)) dX2_countArriving_5 ⟨Nat.zero_le _, Nat.zero_le _⟩) hS (fun q _ hq => hF q hq) hF (fun u t H locs ht hvm hw hB hz1 hk1 hS => ?_)
  obtain ⟨hP, -, hD⟩ := wz_back ht hF hB
  have hP : va_P D vwCl (wC a cI cZ cJ x_agesStand x_searchStands p_blocks p_lines p_edges p_pairs g_sets g_size g_penalty g_comeCount s_answered s_codes s_ordered p_times p_touchCounts p_touchSlots p_lineOfSlot p_from p_to p_bounds p_pairA p_pairB p_leaving p_firstLeaving g_come g_outcomes g_greatestTimes g_leastTimes g_changed g_greatest g_least g_greatestNow g_leastNow s_order (filled s_arriving 40 0) s_unit s_flag s_forbidding s_most s_fewest) H := hP
  have hD : va_D A (wC a cI cZ cJ x_agesStand x_searchStands p_blocks p_lines p_edges p_pairs g_sets g_size g_penalty g_comeCount s_answered s_codes s_ordered p_times p_touchCounts p_touchSlots p_lineOfSlot p_from p_to p_bounds p_pairA p_pairB p_leaving p_firstLeaving g_come g_outcomes g_greatestTimes g_leastTimes g_changed g_greatest g_least g_greatestNow g_leastNow s_order (filled s_arriving 40 0) s_unit s_flag s_forbidding s_most s_fewest) := hD
  refine lv_iconst (v := 0) hx hb dX2_countArriving_8 (by decide) ?_
  refine lv_istore_n (lv' := [(3, .int 0), (0, .ref (a 3)), (1, .ref (a 1)), (2, .ref (a 2))]) hx hb dX2_countArriving_9 rfl hl (by decide) rfl (fun ls hl => ?_)
  have LP10 : ∀ (n10 : Nat) (v3_10 : Int32) (s_arriving_10 : Nat → Int32), lp_X2_countArriving_10 p_edges p_from p_to p_bounds g_come Q n10 v3_10 s_arriving_10 → ∀ (H : Heap) (locs : List Loc), va_P D vwCl (wC a cI cZ cJ x_agesStand x_searchStands p_blocks p_lines p_edges p_pairs g_sets g_size g_penalty g_comeCount s_answered s_codes s_ordered p_times p_touchCounts p_touchSlots p_lineOfSlot p_from p_to p_bounds p_pairA p_pairB p_leaving p_firstLeaving g_come g_outcomes g_greatestTimes g_leastTimes g_changed g_greatest g_least g_greatestNow g_leastNow s_order s_arriving_10 s_unit s_flag s_forbidding s_most s_fewest) H → va_D A (wC a cI cZ cJ x_agesStand x_searchStands p_blocks p_lines p_edges p_pairs g_sets g_size g_penalty g_comeCount s_answered s_codes s_ordered p_times p_touchCounts p_touchSlots p_lineOfSlot p_from p_to p_bounds p_pairA p_pairB p_leaving p_firstLeaving g_come g_outcomes g_greatestTimes g_leastTimes g_changed g_greatest g_least g_greatestNow g_leastNow s_order s_arriving_10 s_unit s_flag s_forbidding s_most s_fewest) → va_S A s.heap H locs → ∀ (ls : Array Slot), lv_has ls 4 [(0, .ref (a 3)), (1, .ref (a 1)), (2, .ref (a 2)), (3, .int v3_10)] → W p l e (headSpec wsX2_countArriving rm_X2_countArriving).room s m ([Value.ref (a 3), Value.ref (a 1), Value.ref (a 2)] : List Value).toArray below meth c H locs 0 0 Qz (F0 m 10 ls []) := by
    intro n10
    induction n10 with
    | zero => intro v3_10 s_arriving_10 h; exact h.elim
    | succ n10 ih10 =>
      intro v3_10 s_arriving_10 h H locs hP hD hS ls hl
      unfold lp_X2_countArriving_10 at h
      refine lv_iload_n hx hb dX2_countArriving_10 rfl (lv_at hl 3 rfl) ?_
      refine lv_aload_n hx hb dX2_countArriving_11 rfl (lv_at hl 1 rfl) ?_
      refine va_get (D := D) (ci := 1) (v := .int p_edges) (C := RX1) (T := TX1) (N := 15) hx hb hts hinX1 hown hK hP 1 rfl rfl 2 (by decide) (hts (.fieldLink RX2 63 "WorstPaths$Program" "edges" "I") (by decide +kernel)) (fun _ h9 => h9) rfl dX2_countArriving_12 ?_
      refine lv_icmp_ge (tgt := 63) hx hb dX2_countArriving_15 (by decide) (fun hc => ?_) (fun hc => ?_)
      · replace h := h.1 hc
        refine wz_mono hQz ?_
        exact W.vret hx hb hr (fun t ht hW => ⟨⟨(s_arriving_10), rfl, h, by rw [ht]; exact hP, va_K.moved hW.alike hK, hD⟩, hS.F ht⟩) hS.2.2 dX2_countArriving_63
      · replace h := h.2 hc
        refine lv_aload_n hx hb dX2_countArriving_18 rfl (lv_at hl 1 rfl) ?_
        refine va_get (D := D) (ci := 1) (v := .ref (a 10)) (C := RX1) (T := TX1) (N := 15) hx hb hts hinX1 hown hK hP 1 rfl rfl 10 (by decide) (hts (.fieldLink RX2 66 "WorstPaths$Program" "bounds" "[I") (by decide +kernel)) (fun _ h9 => h9) rfl dX2_countArriving_19 ?_
        refine lv_iload_n hx hb dX2_countArriving_22 rfl (lv_at hl 3 rfl) ?_
        obtain ⟨hq, h⟩ := h
        refine va_iald (D := D) hx hb hK hP 10 0 rfl rfl hq dX2_countArriving_23 ?_
        refine lv_iconst (v := (-1)) hx hb dX2_countArriving_24 (by decide) ?_
        refine lv_icmp_ne (tgt := 57) hx hb dX2_countArriving_25 (by decide) (fun hc => ?_) (fun hc => ?_)
        · replace h := h.1 hc
          refine lv_iinc (v := (v3_10 + 1)) (lv' := [(3, .int (v3_10 + 1)), (0, .ref (a 3)), (1, .ref (a 1)), (2, .ref (a 2))]) hx hb dX2_countArriving_57 hl (k := 3) rfl rfl (by decide) rfl (fun ls hl => ?_)
          refine lv_goto (tgt := 10) hx hb dX2_countArriving_60 (by decide) ?_
          exact ih10 (v3_10 + 1) s_arriving_10 h _ _ hP hD hS _ (lv_sub hl [1, 2, 3, 0] rfl)
        · replace h := h.2 hc
          refine lv_aload_n hx hb dX2_countArriving_28 rfl (lv_at hl 2 rfl) ?_
          refine va_get (D := D) (ci := 0) (v := .ref (a 15)) (C := RX0) (T := TX0) (N := 13) hx hb hts hinX0 hown hK hP 2 rfl rfl 3 (by decide) (hts (.fieldLink RX2 88 "WorstPaths$Ages" "come" "[Z") (by decide +kernel)) (fun _ h9 => h9) rfl dX2_countArriving_29 ?_
          refine lv_aload_n hx hb dX2_countArriving_32 rfl (lv_at hl 1 rfl) ?_
          refine va_get (D := D) (ci := 1) (v := .ref (a 8)) (C := RX1) (T := TX1) (N := 15) hx hb hts hinX1 hown hK hP 1 rfl rfl 8 (by decide) (hts (.fieldLink RX2 116 "WorstPaths$Program" "from" "[I") (by decide +kernel)) (fun _ h9 => h9) rfl dX2_countArriving_33 ?_
          refine lv_iload_n hx hb dX2_countArriving_36 rfl (lv_at hl 3 rfl) ?_
          obtain ⟨hq, h⟩ := h
          refine va_iald (D := D) hx hb hK hP 8 0 rfl rfl hq dX2_countArriving_37 ?_
          obtain ⟨hq, h⟩ := h
          refine va_zald (D := D) hx hb hK hP 15 1 rfl rfl hq dX2_countArriving_38 ?_
          refine lv_if_eq (tgt := 57) hx hb dX2_countArriving_39 (by decide) (fun hc => ?_) (fun hc => ?_)
          · replace h := h.1 hc
            refine lv_iinc (v := (v3_10 + 1)) (lv' := [(3, .int (v3_10 + 1)), (0, .ref (a 3)), (1, .ref (a 1)), (2, .ref (a 2))]) hx hb dX2_countArriving_57 hl (k := 3) rfl rfl (by decide) rfl (fun ls hl => ?_)
            refine lv_goto (tgt := 10) hx hb dX2_countArriving_60 (by decide) ?_
            exact ih10 (v3_10 + 1) s_arriving_10 h _ _ hP hD hS _ (lv_sub hl [1, 2, 3, 0] rfl)
          · replace h := h.2 hc
            refine lv_aload_n hx hb dX2_countArriving_42 rfl (lv_at hl 0 rfl) ?_
            refine va_get (D := D) (ci := 2) (v := .ref (a 25)) (C := RX2) (T := TX2) (N := 10) hx hb hts hinX2 hown hK hP 3 rfl rfl 4 (by decide) (hts (.fieldLink RX2 15 "WorstPaths$Search" "arriving" "[I") (by decide +kernel)) (fun _ h9 => h9) rfl dX2_countArriving_43 ?_
            refine lv_aload_n hx hb dX2_countArriving_46 rfl (lv_at hl 1 rfl) ?_
            refine va_get (D := D) (ci := 1) (v := .ref (a 9)) (C := RX1) (T := TX1) (N := 15) hx hb hts hinX1 hown hK hP 1 rfl rfl 9 (by decide) (hts (.fieldLink RX2 104 "WorstPaths$Program" "to" "[I") (by decide +kernel)) (fun _ h9 => h9) rfl dX2_countArriving_47 ?_
            refine lv_iload_n hx hb dX2_countArriving_50 rfl (lv_at hl 3 rfl) ?_
            obtain ⟨hq, h⟩ := h
            refine va_iald (D := D) hx hb hK hP 9 0 rfl rfl hq dX2_countArriving_51 ?_
            refine lv_dup2_11 hx hb dX2_countArriving_52 rfl rfl ?_
            obtain ⟨hq, h⟩ := h
            refine va_iald (D := D) hx hb hK hP 25 0 rfl rfl hq dX2_countArriving_53 ?_
            refine lv_iconst (v := 1) hx hb dX2_countArriving_54 (by decide) ?_
            refine lv_iadd hx hb dX2_countArriving_55 ?_
            obtain ⟨hq, h⟩ := h
            refine va_iast (D := D) hx hb hK hP hD hS 25 0 rfl rfl hq dX2_countArriving_56 (fun H locs hP hD hS => ?_)
            have hP : va_P D vwCl (wC a cI cZ cJ x_agesStand x_searchStands p_blocks p_lines p_edges p_pairs g_sets g_size g_penalty g_comeCount s_answered s_codes s_ordered p_times p_touchCounts p_touchSlots p_lineOfSlot p_from p_to p_bounds p_pairA p_pairB p_leaving p_firstLeaving g_come g_outcomes g_greatestTimes g_leastTimes g_changed g_greatest g_least g_greatestNow g_leastNow s_order (upd s_arriving_10 (Int32.toNatClampNeg (p_to (Int32.toNatClampNeg v3_10))) ((s_arriving_10 (Int32.toNatClampNeg (p_to (Int32.toNatClampNeg v3_10)))) + 1)) s_unit s_flag s_forbidding s_most s_fewest) H := hP
            have hD : va_D A (wC a cI cZ cJ x_agesStand x_searchStands p_blocks p_lines p_edges p_pairs g_sets g_size g_penalty g_comeCount s_answered s_codes s_ordered p_times p_touchCounts p_touchSlots p_lineOfSlot p_from p_to p_bounds p_pairA p_pairB p_leaving p_firstLeaving g_come g_outcomes g_greatestTimes g_leastTimes g_changed g_greatest g_least g_greatestNow g_leastNow s_order (upd s_arriving_10 (Int32.toNatClampNeg (p_to (Int32.toNatClampNeg v3_10))) ((s_arriving_10 (Int32.toNatClampNeg (p_to (Int32.toNatClampNeg v3_10)))) + 1)) s_unit s_flag s_forbidding s_most s_fewest) := hD
            refine lv_iinc (v := (v3_10 + 1)) (lv' := [(3, .int (v3_10 + 1)), (0, .ref (a 3)), (1, .ref (a 1)), (2, .ref (a 2))]) hx hb dX2_countArriving_57 hl (k := 3) rfl rfl (by decide) rfl (fun ls hl => ?_)
            refine lv_goto (tgt := 10) hx hb dX2_countArriving_60 (by decide) ?_
            exact ih10 (v3_10 + 1) (upd s_arriving_10 (Int32.toNatClampNeg (p_to (Int32.toNatClampNeg v3_10))) ((s_arriving_10 (Int32.toNatClampNeg (p_to (Int32.toNatClampNeg v3_10)))) + 1)) h _ _ hP hD hS _ (lv_sub hl [1, 2, 3, 0] rfl)
  obtain ⟨k9, h⟩ := h
  exact LP10 k9 0 (filled s_arriving 40 0) h _ _ hP hD hS _ (lv_sub hl [1, 2, 3, 0] rfl)
def wp_X2_putInOrder (v1 : Int32) (s_ordered : Int32) (s_order : Nat → Int32) (Q : Int32 → (Nat → Int32) → Prop) : Prop := (40 ≤ s_ordered → Q s_ordered s_order) ∧ (¬ 40 ≤ s_ordered → vp_in s_ordered 40 ∧ (Q (s_ordered + 1) (upd s_order (Int32.toNatClampNeg s_ordered) v1)))
abbrev rm_X2_putInOrder : Room := { frames := 0, cells := 0, slots := 0, locals := 0 }
set_option maxHeartbeats 4000000 in
set_option maxRecDepth 100000 in
theorem c_X2_putInOrder (l : Launch) (D : va_G) (a : Nat → Nat) (cI : ClassId) (cZ : ClassId) (cJ : ClassId) (sz : Nat) (x_agesStand : Int32) (x_searchStands : Int32) (p_blocks : Int32) (p_lines : Int32) (p_edges : Int32) (p_pairs : Int32) (g_sets : Int32) (g_size : Int32) (g_penalty : Int32) (g_comeCount : Int32) (s_answered : Int32) (s_codes : Int32) (s_ordered : Int32) (p_times : Nat → Int32) (p_touchCounts : Nat → Int32) (p_touchSlots : Nat → Int32) (p_lineOfSlot : Nat → Int32) (p_from : Nat → Int32) (p_to : Nat → Int32) (p_bounds : Nat → Int32) (p_pairA : Nat → Int32) (p_pairB : Nat → Int32) (p_leaving : Nat → Int32) (p_firstLeaving : Nat → Int32) (g_come : Nat → Int32) (g_outcomes : Nat → Int32) (g_greatestTimes : Nat → Int32) (g_leastTimes : Nat → Int32) (g_changed : Nat → Int32) (g_greatest : Nat → Int32) (g_least : Nat → Int32) (g_greatestNow : Nat → Int32) (g_leastNow : Nat → Int32) (s_order : Nat → Int32) (s_arriving : Nat → Int32) (s_unit : Nat → Int32) (s_flag : Nat → Int32) (s_forbidding : Nat → Int32) (s_most : Nat → Int64) (s_fewest : Nat → Int64) (v1 : Int32) (Q : Int32 → (Nat → Int32) → Prop) (h : wp_X2_putInOrder v1 s_ordered s_order Q) : Met l yX2_putInOrder wsX2_putInOrder rm_X2_putInOrder (va_Pc [.ref (a 3), .int v1] (inW D cI cZ cJ sz (wC a cI cZ cJ x_agesStand x_searchStands p_blocks p_lines p_edges p_pairs g_sets g_size g_penalty g_comeCount s_answered s_codes s_ordered p_times p_touchCounts p_touchSlots p_lineOfSlot p_from p_to p_bounds p_pairA p_pairB p_leaving p_firstLeaving g_come g_outcomes g_greatestTimes g_leastTimes g_changed g_greatest g_least g_greatestNow g_leastNow s_order s_arriving s_unit s_flag s_forbidding s_most s_fewest))) (va_Qv (fun (u : Int32 × (Nat → Int32)) => Q u.1 u.2) (fun (u : Int32 × (Nat → Int32)) => outW D cI cZ cJ (va_A (wC a cI cZ cJ x_agesStand x_searchStands p_blocks p_lines p_edges p_pairs g_sets g_size g_penalty g_comeCount s_answered s_codes s_ordered p_times p_touchCounts p_touchSlots p_lineOfSlot p_from p_to p_bounds p_pairA p_pairB p_leaving p_firstLeaving g_come g_outcomes g_greatestTimes g_leastTimes g_changed g_greatest g_least g_greatestNow g_leastNow s_order s_arriving s_unit s_flag s_forbidding s_most s_fewest) sz) (wC a cI cZ cJ x_agesStand x_searchStands p_blocks p_lines p_edges p_pairs g_sets g_size g_penalty g_comeCount s_answered s_codes u.1 p_times p_touchCounts p_touchSlots p_lineOfSlot p_from p_to p_bounds p_pairA p_pairB p_leaving p_firstLeaving g_come g_outcomes g_greatestTimes g_leastTimes g_changed g_greatest g_least g_greatestNow g_leastNow u.2 s_arriving s_unit s_flag s_forbidding s_most s_fewest)) (va_A (wC a cI cZ cJ x_agesStand x_searchStands p_blocks p_lines p_edges p_pairs g_sets g_size g_penalty g_comeCount s_answered s_codes s_ordered p_times p_touchCounts p_touchSlots p_lineOfSlot p_from p_to p_bounds p_pairA p_pairB p_leaving p_firstLeaving g_come g_outcomes g_greatestTimes g_leastTimes g_changed g_greatest g_least g_greatestNow g_leastNow s_order s_arriving s_unit s_flag s_forbidding s_most s_fewest) sz)) 0 0 (va_A (wC a cI cZ cJ x_agesStand x_searchStands p_blocks p_lines p_edges p_pairs g_sets g_size g_penalty g_comeCount s_answered s_codes s_ordered p_times p_touchCounts p_touchSlots p_lineOfSlot p_from p_to p_bounds p_pairA p_pairB p_leaving p_firstLeaving g_come g_outcomes g_greatestTimes g_leastTimes g_changed g_greatest g_least g_greatestNow g_leastNow s_order s_arriving s_unit s_flag s_forbidding s_most s_fewest) sz) := by
  refine Met.ofW (cc := cX2_putInOrder) (maxL := 2) (ret := none) (by decide +kernel) rfl ?_
  intro p e s m args below meth c s₁ B hml hv
  obtain ⟨rfl, hsz, hP, hK, hD0⟩ := hv
  have hx := B.exec
  have hb := B.bytes
  have hr := B.returns
  have hts := atoms_spec (ws := wsX2_putInOrder) B.pre
  have hown : s.vm.findClass RX2 = some m.cls := findClass_of_methodNamed B.named
  have hlocks := B.notSynchronized
  have hinX2 : ∀ w ∈ wsX20, w ∈ wsX2_putInOrder := by decide +kernel
  subst hsz
  have hD := hD0.self (sz := s.heap.size)
  generalize hAe : va_A (wC a cI cZ cJ x_agesStand x_searchStands p_blocks p_lines p_edges p_pairs g_sets g_size g_penalty g_comeCount s_answered s_codes s_ordered p_times p_touchCounts p_touchSlots p_lineOfSlot p_from p_to p_bounds p_pairA p_pairB p_leaving p_firstLeaving g_come g_outcomes g_greatestTimes g_leastTimes g_changed g_greatest g_least g_greatestNow g_leastNow s_order s_arriving s_unit s_flag s_forbidding s_most s_fewest) s.heap.size = A at hD ⊢
  have hA : ∀ q : Nat, s.heap.size ≤ q → A q := fun q h => by rw [← hAe]; exact Or.inr h
  have hS : va_S A s.heap s.heap [] := va_S.rf
  have hP : va_P D vwCl (wC a cI cZ cJ x_agesStand x_searchStands p_blocks p_lines p_edges p_pairs g_sets g_size g_penalty g_comeCount s_answered s_codes s_ordered p_times p_touchCounts p_touchSlots p_lineOfSlot p_from p_to p_bounds p_pairA p_pairB p_leaving p_firstLeaving g_come g_outcomes g_greatestTimes g_leastTimes g_changed g_greatest g_least g_greatestNow g_leastNow s_order s_arriving s_unit s_flag s_forbidding s_most s_fewest) s.heap := hP
  have hl := lv_entry ([.ref (a 3), .int v1]) (n := 2) (Nat.le_of_ble_eq_true rfl)
  rw [lg_entry_eq]
  generalize (lg_sl ([.ref (a 3), .int v1]) ++ List.replicate (2 - (lg_sl ([.ref (a 3), .int v1])).length) Slot.unset).toArray = ls at hl ⊢
  have hl : lv_has ls 2 [(0, .ref (a 3)), (1, .int v1)] := hl
  refine wz_abs (fun Qz hQz => ?_)
  unfold wp_X2_putInOrder at h
  refine lv_aload_n hx hb dX2_putInOrder_0 rfl (lv_at hl 0 rfl) ?_
  refine va_get (D := D) (ci := 2) (v := .int s_ordered) (C := RX2) (T := TX2) (N := 10) hx hb hts hinX2 hown hK hP 3 rfl rfl 3 (by decide) (hts (.fieldLink RX2 85 "WorstPaths$Search" "ordered" "I") (by decide +kernel)) (fun _ h9 => h9) rfl dX2_putInOrder_1 ?_
  refine lv_bipush (v := 40) hx hb dX2_putInOrder_4 (by decide) ?_
  refine lv_icmp_ge (tgt := 29) hx hb dX2_putInOrder_6 (by decide) (fun hc => ?_) (fun hc => ?_)
  · replace h := h.1 hc
    refine wz_mono hQz ?_
    exact W.vret hx hb hr (fun t ht hW => ⟨⟨(s_ordered, s_order), rfl, h, by rw [ht]; exact hP, va_K.moved hW.alike hK, hD⟩, hS.F ht⟩) hS.2.2 dX2_putInOrder_29
  · replace h := h.2 hc
    refine lv_aload_n hx hb dX2_putInOrder_9 rfl (lv_at hl 0 rfl) ?_
    refine va_get (D := D) (ci := 2) (v := .ref (a 24)) (C := RX2) (T := TX2) (N := 10) hx hb hts hinX2 hown hK hP 3 rfl rfl 2 (by decide) (hts (.fieldLink RX2 9 "WorstPaths$Search" "order" "[I") (by decide +kernel)) (fun _ h9 => h9) rfl dX2_putInOrder_10 ?_
    refine lv_aload_n hx hb dX2_putInOrder_13 rfl (lv_at hl 0 rfl) ?_
    refine va_get (D := D) (ci := 2) (v := .int s_ordered) (C := RX2) (T := TX2) (N := 10) hx hb hts hinX2 hown hK hP 3 rfl rfl 3 (by decide) (hts (.fieldLink RX2 85 "WorstPaths$Search" "ordered" "I") (by decide +kernel)) (fun _ h9 => h9) rfl dX2_putInOrder_14 ?_
    refine lv_iload_n hx hb dX2_putInOrder_17 rfl (lv_at hl 1 rfl) ?_
    obtain ⟨hq, h⟩ := h
    refine va_iast (D := D) hx hb hK hP hD hS 24 0 rfl rfl hq dX2_putInOrder_18 (fun H locs hP hD hS => ?_)
    have hP : va_P D vwCl (wC a cI cZ cJ x_agesStand x_searchStands p_blocks p_lines p_edges p_pairs g_sets g_size g_penalty g_comeCount s_answered s_codes s_ordered p_times p_touchCounts p_touchSlots p_lineOfSlot p_from p_to p_bounds p_pairA p_pairB p_leaving p_firstLeaving g_come g_outcomes g_greatestTimes g_leastTimes g_changed g_greatest g_least g_greatestNow g_leastNow (upd s_order (Int32.toNatClampNeg s_ordered) v1) s_arriving s_unit s_flag s_forbidding s_most s_fewest) H := hP
    have hD : va_D A (wC a cI cZ cJ x_agesStand x_searchStands p_blocks p_lines p_edges p_pairs g_sets g_size g_penalty g_comeCount s_answered s_codes s_ordered p_times p_touchCounts p_touchSlots p_lineOfSlot p_from p_to p_bounds p_pairA p_pairB p_leaving p_firstLeaving g_come g_outcomes g_greatestTimes g_leastTimes g_changed g_greatest g_least g_greatestNow g_leastNow (upd s_order (Int32.toNatClampNeg s_ordered) v1) s_arriving s_unit s_flag s_forbidding s_most s_fewest) := hD
    refine lv_aload_n hx hb dX2_putInOrder_19 rfl (lv_at hl 0 rfl) ?_
    refine lv_dup hx hb dX2_putInOrder_20 rfl ?_
    refine va_get (D := D) (ci := 2) (v := .int s_ordered) (C := RX2) (T := TX2) (N := 10) hx hb hts hinX2 hown hK hP 3 rfl rfl 3 (by decide) (hts (.fieldLink RX2 85 "WorstPaths$Search" "ordered" "I") (by decide +kernel)) (fun _ h9 => h9) rfl dX2_putInOrder_21 ?_
    refine lv_iconst (v := 1) hx hb dX2_putInOrder_24 (by decide) ?_
    refine lv_iadd hx hb dX2_putInOrder_25 ?_
    refine va_put (D := D) (ci := 2) (v := .int (s_ordered + 1)) (ty := .int) (C := RX2) (T := TX2) (N := 10) hx hb hts hinX2 tyX2 tyX2_ok nmX2 hown hK hP hD hS 3 rfl rfl 3 (by decide) (hts (.fieldLink RX2 85 "WorstPaths$Search" "ordered" "I") (by decide +kernel)) (fun _ h9 => h9) rfl (by decide +kernel) rfl rfl (Nat.le_of_ble_eq_true rfl) dX2_putInOrder_26 (fun H locs hP hD hS => ?_)
    have hP : va_P D vwCl (wC a cI cZ cJ x_agesStand x_searchStands p_blocks p_lines p_edges p_pairs g_sets g_size g_penalty g_comeCount s_answered s_codes (s_ordered + 1) p_times p_touchCounts p_touchSlots p_lineOfSlot p_from p_to p_bounds p_pairA p_pairB p_leaving p_firstLeaving g_come g_outcomes g_greatestTimes g_leastTimes g_changed g_greatest g_least g_greatestNow g_leastNow (upd s_order (Int32.toNatClampNeg s_ordered) v1) s_arriving s_unit s_flag s_forbidding s_most s_fewest) H := hP
    have hD : va_D A (wC a cI cZ cJ x_agesStand x_searchStands p_blocks p_lines p_edges p_pairs g_sets g_size g_penalty g_comeCount s_answered s_codes (s_ordered + 1) p_times p_touchCounts p_touchSlots p_lineOfSlot p_from p_to p_bounds p_pairA p_pairB p_leaving p_firstLeaving g_come g_outcomes g_greatestTimes g_leastTimes g_changed g_greatest g_least g_greatestNow g_leastNow (upd s_order (Int32.toNatClampNeg s_ordered) v1) s_arriving s_unit s_flag s_forbidding s_most s_fewest) := hD
    refine wz_mono hQz ?_
    exact W.vret hx hb hr (fun t ht hW => ⟨⟨((s_ordered + 1), (upd s_order (Int32.toNatClampNeg s_ordered) v1)), rfl, h, by rw [ht]; exact hP, va_K.moved hW.alike hK, hD⟩, hS.F ht⟩) hS.2.2 dX2_putInOrder_29
def lp_X2_orderBlocks_83 (v3 : Int32) (v4 : Int32) (p_blocks : Int32) (p_edges : Int32) (g_comeCount : Int32) (p_from : Nat → Int32) (p_to : Nat → Int32) (p_bounds : Nat → Int32) (p_leaving : Nat → Int32) (p_firstLeaving : Nat → Int32) (g_come : Nat → Int32) (K52 : Int32 → Int32 → (Nat → Int32) → (Nat → Int32) → Prop) (Q : Int32 → Int32 → (Nat → Int32) → (Nat → Int32) → Prop) : Nat → Int32 → Int32 → (Nat → Int32) → (Nat → Int32) → Prop
  | 0, _, _, _, _ => False
  | n + 1, v5, s_ordered, s_order, s_arriving => vp_in (v4 + 1) 41 ∧ (((p_firstLeaving (Int32.toNatClampNeg (v4 + 1))) ≤ v5 → K52 (v3 + 1) s_ordered s_order s_arriving) ∧ (¬ (p_firstLeaving (Int32.toNatClampNeg (v4 + 1))) ≤ v5 → vp_in v5 80 ∧ (vp_in (p_leaving (Int32.toNatClampNeg v5)) 80 ∧ ((¬ (p_bounds (Int32.toNatClampNeg (p_leaving (Int32.toNatClampNeg v5)))) = (-1) → (lp_X2_orderBlocks_83 v3 v4 p_blocks p_edges g_comeCount p_from p_to p_bounds p_leaving p_firstLeaving g_come K52 Q n) (v5 + 1) s_ordered s_order s_arriving) ∧ ((p_bounds (Int32.toNatClampNeg (p_leaving (Int32.toNatClampNeg v5)))) = (-1) → vp_in (p_leaving (Int32.toNatClampNeg v5)) 80 ∧ (vp_in (p_to (Int32.toNatClampNeg (p_leaving (Int32.toNatClampNeg v5)))) 40 ∧ (vp_in (p_to (Int32.toNatClampNeg (p_leaving (Int32.toNatClampNeg v5)))) 40 ∧ (vp_in (p_leaving (Int32.toNatClampNeg v5)) 80 ∧ (vp_in (p_to (Int32.toNatClampNeg (p_leaving (Int32.toNatClampNeg v5)))) 40 ∧ ((¬ ((upd s_arriving (Int32.toNatClampNeg (p_to (Int32.toNatClampNeg (p_leaving (Int32.toNatClampNeg v5))))) ((s_arriving (Int32.toNatClampNeg (p_to (Int32.toNatClampNeg (p_leaving (Int32.toNatClampNeg v5)))))) - 1)) (Int32.toNatClampNeg (p_to (Int32.toNatClampNeg (p_leaving (Int32.toNatClampNeg v5)))))) = 0 → (lp_X2_orderBlocks_83 v3 v4 p_blocks p_edges g_comeCount p_from p_to p_bounds p_leaving p_firstLeaving g_come K52 Q n) (v5 + 1) s_ordered s_order (upd s_arriving (Int32.toNatClampNeg (p_to (Int32.toNatClampNeg (p_leaving (Int32.toNatClampNeg v5))))) ((s_arriving (Int32.toNatClampNeg (p_to (Int32.toNatClampNeg (p_leaving (Int32.toNatClampNeg v5)))))) - 1))) ∧ (((upd s_arriving (Int32.toNatClampNeg (p_to (Int32.toNatClampNeg (p_leaving (Int32.toNatClampNeg v5))))) ((s_arriving (Int32.toNatClampNeg (p_to (Int32.toNatClampNeg (p_leaving (Int32.toNatClampNeg v5)))))) - 1)) (Int32.toNatClampNeg (p_to (Int32.toNatClampNeg (p_leaving (Int32.toNatClampNeg v5)))))) = 0 → vp_in (p_leaving (Int32.toNatClampNeg v5)) 80 ∧ (wp_X2_putInOrder (p_to (Int32.toNatClampNeg (p_leaving (Int32.toNatClampNeg v5)))) s_ordered s_order (fun s_ordered_156 s_order_156 => (lp_X2_orderBlocks_83 v3 v4 p_blocks p_edges g_comeCount p_from p_to p_bounds p_leaving p_firstLeaving g_come K52 Q n) (v5 + 1) s_ordered_156 s_order_156 (upd s_arriving (Int32.toNatClampNeg (p_to (Int32.toNatClampNeg (p_leaving (Int32.toNatClampNeg v5))))) ((s_arriving (Int32.toNatClampNeg (p_to (Int32.toNatClampNeg (p_leaving (Int32.toNatClampNeg v5)))))) - 1)))))))))))))))
def lp_X2_orderBlocks_52 (p_blocks : Int32) (p_edges : Int32) (g_comeCount : Int32) (p_from : Nat → Int32) (p_to : Nat → Int32) (p_bounds : Nat → Int32) (p_leaving : Nat → Int32) (p_firstLeaving : Nat → Int32) (g_come : Nat → Int32) (Q : Int32 → Int32 → (Nat → Int32) → (Nat → Int32) → Prop) : Nat → Int32 → Int32 → (Nat → Int32) → (Nat → Int32) → Prop
  | 0, _, _, _, _ => False
  | n + 1, v3, s_ordered, s_order, s_arriving => (s_ordered ≤ v3 → (¬ s_ordered = g_comeCount → Q 0 s_ordered s_order s_arriving) ∧ (s_ordered = g_comeCount → Q 1 s_ordered s_order s_arriving)) ∧ (¬ s_ordered ≤ v3 → (40 ≤ v3 → (¬ s_ordered = g_comeCount → Q 0 s_ordered s_order s_arriving) ∧ (s_ordered = g_comeCount → Q 1 s_ordered s_order s_arriving)) ∧ (¬ 40 ≤ v3 → vp_in v3 40 ∧ (vp_in (s_order (Int32.toNatClampNeg v3)) 41 ∧ (∃ k83, lp_X2_orderBlocks_83 v3 (s_order (Int32.toNatClampNeg v3)) p_blocks p_edges g_comeCount p_from p_to p_bounds p_leaving p_firstLeaving g_come (lp_X2_orderBlocks_52 p_blocks p_edges g_comeCount p_from p_to p_bounds p_leaving p_firstLeaving g_come Q n) Q k83 (p_firstLeaving (Int32.toNatClampNeg (s_order (Int32.toNatClampNeg v3)))) s_ordered s_order s_arriving))))
def lp_X2_orderBlocks_13 (p_blocks : Int32) (p_edges : Int32) (g_comeCount : Int32) (p_from : Nat → Int32) (p_to : Nat → Int32) (p_bounds : Nat → Int32) (p_leaving : Nat → Int32) (p_firstLeaving : Nat → Int32) (g_come : Nat → Int32) (s_arriving : Nat → Int32) (Q : Int32 → Int32 → (Nat → Int32) → (Nat → Int32) → Prop) : Nat → Int32 → Int32 → (Nat → Int32) → Prop
  | 0, _, _, _ => False
  | n + 1, v3, s_ordered, s_order => (p_blocks ≤ v3 → ∃ k52, lp_X2_orderBlocks_52 p_blocks p_edges g_comeCount p_from p_to p_bounds p_leaving p_firstLeaving g_come Q k52 0 s_ordered s_order s_arriving) ∧ (¬ p_blocks ≤ v3 → vp_in v3 40 ∧ (((g_come (Int32.toNatClampNeg v3)) = 0 → (lp_X2_orderBlocks_13 p_blocks p_edges g_comeCount p_from p_to p_bounds p_leaving p_firstLeaving g_come s_arriving Q n) (v3 + 1) s_ordered s_order) ∧ (¬ (g_come (Int32.toNatClampNeg v3)) = 0 → vp_in v3 40 ∧ ((¬ (s_arriving (Int32.toNatClampNeg v3)) = 0 → (lp_X2_orderBlocks_13 p_blocks p_edges g_comeCount p_from p_to p_bounds p_leaving p_firstLeaving g_come s_arriving Q n) (v3 + 1) s_ordered s_order) ∧ ((s_arriving (Int32.toNatClampNeg v3)) = 0 → wp_X2_putInOrder v3 s_ordered s_order (fun s_ordered_41 s_order_41 => (lp_X2_orderBlocks_13 p_blocks p_edges g_comeCount p_from p_to p_bounds p_leaving p_firstLeaving g_come s_arriving Q n) (v3 + 1) s_ordered_41 s_order_41))))))
def wp_X2_orderBlocks (p_blocks : Int32) (p_edges : Int32) (g_comeCount : Int32) (s_ordered : Int32) (p_from : Nat → Int32) (p_to : Nat → Int32) (p_bounds : Nat → Int32) (p_leaving : Nat → Int32) (p_firstLeaving : Nat → Int32) (g_come : Nat → Int32) (s_order : Nat → Int32) (s_arriving : Nat → Int32) (Q : Int32 → Int32 → (Nat → Int32) → (Nat → Int32) → Prop) : Prop := wp_X2_countArriving p_edges p_from p_to p_bounds g_come s_arriving (fun s_arriving_3 => ∃ k13, lp_X2_orderBlocks_13 p_blocks p_edges g_comeCount p_from p_to p_bounds p_leaving p_firstLeaving g_come s_arriving_3 Q k13 0 0 s_order)
abbrev rm_X2_orderBlocks : Room := { frames := 2, cells := 0, slots := 0, locals := 46 }
set_option maxHeartbeats 4000000 in
set_option maxRecDepth 100000 in
theorem c_X2_orderBlocks (l : Launch) (D : va_G) (a : Nat → Nat) (cI : ClassId) (cZ : ClassId) (cJ : ClassId) (sz : Nat) (x_agesStand : Int32) (x_searchStands : Int32) (p_blocks : Int32) (p_lines : Int32) (p_edges : Int32) (p_pairs : Int32) (g_sets : Int32) (g_size : Int32) (g_penalty : Int32) (g_comeCount : Int32) (s_answered : Int32) (s_codes : Int32) (s_ordered : Int32) (p_times : Nat → Int32) (p_touchCounts : Nat → Int32) (p_touchSlots : Nat → Int32) (p_lineOfSlot : Nat → Int32) (p_from : Nat → Int32) (p_to : Nat → Int32) (p_bounds : Nat → Int32) (p_pairA : Nat → Int32) (p_pairB : Nat → Int32) (p_leaving : Nat → Int32) (p_firstLeaving : Nat → Int32) (g_come : Nat → Int32) (g_outcomes : Nat → Int32) (g_greatestTimes : Nat → Int32) (g_leastTimes : Nat → Int32) (g_changed : Nat → Int32) (g_greatest : Nat → Int32) (g_least : Nat → Int32) (g_greatestNow : Nat → Int32) (g_leastNow : Nat → Int32) (s_order : Nat → Int32) (s_arriving : Nat → Int32) (s_unit : Nat → Int32) (s_flag : Nat → Int32) (s_forbidding : Nat → Int32) (s_most : Nat → Int64) (s_fewest : Nat → Int64) (Q : Int32 → Int32 → (Nat → Int32) → (Nat → Int32) → Prop) (h : wp_X2_orderBlocks p_blocks p_edges g_comeCount s_ordered p_from p_to p_bounds p_leaving p_firstLeaving g_come s_order s_arriving Q) : Met l yX2_orderBlocks wsX2_orderBlocks rm_X2_orderBlocks (va_Pc [.ref (a 3), .ref (a 1), .ref (a 2)] (inW D cI cZ cJ sz (wC a cI cZ cJ x_agesStand x_searchStands p_blocks p_lines p_edges p_pairs g_sets g_size g_penalty g_comeCount s_answered s_codes s_ordered p_times p_touchCounts p_touchSlots p_lineOfSlot p_from p_to p_bounds p_pairA p_pairB p_leaving p_firstLeaving g_come g_outcomes g_greatestTimes g_leastTimes g_changed g_greatest g_least g_greatestNow g_leastNow s_order s_arriving s_unit s_flag s_forbidding s_most s_fewest))) (va_Qi (fun (r : Int32) (u : Int32 × (Nat → Int32) × (Nat → Int32)) => Q r u.1 u.2.1 u.2.2) (fun (u : Int32 × (Nat → Int32) × (Nat → Int32)) => outW D cI cZ cJ (va_A (wC a cI cZ cJ x_agesStand x_searchStands p_blocks p_lines p_edges p_pairs g_sets g_size g_penalty g_comeCount s_answered s_codes s_ordered p_times p_touchCounts p_touchSlots p_lineOfSlot p_from p_to p_bounds p_pairA p_pairB p_leaving p_firstLeaving g_come g_outcomes g_greatestTimes g_leastTimes g_changed g_greatest g_least g_greatestNow g_leastNow s_order s_arriving s_unit s_flag s_forbidding s_most s_fewest) sz) (wC a cI cZ cJ x_agesStand x_searchStands p_blocks p_lines p_edges p_pairs g_sets g_size g_penalty g_comeCount s_answered s_codes u.1 p_times p_touchCounts p_touchSlots p_lineOfSlot p_from p_to p_bounds p_pairA p_pairB p_leaving p_firstLeaving g_come g_outcomes g_greatestTimes g_leastTimes g_changed g_greatest g_least g_greatestNow g_leastNow u.2.1 u.2.2 s_unit s_flag s_forbidding s_most s_fewest)) (va_A (wC a cI cZ cJ x_agesStand x_searchStands p_blocks p_lines p_edges p_pairs g_sets g_size g_penalty g_comeCount s_answered s_codes s_ordered p_times p_touchCounts p_touchSlots p_lineOfSlot p_from p_to p_bounds p_pairA p_pairB p_leaving p_firstLeaving g_come g_outcomes g_greatestTimes g_leastTimes g_changed g_greatest g_least g_greatestNow g_leastNow s_order s_arriving s_unit s_flag s_forbidding s_most s_fewest) sz)) 0 0 (va_A (wC a cI cZ cJ x_agesStand x_searchStands p_blocks p_lines p_edges p_pairs g_sets g_size g_penalty g_comeCount s_answered s_codes s_ordered p_times p_touchCounts p_touchSlots p_lineOfSlot p_from p_to p_bounds p_pairA p_pairB p_leaving p_firstLeaving g_come g_outcomes g_greatestTimes g_leastTimes g_changed g_greatest g_least g_greatestNow g_leastNow s_order s_arriving s_unit s_flag s_forbidding s_most s_fewest) sz) := by
  refine Met.ofW (cc := cX2_orderBlocks) (maxL := 7) (ret := (some .boolean)) (by decide +kernel) rfl ?_
  intro p e s m args below meth c s₁ B hml hv
  obtain ⟨rfl, hsz, hP, hK, hD0⟩ := hv
  have hx := B.exec
  have hb := B.bytes
  have hr := B.returns
  have hts := atoms_spec (ws := wsX2_orderBlocks) B.pre
  have hown : s.vm.findClass RX2 = some m.cls := findClass_of_methodNamed B.named
  have hlocks := B.notSynchronized
  have hinX0 : ∀ w ∈ wsX00, w ∈ wsX2_orderBlocks := by decide +kernel
  have hinX1 : ∀ w ∈ wsX10, w ∈ wsX2_orderBlocks := by decide +kernel
  have hinX2 : ∀ w ∈ wsX20, w ∈ wsX2_orderBlocks := by decide +kernel
  subst hsz
  have hD := hD0.self (sz := s.heap.size)
  generalize hAe : va_A (wC a cI cZ cJ x_agesStand x_searchStands p_blocks p_lines p_edges p_pairs g_sets g_size g_penalty g_comeCount s_answered s_codes s_ordered p_times p_touchCounts p_touchSlots p_lineOfSlot p_from p_to p_bounds p_pairA p_pairB p_leaving p_firstLeaving g_come g_outcomes g_greatestTimes g_leastTimes g_changed g_greatest g_least g_greatestNow g_leastNow s_order s_arriving s_unit s_flag s_forbidding s_most s_fewest) s.heap.size = A at hD ⊢
  have hA : ∀ q : Nat, s.heap.size ≤ q → A q := fun q h => by rw [← hAe]; exact Or.inr h
  have hS : va_S A s.heap s.heap [] := va_S.rf
  have hP : va_P D vwCl (wC a cI cZ cJ x_agesStand x_searchStands p_blocks p_lines p_edges p_pairs g_sets g_size g_penalty g_comeCount s_answered s_codes s_ordered p_times p_touchCounts p_touchSlots p_lineOfSlot p_from p_to p_bounds p_pairA p_pairB p_leaving p_firstLeaving g_come g_outcomes g_greatestTimes g_leastTimes g_changed g_greatest g_least g_greatestNow g_leastNow s_order s_arriving s_unit s_flag s_forbidding s_most s_fewest) s.heap := hP
  have hl := lv_entry ([.ref (a 3), .ref (a 1), .ref (a 2)]) (n := 7) (Nat.le_of_ble_eq_true rfl)
  rw [lg_entry_eq]
  generalize (lg_sl ([.ref (a 3), .ref (a 1), .ref (a 2)]) ++ List.replicate (7 - (lg_sl ([.ref (a 3), .ref (a 1), .ref (a 2)])).length) Slot.unset).toArray = ls at hl ⊢
  have hl : lv_has ls 7 [(0, .ref (a 3)), (1, .ref (a 1)), (2, .ref (a 2))] := hl
  refine wz_abs (fun Qz hQz => ?_)
  unfold wp_X2_orderBlocks at h
  refine lv_aload_n hx hb dX2_orderBlocks_0 rfl (lv_at hl 0 rfl) ?_
  refine lv_aload_n hx hb dX2_orderBlocks_1 rfl (lv_at hl 1 rfl) ?_
  refine lv_aload_n hx hb dX2_orderBlocks_2 rfl (lv_at hl 2 rfl) ?_
  have hF := wz_free hD hS hA
  refine va_callv (va_runV (As := [.ref (a 1), .ref (a 2)]) (rest := []) ⟨hx, hb, hml, hown, hts⟩ (c_X2_countArriving l D a cI cZ cJ _ x_agesStand x_searchStands p_blocks p_lines p_edges p_pairs g_sets g_size g_penalty g_comeCount s_answered s_codes s_ordered p_times p_touchCounts p_touchSlots p_lineOfSlot p_from p_to p_bounds p_pairA p_pairB p_leaving p_firstLeaving g_come g_outcomes g_greatestTimes g_leastTimes g_changed g_greatest g_least g_greatestNow g_leastNow s_order s_arriving s_unit s_flag s_forbidding s_most s_fewest _ h) (cwV 2 hts gX2_orderBlocks_X2_countArriving rfl rfl rfl (by decide +kernel) ⟨Nat.le_of_ble_eq_true rfl, Nat.le_of_ble_eq_true rfl⟩) ⟨wz_blind, va_recv hK hP (ci := 2) (q0 := 3) rfl rfl, fun U hU hW => wz_at hU hW hP hK hD⟩ rfl rfl hl.1 rfl (lv_room (Nat.le_of_ble_eq_true rfl)) dX2_orderBlocks_3 ⟨Nat.zero_le _, Nat.zero_le _⟩) hS (fun q _ hq => hF q hq) hF (fun u t H locs ht hvm h hB hz1 hk1 hS => ?_)
  obtain ⟨s_arriving_3, rfl⟩ : ∃ z, z = u := ⟨_, rfl⟩
  obtain ⟨hP, -, hD⟩ := wz_back ht hF hB
  have hP : va_P D vwCl (wC a cI cZ cJ x_agesStand x_searchStands p_blocks p_lines p_edges p_pairs g_sets g_size g_penalty g_comeCount s_answered s_codes s_ordered p_times p_touchCounts p_touchSlots p_lineOfSlot p_from p_to p_bounds p_pairA p_pairB p_leaving p_firstLeaving g_come g_outcomes g_greatestTimes g_leastTimes g_changed g_greatest g_least g_greatestNow g_leastNow s_order s_arriving_3 s_unit s_flag s_forbidding s_most s_fewest) H := hP
  have hD : va_D A (wC a cI cZ cJ x_agesStand x_searchStands p_blocks p_lines p_edges p_pairs g_sets g_size g_penalty g_comeCount s_answered s_codes s_ordered p_times p_touchCounts p_touchSlots p_lineOfSlot p_from p_to p_bounds p_pairA p_pairB p_leaving p_firstLeaving g_come g_outcomes g_greatestTimes g_leastTimes g_changed g_greatest g_least g_greatestNow g_leastNow s_order s_arriving_3 s_unit s_flag s_forbidding s_most s_fewest) := hD
  refine lv_aload_n hx hb dX2_orderBlocks_6 rfl (lv_at hl 0 rfl) ?_
  refine lv_iconst (v := 0) hx hb dX2_orderBlocks_7 (by decide) ?_
  refine va_put (D := D) (ci := 2) (v := .int 0) (ty := .int) (C := RX2) (T := TX2) (N := 10) hx hb hts hinX2 tyX2 tyX2_ok nmX2 hown hK hP hD hS 3 rfl rfl 3 (by decide) (hts (.fieldLink RX2 85 "WorstPaths$Search" "ordered" "I") (by decide +kernel)) (fun _ h9 => h9) rfl (by decide +kernel) rfl rfl (Nat.le_of_ble_eq_true rfl) dX2_orderBlocks_8 (fun H locs hP hD hS => ?_)
  have hP : va_P D vwCl (wC a cI cZ cJ x_agesStand x_searchStands p_blocks p_lines p_edges p_pairs g_sets g_size g_penalty g_comeCount s_answered s_codes 0 p_times p_touchCounts p_touchSlots p_lineOfSlot p_from p_to p_bounds p_pairA p_pairB p_leaving p_firstLeaving g_come g_outcomes g_greatestTimes g_leastTimes g_changed g_greatest g_least g_greatestNow g_leastNow s_order s_arriving_3 s_unit s_flag s_forbidding s_most s_fewest) H := hP
  have hD : va_D A (wC a cI cZ cJ x_agesStand x_searchStands p_blocks p_lines p_edges p_pairs g_sets g_size g_penalty g_comeCount s_answered s_codes 0 p_times p_touchCounts p_touchSlots p_lineOfSlot p_from p_to p_bounds p_pairA p_pairB p_leaving p_firstLeaving g_come g_outcomes g_greatestTimes g_leastTimes g_changed g_greatest g_least g_greatestNow g_leastNow s_order s_arriving_3 s_unit s_flag s_forbidding s_most s_fewest) := hD
  refine lv_iconst (v := 0) hx hb dX2_orderBlocks_11 (by decide) ?_
  refine lv_istore_n (lv' := [(3, .int 0), (0, .ref (a 3)), (1, .ref (a 1)), (2, .ref (a 2))]) hx hb dX2_orderBlocks_12 rfl hl (by decide) rfl (fun ls hl => ?_)
  have LP13 : ∀ (n13 : Nat) (v3_13 : Int32) (s_ordered_13 : Int32) (s_order_13 : Nat → Int32), lp_X2_orderBlocks_13 p_blocks p_edges g_comeCount p_from p_to p_bounds p_leaving p_firstLeaving g_come s_arriving_3 Q n13 v3_13 s_ordered_13 s_order_13 → ∀ (H : Heap) (locs : List Loc), va_P D vwCl (wC a cI cZ cJ x_agesStand x_searchStands p_blocks p_lines p_edges p_pairs g_sets g_size g_penalty g_comeCount s_answered s_codes s_ordered_13 p_times p_touchCounts p_touchSlots p_lineOfSlot p_from p_to p_bounds p_pairA p_pairB p_leaving p_firstLeaving g_come g_outcomes g_greatestTimes g_leastTimes g_changed g_greatest g_least g_greatestNow g_leastNow s_order_13 s_arriving_3 s_unit s_flag s_forbidding s_most s_fewest) H → va_D A (wC a cI cZ cJ x_agesStand x_searchStands p_blocks p_lines p_edges p_pairs g_sets g_size g_penalty g_comeCount s_answered s_codes s_ordered_13 p_times p_touchCounts p_touchSlots p_lineOfSlot p_from p_to p_bounds p_pairA p_pairB p_leaving p_firstLeaving g_come g_outcomes g_greatestTimes g_leastTimes g_changed g_greatest g_least g_greatestNow g_leastNow s_order_13 s_arriving_3 s_unit s_flag s_forbidding s_most s_fewest) → va_S A s.heap H locs → ∀ (ls : Array Slot), lv_has ls 7 [(0, .ref (a 3)), (1, .ref (a 1)), (2, .ref (a 2)), (3, .int v3_13)] → W p l e (headSpec wsX2_orderBlocks rm_X2_orderBlocks).room s m ([Value.ref (a 3), Value.ref (a 1), Value.ref (a 2)] : List Value).toArray below meth c H locs 0 0 Qz (F0 m 13 ls []) := by
    intro n13
    induction n13 with
    | zero => intro v3_13 s_ordered_13 s_order_13 h; exact h.elim
    | succ n13 ih13 =>
      intro v3_13 s_ordered_13 s_order_13 h H locs hP hD hS ls hl
      unfold lp_X2_orderBlocks_13 at h
      refine lv_iload_n hx hb dX2_orderBlocks_13 rfl (lv_at hl 3 rfl) ?_
      refine lv_aload_n hx hb dX2_orderBlocks_14 rfl (lv_at hl 1 rfl) ?_
      refine va_get (D := D) (ci := 1) (v := .int p_blocks) (C := RX1) (T := TX1) (N := 15) hx hb hts hinX1 hown hK hP 1 rfl rfl 0 (by decide) (hts (.fieldLink RX2 39 "WorstPaths$Program" "blocks" "I") (by decide +kernel)) (fun _ h9 => h9) rfl dX2_orderBlocks_15 ?_
      refine lv_icmp_ge (tgt := 50) hx hb dX2_orderBlocks_18 (by decide) (fun hc => ?_) (fun hc => ?_)
      · replace h := h.1 hc
        refine lv_iconst (v := 0) hx hb dX2_orderBlocks_50 (by decide) ?_
        refine lv_istore_n (lv' := [(3, .int 0), (0, .ref (a 3)), (1, .ref (a 1)), (2, .ref (a 2))]) hx hb dX2_orderBlocks_51 rfl hl (by decide) rfl (fun ls hl => ?_)
        have LP52 : ∀ (n52 : Nat) (v3_52 : Int32) (s_ordered_52 : Int32) (s_order_52 : Nat → Int32) (s_arriving_52 : Nat → Int32), lp_X2_orderBlocks_52 p_blocks p_edges g_comeCount p_from p_to p_bounds p_leaving p_firstLeaving g_come Q n52 v3_52 s_ordered_52 s_order_52 s_arriving_52 → ∀ (H : Heap) (locs : List Loc), va_P D vwCl (wC a cI cZ cJ x_agesStand x_searchStands p_blocks p_lines p_edges p_pairs g_sets g_size g_penalty g_comeCount s_answered s_codes s_ordered_52 p_times p_touchCounts p_touchSlots p_lineOfSlot p_from p_to p_bounds p_pairA p_pairB p_leaving p_firstLeaving g_come g_outcomes g_greatestTimes g_leastTimes g_changed g_greatest g_least g_greatestNow g_leastNow s_order_52 s_arriving_52 s_unit s_flag s_forbidding s_most s_fewest) H → va_D A (wC a cI cZ cJ x_agesStand x_searchStands p_blocks p_lines p_edges p_pairs g_sets g_size g_penalty g_comeCount s_answered s_codes s_ordered_52 p_times p_touchCounts p_touchSlots p_lineOfSlot p_from p_to p_bounds p_pairA p_pairB p_leaving p_firstLeaving g_come g_outcomes g_greatestTimes g_leastTimes g_changed g_greatest g_least g_greatestNow g_leastNow s_order_52 s_arriving_52 s_unit s_flag s_forbidding s_most s_fewest) → va_S A s.heap H locs → ∀ (ls : Array Slot), lv_has ls 7 [(0, .ref (a 3)), (1, .ref (a 1)), (2, .ref (a 2)), (3, .int v3_52)] → W p l e (headSpec wsX2_orderBlocks rm_X2_orderBlocks).room s m ([Value.ref (a 3), Value.ref (a 1), Value.ref (a 2)] : List Value).toArray below meth c H locs 0 0 Qz (F0 m 52 ls []) := by
          intro n52
          induction n52 with
          | zero => intro v3_52 s_ordered_52 s_order_52 s_arriving_52 h; exact h.elim
          | succ n52 ih52 =>
            intro v3_52 s_ordered_52 s_order_52 s_arriving_52 h H locs hP hD hS ls hl
            unfold lp_X2_orderBlocks_52 at h
            refine lv_iload_n hx hb dX2_orderBlocks_52 rfl (lv_at hl 3 rfl) ?_
            refine lv_aload_n hx hb dX2_orderBlocks_53 rfl (lv_at hl 0 rfl) ?_
            refine va_get (D := D) (ci := 2) (v := .int s_ordered_52) (C := RX2) (T := TX2) (N := 10) hx hb hts hinX2 hown hK hP 3 rfl rfl 3 (by decide) (hts (.fieldLink RX2 85 "WorstPaths$Search" "ordered" "I") (by decide +kernel)) (fun _ h9 => h9) rfl dX2_orderBlocks_54 ?_
            refine lv_icmp_ge (tgt := 171) hx hb dX2_orderBlocks_57 (by decide) (fun hc => ?_) (fun hc => ?_)
            · replace h := h.1 hc
              refine lv_aload_n hx hb dX2_orderBlocks_171 rfl (lv_at hl 0 rfl) ?_
              refine va_get (D := D) (ci := 2) (v := .int s_ordered_52) (C := RX2) (T := TX2) (N := 10) hx hb hts hinX2 hown hK hP 3 rfl rfl 3 (by decide) (hts (.fieldLink RX2 85 "WorstPaths$Search" "ordered" "I") (by decide +kernel)) (fun _ h9 => h9) rfl dX2_orderBlocks_172 ?_
              refine lv_aload_n hx hb dX2_orderBlocks_175 rfl (lv_at hl 2 rfl) ?_
              refine va_get (D := D) (ci := 0) (v := .int g_comeCount) (C := RX0) (T := TX0) (N := 13) hx hb hts hinX0 hown hK hP 2 rfl rfl 4 (by decide) (hts (.fieldLink RX2 107 "WorstPaths$Ages" "comeCount" "I") (by decide +kernel)) (fun _ h9 => h9) rfl dX2_orderBlocks_176 ?_
              refine lv_icmp_ne (tgt := 186) hx hb dX2_orderBlocks_179 (by decide) (fun hc => ?_) (fun hc => ?_)
              · replace h := h.1 hc
                refine lv_iconst (v := 0) hx hb dX2_orderBlocks_186 (by decide) ?_
                refine wz_mono hQz ?_
                exact W.zret (v := 0) hx hb hr rfl (fun t ht hW => ⟨⟨0, (s_ordered_52, s_order_52, s_arriving_52), rfl, h, by rw [ht]; exact hP, va_K.moved hW.alike hK, hD⟩, hS.F ht⟩) hS.2.2 dX2_orderBlocks_187
              · replace h := h.2 hc
                refine lv_iconst (v := 1) hx hb dX2_orderBlocks_182 (by decide) ?_
                refine lv_goto (tgt := 187) hx hb dX2_orderBlocks_183 (by decide) ?_
                refine wz_mono hQz ?_
                exact W.zret (v := 1) hx hb hr rfl (fun t ht hW => ⟨⟨1, (s_ordered_52, s_order_52, s_arriving_52), rfl, h, by rw [ht]; exact hP, va_K.moved hW.alike hK, hD⟩, hS.F ht⟩) hS.2.2 dX2_orderBlocks_187
            · replace h := h.2 hc
              refine lv_iload_n hx hb dX2_orderBlocks_60 rfl (lv_at hl 3 rfl) ?_
              refine lv_bipush (v := 40) hx hb dX2_orderBlocks_61 (by decide) ?_
              refine lv_icmp_ge (tgt := 171) hx hb dX2_orderBlocks_63 (by decide) (fun hc => ?_) (fun hc => ?_)
              · replace h := h.1 hc
                refine lv_aload_n hx hb dX2_orderBlocks_171 rfl (lv_at hl 0 rfl) ?_
                refine va_get (D := D) (ci := 2) (v := .int s_ordered_52) (C := RX2) (T := TX2) (N := 10) hx hb hts hinX2 hown hK hP 3 rfl rfl 3 (by decide) (hts (.fieldLink RX2 85 "WorstPaths$Search" "ordered" "I") (by decide +kernel)) (fun _ h9 => h9) rfl dX2_orderBlocks_172 ?_
                refine lv_aload_n hx hb dX2_orderBlocks_175 rfl (lv_at hl 2 rfl) ?_
                refine va_get (D := D) (ci := 0) (v := .int g_comeCount) (C := RX0) (T := TX0) (N := 13) hx hb hts hinX0 hown hK hP 2 rfl rfl 4 (by decide) (hts (.fieldLink RX2 107 "WorstPaths$Ages" "comeCount" "I") (by decide +kernel)) (fun _ h9 => h9) rfl dX2_orderBlocks_176 ?_
                refine lv_icmp_ne (tgt := 186) hx hb dX2_orderBlocks_179 (by decide) (fun hc => ?_) (fun hc => ?_)
                · replace h := h.1 hc
                  refine lv_iconst (v := 0) hx hb dX2_orderBlocks_186 (by decide) ?_
                  refine wz_mono hQz ?_
                  exact W.zret (v := 0) hx hb hr rfl (fun t ht hW => ⟨⟨0, (s_ordered_52, s_order_52, s_arriving_52), rfl, h, by rw [ht]; exact hP, va_K.moved hW.alike hK, hD⟩, hS.F ht⟩) hS.2.2 dX2_orderBlocks_187
                · replace h := h.2 hc
                  refine lv_iconst (v := 1) hx hb dX2_orderBlocks_182 (by decide) ?_
                  refine lv_goto (tgt := 187) hx hb dX2_orderBlocks_183 (by decide) ?_
                  refine wz_mono hQz ?_
                  exact W.zret (v := 1) hx hb hr rfl (fun t ht hW => ⟨⟨1, (s_ordered_52, s_order_52, s_arriving_52), rfl, h, by rw [ht]; exact hP, va_K.moved hW.alike hK, hD⟩, hS.F ht⟩) hS.2.2 dX2_orderBlocks_187
              · replace h := h.2 hc
                refine lv_aload_n hx hb dX2_orderBlocks_66 rfl (lv_at hl 0 rfl) ?_
                refine va_get (D := D) (ci := 2) (v := .ref (a 24)) (C := RX2) (T := TX2) (N := 10) hx hb hts hinX2 hown hK hP 3 rfl rfl 2 (by decide) (hts (.fieldLink RX2 9 "WorstPaths$Search" "order" "[I") (by decide +kernel)) (fun _ h9 => h9) rfl dX2_orderBlocks_67 ?_
                refine lv_iload_n hx hb dX2_orderBlocks_70 rfl (lv_at hl 3 rfl) ?_
                obtain ⟨hq, h⟩ := h
                refine va_iald (D := D) hx hb hK hP 24 0 rfl rfl hq dX2_orderBlocks_71 ?_
                refine lv_istore (lv' := [(4, .int (s_order_52 (Int32.toNatClampNeg v3_52))), (0, .ref (a 3)), (1, .ref (a 1)), (2, .ref (a 2)), (3, .int v3_52)]) hx hb dX2_orderBlocks_72 hl (by decide) rfl (fun ls hl => ?_)
                refine lv_aload_n hx hb dX2_orderBlocks_74 rfl (lv_at hl 2 rfl) ?_
                refine va_get (D := D) (ci := 1) (v := .ref (a 14)) (C := RX1) (T := TX1) (N := 15) hx hb hts hinX1 hown hK hP 1 rfl rfl 14 (by decide) (hts (.fieldLink RX2 98 "WorstPaths$Program" "firstLeaving" "[I") (by decide +kernel)) (fun _ h9 => h9) rfl dX2_orderBlocks_75 ?_
                refine lv_iload hx hb dX2_orderBlocks_78 (lv_at hl 0 rfl) ?_
                obtain ⟨hq, h⟩ := h
                refine va_iald (D := D) hx hb hK hP 14 0 rfl rfl hq dX2_orderBlocks_80 ?_
                refine lv_istore (lv' := [(5, .int (p_firstLeaving (Int32.toNatClampNeg (s_order_52 (Int32.toNatClampNeg v3_52))))), (4, .int (s_order_52 (Int32.toNatClampNeg v3_52))), (0, .ref (a 3)), (1, .ref (a 1)), (2, .ref (a 2)), (3, .int v3_52)]) hx hb dX2_orderBlocks_81 hl (by decide) rfl (fun ls hl => ?_)
                have LP83 : ∀ (n83 : Nat) (v5_83 : Int32) (s_ordered_83 : Int32) (s_order_83 : Nat → Int32) (s_arriving_83 : Nat → Int32), lp_X2_orderBlocks_83 v3_52 (s_order_52 (Int32.toNatClampNeg v3_52)) p_blocks p_edges g_comeCount p_from p_to p_bounds p_leaving p_firstLeaving g_come (lp_X2_orderBlocks_52 p_blocks p_edges g_comeCount p_from p_to p_bounds p_leaving p_firstLeaving g_come Q n52) Q n83 v5_83 s_ordered_83 s_order_83 s_arriving_83 → ∀ (H : Heap) (locs : List Loc), va_P D vwCl (wC a cI cZ cJ x_agesStand x_searchStands p_blocks p_lines p_edges p_pairs g_sets g_size g_penalty g_comeCount s_answered s_codes s_ordered_83 p_times p_touchCounts p_touchSlots p_lineOfSlot p_from p_to p_bounds p_pairA p_pairB p_leaving p_firstLeaving g_come g_outcomes g_greatestTimes g_leastTimes g_changed g_greatest g_least g_greatestNow g_leastNow s_order_83 s_arriving_83 s_unit s_flag s_forbidding s_most s_fewest) H → va_D A (wC a cI cZ cJ x_agesStand x_searchStands p_blocks p_lines p_edges p_pairs g_sets g_size g_penalty g_comeCount s_answered s_codes s_ordered_83 p_times p_touchCounts p_touchSlots p_lineOfSlot p_from p_to p_bounds p_pairA p_pairB p_leaving p_firstLeaving g_come g_outcomes g_greatestTimes g_leastTimes g_changed g_greatest g_least g_greatestNow g_leastNow s_order_83 s_arriving_83 s_unit s_flag s_forbidding s_most s_fewest) → va_S A s.heap H locs → ∀ (ls : Array Slot), lv_has ls 7 [(0, .ref (a 3)), (1, .ref (a 1)), (2, .ref (a 2)), (3, .int v3_52), (4, .int (s_order_52 (Int32.toNatClampNeg v3_52))), (5, .int v5_83)] → W p l e (headSpec wsX2_orderBlocks rm_X2_orderBlocks).room s m ([Value.ref (a 3), Value.ref (a 1), Value.ref (a 2)] : List Value).toArray below meth c H locs 0 0 Qz (F0 m 83 ls []) := by
                  intro n83
                  induction n83 with
                  | zero => intro v5_83 s_ordered_83 s_order_83 s_arriving_83 h; exact h.elim
                  | succ n83 ih83 =>
                    intro v5_83 s_ordered_83 s_order_83 s_arriving_83 h H locs hP hD hS ls hl
                    unfold lp_X2_orderBlocks_83 at h
                    refine lv_iload hx hb dX2_orderBlocks_83 (lv_at hl 5 rfl) ?_
                    refine lv_aload_n hx hb dX2_orderBlocks_85 rfl (lv_at hl 1 rfl) ?_
                    refine va_get (D := D) (ci := 1) (v := .ref (a 14)) (C := RX1) (T := TX1) (N := 15) hx hb hts hinX1 hown hK hP 1 rfl rfl 14 (by decide) (hts (.fieldLink RX2 98 "WorstPaths$Program" "firstLeaving" "[I") (by decide +kernel)) (fun _ h9 => h9) rfl dX2_orderBlocks_86 ?_
                    refine lv_iload hx hb dX2_orderBlocks_89 (lv_at hl 4 rfl) ?_
                    refine lv_iconst (v := 1) hx hb dX2_orderBlocks_91 (by decide) ?_
                    refine lv_iadd hx hb dX2_orderBlocks_92 ?_
                    obtain ⟨hq, h⟩ := h
                    refine va_iald (D := D) hx hb hK hP 14 0 rfl rfl hq dX2_orderBlocks_93 ?_
                    refine lv_icmp_ge (tgt := 165) hx hb dX2_orderBlocks_94 (by decide) (fun hc => ?_) (fun hc => ?_)
                    · replace h := h.1 hc
                      refine lv_iinc (v := (v3_52 + 1)) (lv' := [(3, .int (v3_52 + 1)), (0, .ref (a 3)), (1, .ref (a 1)), (2, .ref (a 2)), (4, .int (s_order_52 (Int32.toNatClampNeg v3_52))), (5, .int v5_83)]) hx hb dX2_orderBlocks_165 hl (k := 3) rfl rfl (by decide) rfl (fun ls hl => ?_)
                      refine lv_goto (tgt := 52) hx hb dX2_orderBlocks_168 (by decide) ?_
                      exact ih52 (v3_52 + 1) s_ordered_83 s_order_83 s_arriving_83 h _ _ hP hD hS _ (lv_sub hl [1, 2, 3, 0] rfl)
                    · replace h := h.2 hc
                      refine lv_aload_n hx hb dX2_orderBlocks_97 rfl (lv_at hl 1 rfl) ?_
                      refine va_get (D := D) (ci := 1) (v := .ref (a 13)) (C := RX1) (T := TX1) (N := 15) hx hb hts hinX1 hown hK hP 1 rfl rfl 13 (by decide) (hts (.fieldLink RX2 101 "WorstPaths$Program" "leaving" "[I") (by decide +kernel)) (fun _ h9 => h9) rfl dX2_orderBlocks_98 ?_
                      refine lv_iload hx hb dX2_orderBlocks_101 (lv_at hl 5 rfl) ?_
                      obtain ⟨hq, h⟩ := h
                      refine va_iald (D := D) hx hb hK hP 13 0 rfl rfl hq dX2_orderBlocks_103 ?_
                      refine lv_istore (lv' := [(6, .int (p_leaving (Int32.toNatClampNeg v5_83))), (0, .ref (a 3)), (1, .ref (a 1)), (2, .ref (a 2)), (3, .int v3_52), (4, .int (s_order_52 (Int32.toNatClampNeg v3_52))), (5, .int v5_83)]) hx hb dX2_orderBlocks_104 hl (by decide) rfl (fun ls hl => ?_)
                      refine lv_aload_n hx hb dX2_orderBlocks_106 rfl (lv_at hl 2 rfl) ?_
                      refine va_get (D := D) (ci := 1) (v := .ref (a 10)) (C := RX1) (T := TX1) (N := 15) hx hb hts hinX1 hown hK hP 1 rfl rfl 10 (by decide) (hts (.fieldLink RX2 66 "WorstPaths$Program" "bounds" "[I") (by decide +kernel)) (fun _ h9 => h9) rfl dX2_orderBlocks_107 ?_
                      refine lv_iload hx hb dX2_orderBlocks_110 (lv_at hl 0 rfl) ?_
                      obtain ⟨hq, h⟩ := h
                      refine va_iald (D := D) hx hb hK hP 10 0 rfl rfl hq dX2_orderBlocks_112 ?_
                      refine lv_iconst (v := (-1)) hx hb dX2_orderBlocks_113 (by decide) ?_
                      refine lv_icmp_ne (tgt := 159) hx hb dX2_orderBlocks_114 (by decide) (fun hc => ?_) (fun hc => ?_)
                      · replace h := h.1 hc
                        refine lv_iinc (v := (v5_83 + 1)) (lv' := [(5, .int (v5_83 + 1)), (6, .int (p_leaving (Int32.toNatClampNeg v5_83))), (0, .ref (a 3)), (1, .ref (a 1)), (2, .ref (a 2)), (3, .int v3_52), (4, .int (s_order_52 (Int32.toNatClampNeg v3_52)))]) hx hb dX2_orderBlocks_159 hl (k := 6) rfl rfl (by decide) rfl (fun ls hl => ?_)
                        refine lv_goto (tgt := 83) hx hb dX2_orderBlocks_162 (by decide) ?_
                        exact ih83 (v5_83 + 1) s_ordered_83 s_order_83 s_arriving_83 h _ _ hP hD hS _ (lv_sub hl [2, 3, 4, 5, 6, 0] rfl)
                      · replace h := h.2 hc
                        refine lv_aload_n hx hb dX2_orderBlocks_117 rfl (lv_at hl 1 rfl) ?_
                        refine va_get (D := D) (ci := 2) (v := .ref (a 25)) (C := RX2) (T := TX2) (N := 10) hx hb hts hinX2 hown hK hP 3 rfl rfl 4 (by decide) (hts (.fieldLink RX2 15 "WorstPaths$Search" "arriving" "[I") (by decide +kernel)) (fun _ h9 => h9) rfl dX2_orderBlocks_118 ?_
                        refine lv_aload_n hx hb dX2_orderBlocks_121 rfl (lv_at hl 2 rfl) ?_
                        refine va_get (D := D) (ci := 1) (v := .ref (a 9)) (C := RX1) (T := TX1) (N := 15) hx hb hts hinX1 hown hK hP 1 rfl rfl 9 (by decide) (hts (.fieldLink RX2 104 "WorstPaths$Program" "to" "[I") (by decide +kernel)) (fun _ h9 => h9) rfl dX2_orderBlocks_122 ?_
                        refine lv_iload hx hb dX2_orderBlocks_125 (lv_at hl 0 rfl) ?_
                        obtain ⟨hq, h⟩ := h
                        refine va_iald (D := D) hx hb hK hP 9 0 rfl rfl hq dX2_orderBlocks_127 ?_
                        refine lv_dup2_11 hx hb dX2_orderBlocks_128 rfl rfl ?_
                        obtain ⟨hq, h⟩ := h
                        refine va_iald (D := D) hx hb hK hP 25 0 rfl rfl hq dX2_orderBlocks_129 ?_
                        refine lv_iconst (v := 1) hx hb dX2_orderBlocks_130 (by decide) ?_
                        refine lv_isub hx hb dX2_orderBlocks_131 ?_
                        obtain ⟨hq, h⟩ := h
                        refine va_iast (D := D) hx hb hK hP hD hS 25 0 rfl rfl hq dX2_orderBlocks_132 (fun H locs hP hD hS => ?_)
                        have hP : va_P D vwCl (wC a cI cZ cJ x_agesStand x_searchStands p_blocks p_lines p_edges p_pairs g_sets g_size g_penalty g_comeCount s_answered s_codes s_ordered_83 p_times p_touchCounts p_touchSlots p_lineOfSlot p_from p_to p_bounds p_pairA p_pairB p_leaving p_firstLeaving g_come g_outcomes g_greatestTimes g_leastTimes g_changed g_greatest g_least g_greatestNow g_leastNow s_order_83 (upd s_arriving_83 (Int32.toNatClampNeg (p_to (Int32.toNatClampNeg (p_leaving (Int32.toNatClampNeg v5_83))))) ((s_arriving_83 (Int32.toNatClampNeg (p_to (Int32.toNatClampNeg (p_leaving (Int32.toNatClampNeg v5_83)))))) - 1)) s_unit s_flag s_forbidding s_most s_fewest) H := hP
                        have hD : va_D A (wC a cI cZ cJ x_agesStand x_searchStands p_blocks p_lines p_edges p_pairs g_sets g_size g_penalty g_comeCount s_answered s_codes s_ordered_83 p_times p_touchCounts p_touchSlots p_lineOfSlot p_from p_to p_bounds p_pairA p_pairB p_leaving p_firstLeaving g_come g_outcomes g_greatestTimes g_leastTimes g_changed g_greatest g_least g_greatestNow g_leastNow s_order_83 (upd s_arriving_83 (Int32.toNatClampNeg (p_to (Int32.toNatClampNeg (p_leaving (Int32.toNatClampNeg v5_83))))) ((s_arriving_83 (Int32.toNatClampNeg (p_to (Int32.toNatClampNeg (p_leaving (Int32.toNatClampNeg v5_83)))))) - 1)) s_unit s_flag s_forbidding s_most s_fewest) := hD
                        refine lv_aload_n hx hb dX2_orderBlocks_133 rfl (lv_at hl 1 rfl) ?_
                        refine va_get (D := D) (ci := 2) (v := .ref (a 25)) (C := RX2) (T := TX2) (N := 10) hx hb hts hinX2 hown hK hP 3 rfl rfl 4 (by decide) (hts (.fieldLink RX2 15 "WorstPaths$Search" "arriving" "[I") (by decide +kernel)) (fun _ h9 => h9) rfl dX2_orderBlocks_134 ?_
                        refine lv_aload_n hx hb dX2_orderBlocks_137 rfl (lv_at hl 2 rfl) ?_
                        refine va_get (D := D) (ci := 1) (v := .ref (a 9)) (C := RX1) (T := TX1) (N := 15) hx hb hts hinX1 hown hK hP 1 rfl rfl 9 (by decide) (hts (.fieldLink RX2 104 "WorstPaths$Program" "to" "[I") (by decide +kernel)) (fun _ h9 => h9) rfl dX2_orderBlocks_138 ?_
                        refine lv_iload hx hb dX2_orderBlocks_141 (lv_at hl 0 rfl) ?_
                        obtain ⟨hq, h⟩ := h
                        refine va_iald (D := D) hx hb hK hP 9 0 rfl rfl hq dX2_orderBlocks_143 ?_
                        obtain ⟨hq, h⟩ := h
                        refine va_iald (D := D) hx hb hK hP 25 0 rfl rfl hq dX2_orderBlocks_144 ?_
                        refine lv_if_ne (tgt := 159) hx hb dX2_orderBlocks_145 (by decide) (fun hc => ?_) (fun hc => ?_)
                        · replace h := h.1 hc
                          refine lv_iinc (v := (v5_83 + 1)) (lv' := [(5, .int (v5_83 + 1)), (6, .int (p_leaving (Int32.toNatClampNeg v5_83))), (0, .ref (a 3)), (1, .ref (a 1)), (2, .ref (a 2)), (3, .int v3_52), (4, .int (s_order_52 (Int32.toNatClampNeg v3_52)))]) hx hb dX2_orderBlocks_159 hl (k := 6) rfl rfl (by decide) rfl (fun ls hl => ?_)
                          refine lv_goto (tgt := 83) hx hb dX2_orderBlocks_162 (by decide) ?_
                          exact ih83 (v5_83 + 1) s_ordered_83 s_order_83 (upd s_arriving_83 (Int32.toNatClampNeg (p_to (Int32.toNatClampNeg (p_leaving (Int32.toNatClampNeg v5_83))))) ((s_arriving_83 (Int32.toNatClampNeg (p_to (Int32.toNatClampNeg (p_leaving (Int32.toNatClampNeg v5_83)))))) - 1)) h _ _ hP hD hS _ (lv_sub hl [2, 3, 4, 5, 6, 0] rfl)
                        · replace h := h.2 hc
                          refine lv_aload_n hx hb dX2_orderBlocks_148 rfl (lv_at hl 1 rfl) ?_
                          refine lv_aload_n hx hb dX2_orderBlocks_149 rfl (lv_at hl 2 rfl) ?_
                          refine va_get (D := D) (ci := 1) (v := .ref (a 9)) (C := RX1) (T := TX1) (N := 15) hx hb hts hinX1 hown hK hP 1 rfl rfl 9 (by decide) (hts (.fieldLink RX2 104 "WorstPaths$Program" "to" "[I") (by decide +kernel)) (fun _ h9 => h9) rfl dX2_orderBlocks_150 ?_
                          refine lv_iload hx hb dX2_orderBlocks_153 (lv_at hl 0 rfl) ?_
                          obtain ⟨hq, h⟩ := h
                          refine va_iald (D := D) hx hb hK hP 9 0 rfl rfl hq dX2_orderBlocks_155 ?_
                          have hF := wz_free hD hS hA
                          refine va_callv (va_runV (As := [.int (p_to (Int32.toNatClampNeg (p_leaving (Int32.toNatClampNeg v5_83))))]) (rest := []) ⟨hx, hb, hml, hown, hts⟩ (c_X2_putInOrder l D a cI cZ cJ _ x_agesStand x_searchStands p_blocks p_lines p_edges p_pairs g_sets g_size g_penalty g_comeCount s_answered s_codes s_ordered_83 p_times p_touchCounts p_touchSlots p_lineOfSlot p_from p_to p_bounds p_pairA p_pairB p_leaving p_firstLeaving g_come g_outcomes g_greatestTimes g_leastTimes g_changed g_greatest g_least g_greatestNow g_leastNow s_order_83 (upd s_arriving_83 (Int32.toNatClampNeg (p_to (Int32.toNatClampNeg (p_leaving (Int32.toNatClampNeg v5_83))))) ((s_arriving_83 (Int32.toNatClampNeg (p_to (Int32.toNatClampNeg (p_leaving (Int32.toNatClampNeg v5_83)))))) - 1)) s_unit s_flag s_forbidding s_most s_fewest (p_to (Int32.toNatClampNeg (p_leaving (Int32.toNatClampNeg v5_83)))) _ h) (cwV 1 hts gX2_orderBlocks_X2_putInOrder rfl rfl rfl (by decide +kernel) ⟨Nat.le_of_ble_eq_true rfl, Nat.le_of_ble_eq_true rfl⟩) ⟨wz_blind, va_recv hK hP (ci := 2) (q0 := 3) rfl rfl, fun U hU hW => wz_at hU hW hP hK hD⟩ rfl rfl hl.1 rfl (lv_room (Nat.le_of_ble_eq_true rfl)) dX2_orderBlocks_156 ⟨Nat.zero_le _, Nat.zero_le _⟩) hS (fun q _ hq => hF q hq) hF (fun u t H locs ht hvm h hB hz1 hk1 hS => ?_)
                          obtain ⟨s_ordered_156, s_order_156⟩ := u
                          dsimp only at h hB
                          obtain ⟨hP, -, hD⟩ := wz_back ht hF hB
                          have hP : va_P D vwCl (wC a cI cZ cJ x_agesStand x_searchStands p_blocks p_lines p_edges p_pairs g_sets g_size g_penalty g_comeCount s_answered s_codes s_ordered_156 p_times p_touchCounts p_touchSlots p_lineOfSlot p_from p_to p_bounds p_pairA p_pairB p_leaving p_firstLeaving g_come g_outcomes g_greatestTimes g_leastTimes g_changed g_greatest g_least g_greatestNow g_leastNow s_order_156 (upd s_arriving_83 (Int32.toNatClampNeg (p_to (Int32.toNatClampNeg (p_leaving (Int32.toNatClampNeg v5_83))))) ((s_arriving_83 (Int32.toNatClampNeg (p_to (Int32.toNatClampNeg (p_leaving (Int32.toNatClampNeg v5_83)))))) - 1)) s_unit s_flag s_forbidding s_most s_fewest) H := hP
                          have hD : va_D A (wC a cI cZ cJ x_agesStand x_searchStands p_blocks p_lines p_edges p_pairs g_sets g_size g_penalty g_comeCount s_answered s_codes s_ordered_156 p_times p_touchCounts p_touchSlots p_lineOfSlot p_from p_to p_bounds p_pairA p_pairB p_leaving p_firstLeaving g_come g_outcomes g_greatestTimes g_leastTimes g_changed g_greatest g_least g_greatestNow g_leastNow s_order_156 (upd s_arriving_83 (Int32.toNatClampNeg (p_to (Int32.toNatClampNeg (p_leaving (Int32.toNatClampNeg v5_83))))) ((s_arriving_83 (Int32.toNatClampNeg (p_to (Int32.toNatClampNeg (p_leaving (Int32.toNatClampNeg v5_83)))))) - 1)) s_unit s_flag s_forbidding s_most s_fewest) := hD
                          refine lv_iinc (v := (v5_83 + 1)) (lv' := [(5, .int (v5_83 + 1)), (6, .int (p_leaving (Int32.toNatClampNeg v5_83))), (0, .ref (a 3)), (1, .ref (a 1)), (2, .ref (a 2)), (3, .int v3_52), (4, .int (s_order_52 (Int32.toNatClampNeg v3_52)))]) hx hb dX2_orderBlocks_159 hl (k := 6) rfl rfl (by decide) rfl (fun ls hl => ?_)
                          refine lv_goto (tgt := 83) hx hb dX2_orderBlocks_162 (by decide) ?_
                          exact ih83 (v5_83 + 1) s_ordered_156 s_order_156 (upd s_arriving_83 (Int32.toNatClampNeg (p_to (Int32.toNatClampNeg (p_leaving (Int32.toNatClampNeg v5_83))))) ((s_arriving_83 (Int32.toNatClampNeg (p_to (Int32.toNatClampNeg (p_leaving (Int32.toNatClampNeg v5_83)))))) - 1)) h _ _ hP hD hS _ (lv_sub hl [2, 3, 4, 5, 6, 0] rfl)
                obtain ⟨k9, h⟩ := h
                exact LP83 k9 (p_firstLeaving (Int32.toNatClampNeg (s_order_52 (Int32.toNatClampNeg v3_52)))) s_ordered_52 s_order_52 s_arriving_52 h _ _ hP hD hS _ (lv_sub hl [2, 3, 4, 5, 1, 0] rfl)
        obtain ⟨k9, h⟩ := h
        exact LP52 k9 0 s_ordered_13 s_order_13 s_arriving_3 h _ _ hP hD hS _ (lv_sub hl [1, 2, 3, 0] rfl)
      · replace h := h.2 hc
        refine lv_aload_n hx hb dX2_orderBlocks_21 rfl (lv_at hl 2 rfl) ?_
        refine va_get (D := D) (ci := 0) (v := .ref (a 15)) (C := RX0) (T := TX0) (N := 13) hx hb hts hinX0 hown hK hP 2 rfl rfl 3 (by decide) (hts (.fieldLink RX2 88 "WorstPaths$Ages" "come" "[Z") (by decide +kernel)) (fun _ h9 => h9) rfl dX2_orderBlocks_22 ?_
        refine lv_iload_n hx hb dX2_orderBlocks_25 rfl (lv_at hl 3 rfl) ?_
        obtain ⟨hq, h⟩ := h
        refine va_zald (D := D) hx hb hK hP 15 1 rfl rfl hq dX2_orderBlocks_26 ?_
        refine lv_if_eq (tgt := 44) hx hb dX2_orderBlocks_27 (by decide) (fun hc => ?_) (fun hc => ?_)
        · replace h := h.1 hc
          refine lv_iinc (v := (v3_13 + 1)) (lv' := [(3, .int (v3_13 + 1)), (0, .ref (a 3)), (1, .ref (a 1)), (2, .ref (a 2))]) hx hb dX2_orderBlocks_44 hl (k := 3) rfl rfl (by decide) rfl (fun ls hl => ?_)
          refine lv_goto (tgt := 13) hx hb dX2_orderBlocks_47 (by decide) ?_
          exact ih13 (v3_13 + 1) s_ordered_13 s_order_13 h _ _ hP hD hS _ (lv_sub hl [1, 2, 3, 0] rfl)
        · replace h := h.2 hc
          refine lv_aload_n hx hb dX2_orderBlocks_30 rfl (lv_at hl 0 rfl) ?_
          refine va_get (D := D) (ci := 2) (v := .ref (a 25)) (C := RX2) (T := TX2) (N := 10) hx hb hts hinX2 hown hK hP 3 rfl rfl 4 (by decide) (hts (.fieldLink RX2 15 "WorstPaths$Search" "arriving" "[I") (by decide +kernel)) (fun _ h9 => h9) rfl dX2_orderBlocks_31 ?_
          refine lv_iload_n hx hb dX2_orderBlocks_34 rfl (lv_at hl 3 rfl) ?_
          obtain ⟨hq, h⟩ := h
          refine va_iald (D := D) hx hb hK hP 25 0 rfl rfl hq dX2_orderBlocks_35 ?_
          refine lv_if_ne (tgt := 44) hx hb dX2_orderBlocks_36 (by decide) (fun hc => ?_) (fun hc => ?_)
          · replace h := h.1 hc
            refine lv_iinc (v := (v3_13 + 1)) (lv' := [(3, .int (v3_13 + 1)), (0, .ref (a 3)), (1, .ref (a 1)), (2, .ref (a 2))]) hx hb dX2_orderBlocks_44 hl (k := 3) rfl rfl (by decide) rfl (fun ls hl => ?_)
            refine lv_goto (tgt := 13) hx hb dX2_orderBlocks_47 (by decide) ?_
            exact ih13 (v3_13 + 1) s_ordered_13 s_order_13 h _ _ hP hD hS _ (lv_sub hl [1, 2, 3, 0] rfl)
          · replace h := h.2 hc
            refine lv_aload_n hx hb dX2_orderBlocks_39 rfl (lv_at hl 0 rfl) ?_
            refine lv_iload_n hx hb dX2_orderBlocks_40 rfl (lv_at hl 3 rfl) ?_
            have hF := wz_free hD hS hA
            refine va_callv (va_runV (As := [.int v3_13]) (rest := []) ⟨hx, hb, hml, hown, hts⟩ (c_X2_putInOrder l D a cI cZ cJ _ x_agesStand x_searchStands p_blocks p_lines p_edges p_pairs g_sets g_size g_penalty g_comeCount s_answered s_codes s_ordered_13 p_times p_touchCounts p_touchSlots p_lineOfSlot p_from p_to p_bounds p_pairA p_pairB p_leaving p_firstLeaving g_come g_outcomes g_greatestTimes g_leastTimes g_changed g_greatest g_least g_greatestNow g_leastNow s_order_13 s_arriving_3 s_unit s_flag s_forbidding s_most s_fewest v3_13 _ h) (cwV 1 hts gX2_orderBlocks_X2_putInOrder rfl rfl rfl (by decide +kernel) ⟨Nat.le_of_ble_eq_true rfl, Nat.le_of_ble_eq_true rfl⟩) ⟨wz_blind, va_recv hK hP (ci := 2) (q0 := 3) rfl rfl, fun U hU hW => wz_at hU hW hP hK hD⟩ rfl rfl hl.1 rfl (lv_room (Nat.le_of_ble_eq_true rfl)) dX2_orderBlocks_41 ⟨Nat.zero_le _, Nat.zero_le _⟩) hS (fun q _ hq => hF q hq) hF (fun u t H locs ht hvm h hB hz1 hk1 hS => ?_)
            obtain ⟨s_ordered_41, s_order_41⟩ := u
            dsimp only at h hB
            obtain ⟨hP, -, hD⟩ := wz_back ht hF hB
            have hP : va_P D vwCl (wC a cI cZ cJ x_agesStand x_searchStands p_blocks p_lines p_edges p_pairs g_sets g_size g_penalty g_comeCount s_answered s_codes s_ordered_41 p_times p_touchCounts p_touchSlots p_lineOfSlot p_from p_to p_bounds p_pairA p_pairB p_leaving p_firstLeaving g_come g_outcomes g_greatestTimes g_leastTimes g_changed g_greatest g_least g_greatestNow g_leastNow s_order_41 s_arriving_3 s_unit s_flag s_forbidding s_most s_fewest) H := hP
            have hD : va_D A (wC a cI cZ cJ x_agesStand x_searchStands p_blocks p_lines p_edges p_pairs g_sets g_size g_penalty g_comeCount s_answered s_codes s_ordered_41 p_times p_touchCounts p_touchSlots p_lineOfSlot p_from p_to p_bounds p_pairA p_pairB p_leaving p_firstLeaving g_come g_outcomes g_greatestTimes g_leastTimes g_changed g_greatest g_least g_greatestNow g_leastNow s_order_41 s_arriving_3 s_unit s_flag s_forbidding s_most s_fewest) := hD
            refine lv_iinc (v := (v3_13 + 1)) (lv' := [(3, .int (v3_13 + 1)), (0, .ref (a 3)), (1, .ref (a 1)), (2, .ref (a 2))]) hx hb dX2_orderBlocks_44 hl (k := 3) rfl rfl (by decide) rfl (fun ls hl => ?_)
            refine lv_goto (tgt := 13) hx hb dX2_orderBlocks_47 (by decide) ?_
            exact ih13 (v3_13 + 1) s_ordered_41 s_order_41 h _ _ hP hD hS _ (lv_sub hl [1, 2, 3, 0] rfl)
  obtain ⟨k9, h⟩ := h
  exact LP13 k9 0 0 s_order h _ _ hP hD hS _ (lv_sub hl [1, 2, 3, 0] rfl)
