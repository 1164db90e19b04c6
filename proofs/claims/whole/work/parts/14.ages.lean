def lp_X0_spread_42 (v3 : Int32) (p_blocks : Int32) (p_lines : Int32) (g_sets : Int32) (g_size : Int32) (p_touchCounts : Nat → Int32) (p_touchSlots : Nat → Int32) (p_lineOfSlot : Nat → Int32) (p_to : Nat → Int32) (p_leaving : Nat → Int32) (p_firstLeaving : Nat → Int32) (g_outcomes : Nat → Int32) (g_greatestNow : Nat → Int32) (g_leastNow : Nat → Int32) (K4 : Int32 → Int32 → (Nat → Int32) → (Nat → Int32) → (Nat → Int32) → (Nat → Int32) → (Nat → Int32) → (Nat → Int32) → (Nat → Int32) → Prop) (Q : Int32 → (Nat → Int32) → (Nat → Int32) → (Nat → Int32) → (Nat → Int32) → (Nat → Int32) → (Nat → Int32) → (Nat → Int32) → Prop) : Nat → Int32 → Int32 → (Nat → Int32) → (Nat → Int32) → (Nat → Int32) → (Nat → Int32) → Prop
  | 0, _, _, _, _, _, _ => False
  | n + 1, v2, v4, g_come, g_changed, g_greatest, g_least => vp_in (v3 + 1) 41 ∧ (((p_firstLeaving (Int32.toNatClampNeg (v3 + 1))) ≤ v4 → K4 v2 (v3 + 1) g_come g_outcomes g_changed g_greatest g_least g_greatestNow g_leastNow) ∧ (¬ (p_firstLeaving (Int32.toNatClampNeg (v3 + 1))) ≤ v4 → vp_in v4 80 ∧ (vp_in (p_leaving (Int32.toNatClampNeg v4)) 80 ∧ (wp_X0_joinInto (p_to (Int32.toNatClampNeg (p_leaving (Int32.toNatClampNeg v4)))) p_lines g_come g_greatest g_least g_greatestNow g_leastNow (fun r_76 g_come_76 g_greatest_76 g_least_76 => (r_76 = 0 → (lp_X0_spread_42 v3 p_blocks p_lines g_sets g_size p_touchCounts p_touchSlots p_lineOfSlot p_to p_leaving p_firstLeaving g_outcomes g_greatestNow g_leastNow K4 Q n) v2 (v4 + 1) g_come_76 g_changed g_greatest_76 g_least_76) ∧ (¬ r_76 = 0 → vp_in (p_to (Int32.toNatClampNeg (p_leaving (Int32.toNatClampNeg v4)))) 40 ∧ ((lp_X0_spread_42 v3 p_blocks p_lines g_sets g_size p_touchCounts p_touchSlots p_lineOfSlot p_to p_leaving p_firstLeaving g_outcomes g_greatestNow g_leastNow K4 Q n) 1 (v4 + 1) g_come_76 (upd g_changed (Int32.toNatClampNeg (p_to (Int32.toNatClampNeg (p_leaving (Int32.toNatClampNeg v4))))) (vp_nar .boolean 1)) g_greatest_76 g_least_76)))))))
def lp_X0_spread_4 (p_blocks : Int32) (p_lines : Int32) (g_sets : Int32) (g_size : Int32) (p_touchCounts : Nat → Int32) (p_touchSlots : Nat → Int32) (p_lineOfSlot : Nat → Int32) (p_to : Nat → Int32) (p_leaving : Nat → Int32) (p_firstLeaving : Nat → Int32) (Q : Int32 → (Nat → Int32) → (Nat → Int32) → (Nat → Int32) → (Nat → Int32) → (Nat → Int32) → (Nat → Int32) → (Nat → Int32) → Prop) : Nat → Int32 → Int32 → (Nat → Int32) → (Nat → Int32) → (Nat → Int32) → (Nat → Int32) → (Nat → Int32) → (Nat → Int32) → (Nat → Int32) → Prop
  | 0, _, _, _, _, _, _, _, _, _ => False
  | n + 1, v2, v3, g_come, g_outcomes, g_changed, g_greatest, g_least, g_greatestNow, g_leastNow => (p_blocks ≤ v3 → (narrow .boolean (.int v2) = .int v2) ∧ Q v2 g_come g_outcomes g_changed g_greatest g_least g_greatestNow g_leastNow) ∧ (¬ p_blocks ≤ v3 → vp_in v3 40 ∧ (((g_changed (Int32.toNatClampNeg v3)) = 0 → (lp_X0_spread_4 p_blocks p_lines g_sets g_size p_touchCounts p_touchSlots p_lineOfSlot p_to p_leaving p_firstLeaving Q n) v2 (v3 + 1) g_come g_outcomes g_changed g_greatest g_least g_greatestNow g_leastNow) ∧ (¬ (g_changed (Int32.toNatClampNeg v3)) = 0 → vp_in v3 40 ∧ (wp_X0_goThrough v3 p_lines g_sets g_size p_touchCounts p_touchSlots p_lineOfSlot g_outcomes g_greatest g_least g_greatestNow g_leastNow (fun g_outcomes_31 g_greatestNow_31 g_leastNow_31 => vp_in v3 41 ∧ (∃ k42, lp_X0_spread_42 v3 p_blocks p_lines g_sets g_size p_touchCounts p_touchSlots p_lineOfSlot p_to p_leaving p_firstLeaving g_outcomes_31 g_greatestNow_31 g_leastNow_31 (lp_X0_spread_4 p_blocks p_lines g_sets g_size p_touchCounts p_touchSlots p_lineOfSlot p_to p_leaving p_firstLeaving Q n) Q k42 v2 (p_firstLeaving (Int32.toNatClampNeg v3)) g_come (upd g_changed (Int32.toNatClampNeg v3) (vp_nar .boolean 0)) g_greatest g_least))))))
def wp_X0_spread (p_blocks : Int32) (p_lines : Int32) (g_sets : Int32) (g_size : Int32) (p_touchCounts : Nat → Int32) (p_touchSlots : Nat → Int32) (p_lineOfSlot : Nat → Int32) (p_to : Nat → Int32) (p_leaving : Nat → Int32) (p_firstLeaving : Nat → Int32) (g_come : Nat → Int32) (g_outcomes : Nat → Int32) (g_changed : Nat → Int32) (g_greatest : Nat → Int32) (g_least : Nat → Int32) (g_greatestNow : Nat → Int32) (g_leastNow : Nat → Int32) (Q : Int32 → (Nat → Int32) → (Nat → Int32) → (Nat → Int32) → (Nat → Int32) → (Nat → Int32) → (Nat → Int32) → (Nat → Int32) → Prop) : Prop := ∃ k4, lp_X0_spread_4 p_blocks p_lines g_sets g_size p_touchCounts p_touchSlots p_lineOfSlot p_to p_leaving p_firstLeaving Q k4 0 0 g_come g_outcomes g_changed g_greatest g_least g_greatestNow g_leastNow
abbrev rm_X0_spread : Room := { frames := 3, cells := 0, slots := 0, locals := 73 }
set_option maxHeartbeats 4000000 in
set_option maxRecDepth 100000 in
theorem c_X0_spread (l : Launch) (D : va_G) (a : Nat → Nat) (cI : ClassId) (cZ : ClassId) (cJ : ClassId) (sz : Nat) (x_agesStand : Int32) (x_searchStands : Int32) (p_blocks : Int32) (p_lines : Int32) (p_edges : Int32) (p_pairs : Int32) (g_sets : Int32) (g_size : Int32) (g_penalty : Int32) (g_comeCount : Int32) (s_answered : Int32) (s_codes : Int32) (s_ordered : Int32) (p_times : Nat → Int32) (p_touchCounts : Nat → Int32) (p_touchSlots : Nat → Int32) (p_lineOfSlot : Nat → Int32) (p_from : Nat → Int32) (p_to : Nat → Int32) (p_bounds : Nat → Int32) (p_pairA : Nat → Int32) (p_pairB : Nat → Int32) (p_leaving : Nat → Int32) (p_firstLeaving : Nat → Int32) (g_come : Nat → Int32) (g_outcomes : Nat → Int32) (g_greatestTimes : Nat → Int32) (g_leastTimes : Nat → Int32) (g_changed : Nat → Int32) (g_greatest : Nat → Int32) (g_least : Nat → Int32) (g_greatestNow : Nat → Int32) (g_leastNow : Nat → Int32) (s_order : Nat → Int32) (s_arriving : Nat → Int32) (s_unit : Nat → Int32) (s_flag : Nat → Int32) (s_forbidding : Nat → Int32) (s_most : Nat → Int64) (s_fewest : Nat → Int64) (Q : Int32 → (Nat → Int32) → (Nat → Int32) → (Nat → Int32) → (Nat → Int32) → (Nat → Int32) → (Nat → Int32) → (Nat → Int32) → Prop) (h : wp_X0_spread p_blocks p_lines g_sets g_size p_touchCounts p_touchSlots p_lineOfSlot p_to p_leaving p_firstLeaving g_come g_outcomes g_changed g_greatest g_least g_greatestNow g_leastNow Q) : Met l yX0_spread wsX0_spread rm_X0_spread (va_Pc [.ref (a 2), .ref (a 1)] (inW D cI cZ cJ sz (wC a cI cZ cJ x_agesStand x_searchStands p_blocks p_lines p_edges p_pairs g_sets g_size g_penalty g_comeCount s_answered s_codes s_ordered p_times p_touchCounts p_touchSlots p_lineOfSlot p_from p_to p_bounds p_pairA p_pairB p_leaving p_firstLeaving g_come g_outcomes g_greatestTimes g_leastTimes g_changed g_greatest g_least g_greatestNow g_leastNow s_order s_arriving s_unit s_flag s_forbidding s_most s_fewest))) (va_Qi (fun (r : Int32) (u : (Nat → Int32) × (Nat → Int32) × (Nat → Int32) × (Nat → Int32) × (Nat → Int32) × (Nat → Int32) × (Nat → Int32)) => Q r u.1 u.2.1 u.2.2.1 u.2.2.2.1 u.2.2.2.2.1 u.2.2.2.2.2.1 u.2.2.2.2.2.2) (fun (u : (Nat → Int32) × (Nat → Int32) × (Nat → Int32) × (Nat → Int32) × (Nat → Int32) × (Nat → Int32) × (Nat → Int32)) => outW D cI cZ cJ (va_A (wC a cI cZ cJ x_agesStand x_searchStands p_blocks p_lines p_edges p_pairs g_sets g_size g_penalty g_comeCount s_answered s_codes s_ordered p_times p_touchCounts p_touchSlots p_lineOfSlot p_from p_to p_bounds p_pairA p_pairB p_leaving p_firstLeaving g_come g_outcomes g_greatestTimes g_leastTimes g_changed g_greatest g_least g_greatestNow g_leastNow s_order s_arriving s_unit s_flag s_forbidding s_most s_fewest) sz) (wC a cI cZ cJ x_agesStand x_searchStands p_blocks p_lines p_edges p_pairs g_sets g_size g_penalty g_comeCount s_answered s_codes s_ordered p_times p_touchCounts p_touchSlots p_lineOfSlot p_from p_to p_bounds p_pairA p_pairB p_leaving p_firstLeaving u.1 u.2.1 g_greatestTimes g_leastTimes u.2.2.1 u.2.2.2.1 u.2.2.2.2.1 u.2.2.2.2.2.1 u.2.2.2.2.2.2 s_order s_arriving s_unit s_flag s_forbidding s_most s_fewest)) (va_A (wC a cI cZ cJ x_agesStand x_searchStands p_blocks p_lines p_edges p_pairs g_sets g_size g_penalty g_comeCount s_answered s_codes s_ordered p_times p_touchCounts p_touchSlots p_lineOfSlot p_from p_to p_bounds p_pairA p_pairB p_leaving p_firstLeaving g_come g_outcomes g_greatestTimes g_leastTimes g_changed g_greatest g_least g_greatestNow g_leastNow s_order s_arriving s_unit s_flag s_forbidding s_most s_fewest) sz)) 0 0 (va_A (wC a cI cZ cJ x_agesStand x_searchStands p_blocks p_lines p_edges p_pairs g_sets g_size g_penalty g_comeCount s_answered s_codes s_ordered p_times p_touchCounts p_touchSlots p_lineOfSlot p_from p_to p_bounds p_pairA p_pairB p_leaving p_firstLeaving g_come g_outcomes g_greatestTimes g_leastTimes g_changed g_greatest g_least g_greatestNow g_leastNow s_order s_arriving s_unit s_flag s_forbidding s_most s_fewest) sz) := by
  refine Met.ofW (cc := cX0_spread) (maxL := 6) (ret := (some .boolean)) (by decide +kernel) rfl ?_
  intro p e s m args below meth c s₁ B hml hv
  obtain ⟨rfl, hsz, hP, hK, hD0⟩ := hv
  have hx := B.exec
  have hb := B.bytes
  have hr := B.returns
  have hts := atoms_spec (ws := wsX0_spread) B.pre
  have hown : s.vm.findClass RX0 = some m.cls := findClass_of_methodNamed B.named
  have hlocks := B.notSynchronized
  have hinX0 : ∀ w ∈ wsX00, w ∈ wsX0_spread := by decide +kernel
  have hinX1 : ∀ w ∈ wsX10, w ∈ wsX0_spread := by decide +kernel
  subst hsz
  have hD := hD0.self (sz := s.heap.size)
  generalize hAe : va_A (wC a cI cZ cJ x_agesStand x_searchStands p_blocks p_lines p_edges p_pairs g_sets g_size g_penalty g_comeCount s_answered s_codes s_ordered p_times p_touchCounts p_touchSlots p_lineOfSlot p_from p_to p_bounds p_pairA p_pairB p_leaving p_firstLeaving g_come g_outcomes g_greatestTimes g_leastTimes g_changed g_greatest g_least g_greatestNow g_leastNow s_order s_arriving s_unit s_flag s_forbidding s_most s_fewest) s.heap.size = A at hD ⊢
  have hA : ∀ q : Nat, s.heap.size ≤ q → A q := fun q h => by rw [← hAe]; exact Or.inr h
  have hS : va_S A s.heap s.heap [] := va_S.rf
  have hP : va_P D vwCl (wC a cI cZ cJ x_agesStand x_searchStands p_blocks p_lines p_edges p_pairs g_sets g_size g_penalty g_comeCount s_answered s_codes s_ordered p_times p_touchCounts p_touchSlots p_lineOfSlot p_from p_to p_bounds p_pairA p_pairB p_leaving p_firstLeaving g_come g_outcomes g_greatestTimes g_leastTimes g_changed g_greatest g_least g_greatestNow g_leastNow s_order s_arriving s_unit s_flag s_forbidding s_most s_fewest) s.heap := hP
  have hl := lv_entry ([.ref (a 2), .ref (a 1)]) (n := 6) (Nat.le_of_ble_eq_true rfl)
  rw [lg_entry_eq]
  generalize (lg_sl ([.ref (a 2), .ref (a 1)]) ++ List.replicate (6 - (lg_sl ([.ref (a 2), .ref (a 1)])).length) Slot.unset).toArray = ls at hl ⊢
  have hl : lv_has ls 6 [(0, .ref (a 2)), (1, .ref (a 1))] := hl
  refine wz_abs (fun Qz hQz => ?_)
  unfold wp_X0_spread at h
  refine lv_iconst (v := 0) hx hb dX0_spread_0 (by decide) ?_
  refine lv_istore_n (lv' := [(2, .int 0), (0, .ref (a 2)), (1, .ref (a 1))]) hx hb dX0_spread_1 rfl hl (by decide) rfl (fun ls hl => ?_)
  refine lv_iconst (v := 0) hx hb dX0_spread_2 (by decide) ?_
  refine lv_istore_n (lv' := [(3, .int 0), (2, .int 0), (0, .ref (a 2)), (1, .ref (a 1))]) hx hb dX0_spread_3 rfl hl (by decide) rfl (fun ls hl => ?_)
  have LP4 : ∀ (n4 : Nat) (v2_4 : Int32) (v3_4 : Int32) (g_come_4 : Nat → Int32) (g_outcomes_4 : Nat → Int32) (g_changed_4 : Nat → Int32) (g_greatest_4 : Nat → Int32) (g_least_4 : Nat → Int32) (g_greatestNow_4 : Nat → Int32) (g_leastNow_4 : Nat → Int32), lp_X0_spread_4 p_blocks p_lines g_sets g_size p_touchCounts p_touchSlots p_lineOfSlot p_to p_leaving p_firstLeaving Q n4 v2_4 v3_4 g_come_4 g_outcomes_4 g_changed_4 g_greatest_4 g_least_4 g_greatestNow_4 g_leastNow_4 → ∀ (H : Heap) (locs : List Loc), va_P D vwCl (wC a cI cZ cJ x_agesStand x_searchStands p_blocks p_lines p_edges p_pairs g_sets g_size g_penalty g_comeCount s_answered s_codes s_ordered p_times p_touchCounts p_touchSlots p_lineOfSlot p_from p_to p_bounds p_pairA p_pairB p_leaving p_firstLeaving g_come_4 g_outcomes_4 g_greatestTimes g_leastTimes g_changed_4 g_greatest_4 g_least_4 g_greatestNow_4 g_leastNow_4 s_order s_arriving s_unit s_flag s_forbidding s_most s_fewest) H → va_D A (wC a cI cZ cJ x_agesStand x_searchStands p_blocks p_lines p_edges p_pairs g_sets g_size g_penalty g_comeCount s_answered s_codes s_ordered p_times p_touchCounts p_touchSlots p_lineOfSlot p_from p_to p_bounds p_pairA p_pairB p_leaving p_firstLeaving g_come_4 g_outcomes_4 g_greatestTimes g_leastTimes g_changed_4 g_greatest_4 g_least_4 g_greatestNow_4 g_leastNow_4 s_order s_arriving s_unit s_flag s_forbidding s_most s_fewest) → va_S A s.heap H locs → ∀ (ls : Array Slot), lv_has ls 6 [(0, .ref (a 2)), (1, .ref (a 1)), (2, .int v2_4), (3, .int v3_4)] → W p l e (headSpec wsX0_spread rm_X0_spread).room s m ([Value.ref (a 2), Value.ref (a 1)] : List Value).toArray below meth c H locs 0 0 Qz (F0 m 4 ls []) := by
    intro n4
    induction n4 with
    | zero => intro v2_4 v3_4 g_come_4 g_outcomes_4 g_changed_4 g_greatest_4 g_least_4 g_greatestNow_4 g_leastNow_4 h; exact h.elim
    | succ n4 ih4 =>
      intro v2_4 v3_4 g_come_4 g_outcomes_4 g_changed_4 g_greatest_4 g_least_4 g_greatestNow_4 g_leastNow_4 h H locs hP hD hS ls hl
      unfold lp_X0_spread_4 at h
      refine lv_iload_n hx hb dX0_spread_4 rfl (lv_at hl 3 rfl) ?_
      refine lv_aload_n hx hb dX0_spread_5 rfl (lv_at hl 1 rfl) ?_
      refine va_get (D := D) (ci := 1) (v := .int p_blocks) (C := RX1) (T := TX1) (N := 15) hx hb hts hinX1 hown hK hP 1 rfl rfl 0 (by decide) (hts (.fieldLink RX0 62 "WorstPaths$Program" "blocks" "I") (by decide +kernel)) (fun _ h9 => h9) rfl dX0_spread_6 ?_
      refine lv_icmp_ge (tgt := 104) hx hb dX0_spread_9 (by decide) (fun hc => ?_) (fun hc => ?_)
      · replace h := h.1 hc
        refine lv_iload_n hx hb dX0_spread_104 rfl (lv_at hl 2 rfl) ?_
        refine wz_mono hQz ?_
        obtain ⟨hn9, h⟩ := h
        exact W.zret (v := v2_4) hx hb hr hn9 (fun t ht hW => ⟨⟨v2_4, (g_come_4, g_outcomes_4, g_changed_4, g_greatest_4, g_least_4, g_greatestNow_4, g_leastNow_4), rfl, h, by rw [ht]; exact hP, va_K.moved hW.alike hK, hD⟩, hS.F ht⟩) hS.2.2 dX0_spread_105
      · replace h := h.2 hc
        refine lv_aload_n hx hb dX0_spread_12 rfl (lv_at hl 0 rfl) ?_
        refine va_get (D := D) (ci := 0) (v := .ref (a 19)) (C := RX0) (T := TX0) (N := 13) hx hb hts hinX0 hown hK hP 2 rfl rfl 8 (by decide) (hts (.fieldLink RX0 25 "WorstPaths$Ages" "changed" "[Z") (by decide +kernel)) (fun _ h9 => h9) rfl dX0_spread_13 ?_
        refine lv_iload_n hx hb dX0_spread_16 rfl (lv_at hl 3 rfl) ?_
        obtain ⟨hq, h⟩ := h
        refine va_zald (D := D) hx hb hK hP 19 1 rfl rfl hq dX0_spread_17 ?_
        refine lv_if_eq (tgt := 98) hx hb dX0_spread_18 (by decide) (fun hc => ?_) (fun hc => ?_)
        · replace h := h.1 hc
          refine lv_iinc (v := (v3_4 + 1)) (lv' := [(3, .int (v3_4 + 1)), (0, .ref (a 2)), (1, .ref (a 1)), (2, .int v2_4)]) hx hb dX0_spread_98 hl (k := 3) rfl rfl (by decide) rfl (fun ls hl => ?_)
          refine lv_goto (tgt := 4) hx hb dX0_spread_101 (by decide) ?_
          exact ih4 v2_4 (v3_4 + 1) g_come_4 g_outcomes_4 g_changed_4 g_greatest_4 g_least_4 g_greatestNow_4 g_leastNow_4 h _ _ hP hD hS _ (lv_sub hl [1, 2, 3, 0] rfl)
        · replace h := h.2 hc
          refine lv_aload_n hx hb dX0_spread_21 rfl (lv_at hl 0 rfl) ?_
          refine va_get (D := D) (ci := 0) (v := .ref (a 19)) (C := RX0) (T := TX0) (N := 13) hx hb hts hinX0 hown hK hP 2 rfl rfl 8 (by decide) (hts (.fieldLink RX0 25 "WorstPaths$Ages" "changed" "[Z") (by decide +kernel)) (fun _ h9 => h9) rfl dX0_spread_22 ?_
          refine lv_iload_n hx hb dX0_spread_25 rfl (lv_at hl 3 rfl) ?_
          refine lv_iconst (v := 0) hx hb dX0_spread_26 (by decide) ?_
          obtain ⟨hq, h⟩ := h
          refine va_zast (D := D) hx hb hK hP hD hS 19 1 rfl rfl hq dX0_spread_27 (fun H locs hP hD hS => ?_)
          have hP : va_P D vwCl (wC a cI cZ cJ x_agesStand x_searchStands p_blocks p_lines p_edges p_pairs g_sets g_size g_penalty g_comeCount s_answered s_codes s_ordered p_times p_touchCounts p_touchSlots p_lineOfSlot p_from p_to p_bounds p_pairA p_pairB p_leaving p_firstLeaving g_come_4 g_outcomes_4 g_greatestTimes g_leastTimes (upd g_changed_4 (Int32.toNatClampNeg v3_4) (vp_nar .boolean 0)) g_greatest_4 g_least_4 g_greatestNow_4 g_leastNow_4 s_order s_arriving s_unit s_flag s_forbidding s_most s_fewest) H := hP
          have hD : va_D A (wC a cI cZ cJ x_agesStand x_searchStands p_blocks p_lines p_edges p_pairs g_sets g_size g_penalty g_comeCount s_answered s_codes s_ordered p_times p_touchCounts p_touchSlots p_lineOfSlot p_from p_to p_bounds p_pairA p_pairB p_leaving p_firstLeaving g_come_4 g_outcomes_4 g_greatestTimes g_leastTimes (upd g_changed_4 (Int32.toNatClampNeg v3_4) (vp_nar .boolean 0)) g_greatest_4 g_least_4 g_greatestNow_4 g_leastNow_4 s_order s_arriving s_unit s_flag s_forbidding s_most s_fewest) := hD
          refine lv_aload_n hx hb dX0_spread_28 rfl (lv_at hl 0 rfl) ?_
          refine lv_aload_n hx hb dX0_spread_29 rfl (lv_at hl 1 rfl) ?_
          refine lv_iload_n hx hb dX0_spread_30 rfl (lv_at hl 3 rfl) ?_
          have hF := wz_free hD hS hA
          refine va_callv (va_runV (As := [.ref (a 1), .int v3_4]) (rest := []) ⟨hx, hb, hml, hown, hts⟩ (c_X0_goThrough l D a cI cZ cJ _ x_agesStand x_searchStands p_blocks p_lines p_edges p_pairs g_sets g_size g_penalty g_comeCount s_answered s_codes s_ordered p_times p_touchCounts p_touchSlots p_lineOfSlot p_from p_to p_bounds p_pairA p_pairB p_leaving p_firstLeaving g_come_4 g_outcomes_4 g_greatestTimes g_leastTimes (upd g_changed_4 (Int32.toNatClampNeg v3_4) (vp_nar .boolean 0)) g_greatest_4 g_least_4 g_greatestNow_4 g_leastNow_4 s_order s_arriving s_unit s_flag s_forbidding s_most s_fewest v3_4 _ h) (cwV 2 hts gX0_spread_X0_goThrough rfl rfl rfl (by decide +kernel) ⟨Nat.le_of_ble_eq_true rfl, Nat.le_of_ble_eq_true rfl⟩) ⟨wz_blind, va_recv hK hP (ci := 0) (q0 := 2) rfl rfl, fun U hU hW => wz_at hU hW hP hK hD⟩ rfl rfl hl.1 rfl (lv_room (Nat.le_of_ble_eq_true rfl)) dX0_spread_31 ⟨Nat.zero_le _, Nat.zero_le _⟩) hS (fun q _ hq => hF q hq) hF (fun u t H locs ht hvm h hB hz1 hk1 hS => ?_)
          obtain ⟨g_outcomes_31, g_greatestNow_31, g_leastNow_31⟩ := u
          dsimp only at h hB
          obtain ⟨hP, -, hD⟩ := wz_back ht hF hB
          have hP : va_P D vwCl (wC a cI cZ cJ x_agesStand x_searchStands p_blocks p_lines p_edges p_pairs g_sets g_size g_penalty g_comeCount s_answered s_codes s_ordered p_times p_touchCounts p_touchSlots p_lineOfSlot p_from p_to p_bounds p_pairA p_pairB p_leaving p_firstLeaving g_come_4 g_outcomes_31 g_greatestTimes g_leastTimes (upd g_changed_4 (Int32.toNatClampNeg v3_4) (vp_nar .boolean 0)) g_greatest_4 g_least_4 g_greatestNow_31 g_leastNow_31 s_order s_arriving s_unit s_flag s_forbidding s_most s_fewest) H := hP
          have hD : va_D A (wC a cI cZ cJ x_agesStand x_searchStands p_blocks p_lines p_edges p_pairs g_sets g_size g_penalty g_comeCount s_answered s_codes s_ordered p_times p_touchCounts p_touchSlots p_lineOfSlot p_from p_to p_bounds p_pairA p_pairB p_leaving p_firstLeaving g_come_4 g_outcomes_31 g_greatestTimes g_leastTimes (upd g_changed_4 (Int32.toNatClampNeg v3_4) (vp_nar .boolean 0)) g_greatest_4 g_least_4 g_greatestNow_31 g_leastNow_31 s_order s_arriving s_unit s_flag s_forbidding s_most s_fewest) := hD
          refine lv_aload_n hx hb dX0_spread_34 rfl (lv_at hl 1 rfl) ?_
          refine va_get (D := D) (ci := 1) (v := .ref (a 14)) (C := RX1) (T := TX1) (N := 15) hx hb hts hinX1 hown hK hP 1 rfl rfl 14 (by decide) (hts (.fieldLink RX0 87 "WorstPaths$Program" "firstLeaving" "[I") (by decide +kernel)) (fun _ h9 => h9) rfl dX0_spread_35 ?_
          refine lv_iload_n hx hb dX0_spread_38 rfl (lv_at hl 3 rfl) ?_
          obtain ⟨hq, h⟩ := h
          refine va_iald (D := D) hx hb hK hP 14 0 rfl rfl hq dX0_spread_39 ?_
          refine lv_istore (lv' := [(4, .int (p_firstLeaving (Int32.toNatClampNeg v3_4))), (0, .ref (a 2)), (1, .ref (a 1)), (2, .int v2_4), (3, .int v3_4)]) hx hb dX0_spread_40 hl (by decide) rfl (fun ls hl => ?_)
          have LP42 : ∀ (n42 : Nat) (v2_42 : Int32) (v4_42 : Int32) (g_come_42 : Nat → Int32) (g_changed_42 : Nat → Int32) (g_greatest_42 : Nat → Int32) (g_least_42 : Nat → Int32), lp_X0_spread_42 v3_4 p_blocks p_lines g_sets g_size p_touchCounts p_touchSlots p_lineOfSlot p_to p_leaving p_firstLeaving g_outcomes_31 g_greatestNow_31 g_leastNow_31 (lp_X0_spread_4 p_blocks p_lines g_sets g_size p_touchCounts p_touchSlots p_lineOfSlot p_to p_leaving p_firstLeaving Q n4) Q n42 v2_42 v4_42 g_come_42 g_changed_42 g_greatest_42 g_least_42 → ∀ (H : Heap) (locs : List Loc), va_P D vwCl (wC a cI cZ cJ x_agesStand x_searchStands p_blocks p_lines p_edges p_pairs g_sets g_size g_penalty g_comeCount s_answered s_codes s_ordered p_times p_touchCounts p_touchSlots p_lineOfSlot p_from p_to p_bounds p_pairA p_pairB p_leaving p_firstLeaving g_come_42 g_outcomes_31 g_greatestTimes g_leastTimes g_changed_42 g_greatest_42 g_least_42 g_greatestNow_31 g_leastNow_31 s_order s_arriving s_unit s_flag s_forbidding s_most s_fewest) H → va_D A (wC a cI cZ cJ x_agesStand x_searchStands p_blocks p_lines p_edges p_pairs g_sets g_size g_penalty g_comeCount s_answered s_codes s_ordered p_times p_touchCounts p_touchSlots p_lineOfSlot p_from p_to p_bounds p_pairA p_pairB p_leaving p_firstLeaving g_come_42 g_outcomes_31 g_greatestTimes g_leastTimes g_changed_42 g_greatest_42 g_least_42 g_greatestNow_31 g_leastNow_31 s_order s_arriving s_unit s_flag s_forbidding s_most s_fewest) → va_S A s.heap H locs → ∀ (ls : Array Slot), lv_has ls 6 [(0, .ref (a 2)), (1, .ref (a 1)), (2, .int v2_42), (3, .int v3_4), (4, .int v4_42)] → W p l e (headSpec wsX0_spread rm_X0_spread).room s m ([Value.ref (a 2), Value.ref (a 1)] : List Value).toArray below meth c H locs 0 0 Qz (F0 m 42 ls []) := by
            intro n42
            induction n42 with
            | zero => intro v2_42 v4_42 g_come_42 g_changed_42 g_greatest_42 g_least_42 h; exact h.elim
            | succ n42 ih42 =>
              intro v2_42 v4_42 g_come_42 g_changed_42 g_greatest_42 g_least_42 h H locs hP hD hS ls hl
              unfold lp_X0_spread_42 at h
              refine lv_iload hx hb dX0_spread_42 (lv_at hl 4 rfl) ?_
              refine lv_aload_n hx hb dX0_spread_44 rfl (lv_at hl 1 rfl) ?_
              refine va_get (D := D) (ci := 1) (v := .ref (a 14)) (C := RX1) (T := TX1) (N := 15) hx hb hts hinX1 hown hK hP 1 rfl rfl 14 (by decide) (hts (.fieldLink RX0 87 "WorstPaths$Program" "firstLeaving" "[I") (by decide +kernel)) (fun _ h9 => h9) rfl dX0_spread_45 ?_
              refine lv_iload_n hx hb dX0_spread_48 rfl (lv_at hl 3 rfl) ?_
              refine lv_iconst (v := 1) hx hb dX0_spread_49 (by decide) ?_
              refine lv_iadd hx hb dX0_spread_50 ?_
              obtain ⟨hq, h⟩ := h
              refine va_iald (D := D) hx hb hK hP 14 0 rfl rfl hq dX0_spread_51 ?_
              refine lv_icmp_ge (tgt := 98) hx hb dX0_spread_52 (by decide) (fun hc => ?_) (fun hc => ?_)
              · replace h := h.1 hc
                refine lv_iinc (v := (v3_4 + 1)) (lv' := [(3, .int (v3_4 + 1)), (0, .ref (a 2)), (1, .ref (a 1)), (2, .int v2_42), (4, .int v4_42)]) hx hb dX0_spread_98 hl (k := 3) rfl rfl (by decide) rfl (fun ls hl => ?_)
                refine lv_goto (tgt := 4) hx hb dX0_spread_101 (by decide) ?_
                exact ih4 v2_42 (v3_4 + 1) g_come_42 g_outcomes_31 g_changed_42 g_greatest_42 g_least_42 g_greatestNow_31 g_leastNow_31 h _ _ hP hD hS _ (lv_sub hl [1, 2, 3, 0] rfl)
              · replace h := h.2 hc
                refine lv_aload_n hx hb dX0_spread_55 rfl (lv_at hl 1 rfl) ?_
                refine va_get (D := D) (ci := 1) (v := .ref (a 9)) (C := RX1) (T := TX1) (N := 15) hx hb hts hinX1 hown hK hP 1 rfl rfl 9 (by decide) (hts (.fieldLink RX0 90 "WorstPaths$Program" "to" "[I") (by decide +kernel)) (fun _ h9 => h9) rfl dX0_spread_56 ?_
                refine lv_aload_n hx hb dX0_spread_59 rfl (lv_at hl 1 rfl) ?_
                refine va_get (D := D) (ci := 1) (v := .ref (a 13)) (C := RX1) (T := TX1) (N := 15) hx hb hts hinX1 hown hK hP 1 rfl rfl 13 (by decide) (hts (.fieldLink RX0 93 "WorstPaths$Program" "leaving" "[I") (by decide +kernel)) (fun _ h9 => h9) rfl dX0_spread_60 ?_
                refine lv_iload hx hb dX0_spread_63 (lv_at hl 4 rfl) ?_
                obtain ⟨hq, h⟩ := h
                refine va_iald (D := D) hx hb hK hP 13 0 rfl rfl hq dX0_spread_65 ?_
                obtain ⟨hq, h⟩ := h
                refine va_iald (D := D) hx hb hK hP 9 0 rfl rfl hq dX0_spread_66 ?_
                refine lv_istore (lv' := [(5, .int (p_to (Int32.toNatClampNeg (p_leaving (Int32.toNatClampNeg v4_42))))), (0, .ref (a 2)), (1, .ref (a 1)), (2, .int v2_42), (3, .int v3_4), (4, .int v4_42)]) hx hb dX0_spread_67 hl (by decide) rfl (fun ls hl => ?_)
                refine lv_aload_n hx hb dX0_spread_69 rfl (lv_at hl 1 rfl) ?_
                refine lv_iload hx hb dX0_spread_70 (lv_at hl 0 rfl) ?_
                refine lv_aload_n hx hb dX0_spread_72 rfl (lv_at hl 2 rfl) ?_
                refine va_get (D := D) (ci := 1) (v := .int p_lines) (C := RX1) (T := TX1) (N := 15) hx hb hts hinX1 hown hK hP 1 rfl rfl 1 (by decide) (hts (.fieldLink RX0 77 "WorstPaths$Program" "lines" "I") (by decide +kernel)) (fun _ h9 => h9) rfl dX0_spread_73 ?_
                have hF := wz_free hD hS hA
                refine va_calli (va_runV (As := [.int (p_to (Int32.toNatClampNeg (p_leaving (Int32.toNatClampNeg v4_42)))), .int p_lines]) (rest := []) ⟨hx, hb, hml, hown, hts⟩ (c_X0_joinInto l D a cI cZ cJ _ x_agesStand x_searchStands p_blocks p_lines p_edges p_pairs g_sets g_size g_penalty g_comeCount s_answered s_codes s_ordered p_times p_touchCounts p_touchSlots p_lineOfSlot p_from p_to p_bounds p_pairA p_pairB p_leaving p_firstLeaving g_come_42 g_outcomes_31 g_greatestTimes g_leastTimes g_changed_42 g_greatest_42 g_least_42 g_greatestNow_31 g_leastNow_31 s_order s_arriving s_unit s_flag s_forbidding s_most s_fewest (p_to (Int32.toNatClampNeg (p_leaving (Int32.toNatClampNeg v4_42)))) p_lines _ h) (cwV 2 hts gX0_spread_X0_joinInto rfl rfl rfl (by decide +kernel) ⟨Nat.le_of_ble_eq_true rfl, Nat.le_of_ble_eq_true rfl⟩) ⟨wz_blind, va_recv hK hP (ci := 0) (q0 := 2) rfl rfl, fun U hU hW => wz_at hU hW hP hK hD⟩ rfl rfl hl.1 rfl (lv_room (Nat.le_of_ble_eq_true rfl)) dX0_spread_76 ⟨Nat.zero_le _, Nat.zero_le _⟩) hS (fun q _ hq => hF q hq) hF (fun r_76 u t H locs ht hvm h hB hz1 hk1 hS => ?_)
                obtain ⟨g_come_76, g_greatest_76, g_least_76⟩ := u
                dsimp only at h hB
                obtain ⟨hP, -, hD⟩ := wz_back ht hF hB
                have hP : va_P D vwCl (wC a cI cZ cJ x_agesStand x_searchStands p_blocks p_lines p_edges p_pairs g_sets g_size g_penalty g_comeCount s_answered s_codes s_ordered p_times p_touchCounts p_touchSlots p_lineOfSlot p_from p_to p_bounds p_pairA p_pairB p_leaving p_firstLeaving g_come_76 g_outcomes_31 g_greatestTimes g_leastTimes g_changed_42 g_greatest_76 g_least_76 g_greatestNow_31 g_leastNow_31 s_order s_arriving s_unit s_flag s_forbidding s_most s_fewest) H := hP
                have hD : va_D A (wC a cI cZ cJ x_agesStand x_searchStands p_blocks p_lines p_edges p_pairs g_sets g_size g_penalty g_comeCount s_answered s_codes s_ordered p_times p_touchCounts p_touchSlots p_lineOfSlot p_from p_to p_bounds p_pairA p_pairB p_leaving p_firstLeaving g_come_76 g_outcomes_31 g_greatestTimes g_leastTimes g_changed_42 g_greatest_76 g_least_76 g_greatestNow_31 g_leastNow_31 s_order s_arriving s_unit s_flag s_forbidding s_most s_fewest) := hD
                refine lv_if_eq (tgt := 92) hx hb dX0_spread_79 (by decide) (fun hc => ?_) (fun hc => ?_)
                · replace h := h.1 hc
                  refine lv_iinc (v := (v4_42 + 1)) (lv' := [(4, .int (v4_42 + 1)), (5, .int (p_to (Int32.toNatClampNeg (p_leaving (Int32.toNatClampNeg v4_42))))), (0, .ref (a 2)), (1, .ref (a 1)), (2, .int v2_42), (3, .int v3_4)]) hx hb dX0_spread_92 hl (k := 5) rfl rfl (by decide) rfl (fun ls hl => ?_)
                  refine lv_goto (tgt := 42) hx hb dX0_spread_95 (by decide) ?_
                  exact ih42 v2_42 (v4_42 + 1) g_come_76 g_changed_42 g_greatest_76 g_least_76 h _ _ hP hD hS _ (lv_sub hl [2, 3, 4, 5, 0] rfl)
                · replace h := h.2 hc
                  refine lv_aload_n hx hb dX0_spread_82 rfl (lv_at hl 1 rfl) ?_
                  refine va_get (D := D) (ci := 0) (v := .ref (a 19)) (C := RX0) (T := TX0) (N := 13) hx hb hts hinX0 hown hK hP 2 rfl rfl 8 (by decide) (hts (.fieldLink RX0 25 "WorstPaths$Ages" "changed" "[Z") (by decide +kernel)) (fun _ h9 => h9) rfl dX0_spread_83 ?_
                  refine lv_iload hx hb dX0_spread_86 (lv_at hl 0 rfl) ?_
                  refine lv_iconst (v := 1) hx hb dX0_spread_88 (by decide) ?_
                  obtain ⟨hq, h⟩ := h
                  refine va_zast (D := D) hx hb hK hP hD hS 19 1 rfl rfl hq dX0_spread_89 (fun H locs hP hD hS => ?_)
                  have hP : va_P D vwCl (wC a cI cZ cJ x_agesStand x_searchStands p_blocks p_lines p_edges p_pairs g_sets g_size g_penalty g_comeCount s_answered s_codes s_ordered p_times p_touchCounts p_touchSlots p_lineOfSlot p_from p_to p_bounds p_pairA p_pairB p_leaving p_firstLeaving g_come_76 g_outcomes_31 g_greatestTimes g_leastTimes (upd g_changed_42 (Int32.toNatClampNeg (p_to (Int32.toNatClampNeg (p_leaving (Int32.toNatClampNeg v4_42))))) (vp_nar .boolean 1)) g_greatest_76 g_least_76 g_greatestNow_31 g_leastNow_31 s_order s_arriving s_unit s_flag s_forbidding s_most s_fewest) H := hP
                  have hD : va_D A (wC a cI cZ cJ x_agesStand x_searchStands p_blocks p_lines p_edges p_pairs g_sets g_size g_penalty g_comeCount s_answered s_codes s_ordered p_times p_touchCounts p_touchSlots p_lineOfSlot p_from p_to p_bounds p_pairA p_pairB p_leaving p_firstLeaving g_come_76 g_outcomes_31 g_greatestTimes g_leastTimes (upd g_changed_42 (Int32.toNatClampNeg (p_to (Int32.toNatClampNeg (p_leaving (Int32.toNatClampNeg v4_42))))) (vp_nar .boolean 1)) g_greatest_76 g_least_76 g_greatestNow_31 g_leastNow_31 s_order s_arriving s_unit s_flag s_forbidding s_most s_fewest) := hD
                  refine lv_iconst (v := 1) hx hb dX0_spread_90 (by decide) ?_
                  refine lv_istore_n (lv' := [(2, .int 1), (5, .int (p_to (Int32.toNatClampNeg (p_leaving (Int32.toNatClampNeg v4_42))))), (0, .ref (a 2)), (1, .ref (a 1)), (3, .int v3_4), (4, .int v4_42)]) hx hb dX0_spread_91 rfl hl (by decide) rfl (fun ls hl => ?_)
                  refine lv_iinc (v := (v4_42 + 1)) (lv' := [(4, .int (v4_42 + 1)), (2, .int 1), (5, .int (p_to (Int32.toNatClampNeg (p_leaving (Int32.toNatClampNeg v4_42))))), (0, .ref (a 2)), (1, .ref (a 1)), (3, .int v3_4)]) hx hb dX0_spread_92 hl (k := 5) rfl rfl (by decide) rfl (fun ls hl => ?_)
                  refine lv_goto (tgt := 42) hx hb dX0_spread_95 (by decide) ?_
                  exact ih42 1 (v4_42 + 1) g_come_76 (upd g_changed_42 (Int32.toNatClampNeg (p_to (Int32.toNatClampNeg (p_leaving (Int32.toNatClampNeg v4_42))))) (vp_nar .boolean 1)) g_greatest_76 g_least_76 h _ _ hP hD hS _ (lv_sub hl [3, 4, 1, 5, 0] rfl)
          obtain ⟨k9, h⟩ := h
          exact LP42 k9 v2_4 (p_firstLeaving (Int32.toNatClampNeg v3_4)) g_come_4 (upd g_changed_4 (Int32.toNatClampNeg v3_4) (vp_nar .boolean 0)) g_greatest_4 g_least_4 h _ _ hP hD hS _ (lv_sub hl [1, 2, 3, 4, 0] rfl)
  obtain ⟨k9, h⟩ := h
  exact LP4 k9 0 0 g_come g_outcomes g_changed g_greatest g_least g_greatestNow g_leastNow h _ _ hP hD hS _ (lv_sub hl [2, 3, 1, 0] rfl)
def jn_X0_judge_86 (v2 : Int32) (v3 : Int32) (v4 : Int32) (g_penalty : Int32) (p_times : Nat → Int32) (p_touchCounts : Nat → Int32) (g_come : Nat → Int32) (g_outcomes : Nat → Int32) (g_greatestTimes : Nat → Int32) (g_leastTimes : Nat → Int32) (Q : (Nat → Int32) → (Nat → Int32) → Prop) : Prop := vp_in v2 40 ∧ (vp_in v2 40 ∧ (Q (upd g_greatestTimes (Int32.toNatClampNeg v2) v3) (upd g_leastTimes (Int32.toNatClampNeg v2) v4)))
def jn_X0_judge_65 (v2 : Int32) (v3 : Int32) (v4 : Int32) (v5 : Int32) (v6 : Int32) (g_penalty : Int32) (p_times : Nat → Int32) (p_touchCounts : Nat → Int32) (g_come : Nat → Int32) (g_outcomes : Nat → Int32) (g_greatestTimes : Nat → Int32) (g_leastTimes : Nat → Int32) (K27 : Int32 → Int32 → Int32 → Prop) (Q : (Nat → Int32) → (Nat → Int32) → Prop) : Prop := (¬ v6 = 2 → K27 v3 v4 (v5 + 1)) ∧ (v6 = 2 → K27 v3 (v4 + g_penalty) (v5 + 1))
def lp_X0_judge_27 (v2 : Int32) (g_penalty : Int32) (p_times : Nat → Int32) (p_touchCounts : Nat → Int32) (g_come : Nat → Int32) (g_outcomes : Nat → Int32) (g_greatestTimes : Nat → Int32) (g_leastTimes : Nat → Int32) (Q : (Nat → Int32) → (Nat → Int32) → Prop) : Nat → Int32 → Int32 → Int32 → Prop
  | 0, _, _, _ => False
  | n + 1, v3, v4, v5 => vp_in v2 40 ∧ (((p_touchCounts (Int32.toNatClampNeg v2)) ≤ v5 → jn_X0_judge_86 v2 v3 v4 g_penalty p_times p_touchCounts g_come g_outcomes g_greatestTimes g_leastTimes Q) ∧ (¬ (p_touchCounts (Int32.toNatClampNeg v2)) ≤ v5 → vp_in ((v2 * 6) + v5) 240 ∧ (((g_outcomes (Int32.toNatClampNeg ((v2 * 6) + v5))) = 1 → jn_X0_judge_65 v2 v3 v4 v5 (g_outcomes (Int32.toNatClampNeg ((v2 * 6) + v5))) g_penalty p_times p_touchCounts g_come g_outcomes g_greatestTimes g_leastTimes (lp_X0_judge_27 v2 g_penalty p_times p_touchCounts g_come g_outcomes g_greatestTimes g_leastTimes Q n) Q) ∧ (¬ (g_outcomes (Int32.toNatClampNeg ((v2 * 6) + v5))) = 1 → jn_X0_judge_65 v2 (v3 + g_penalty) v4 v5 (g_outcomes (Int32.toNatClampNeg ((v2 * 6) + v5))) g_penalty p_times p_touchCounts g_come g_outcomes g_greatestTimes g_leastTimes (lp_X0_judge_27 v2 g_penalty p_times p_touchCounts g_come g_outcomes g_greatestTimes g_leastTimes Q n) Q))))
def wp_X0_judge (v2 : Int32) (g_penalty : Int32) (p_times : Nat → Int32) (p_touchCounts : Nat → Int32) (g_come : Nat → Int32) (g_outcomes : Nat → Int32) (g_greatestTimes : Nat → Int32) (g_leastTimes : Nat → Int32) (Q : (Nat → Int32) → (Nat → Int32) → Prop) : Prop := vp_in v2 40 ∧ (vp_in v2 40 ∧ (vp_in v2 40 ∧ (((g_come (Int32.toNatClampNeg v2)) = 0 → jn_X0_judge_86 v2 (p_times (Int32.toNatClampNeg v2)) (p_times (Int32.toNatClampNeg v2)) g_penalty p_times p_touchCounts g_come g_outcomes g_greatestTimes g_leastTimes Q) ∧ (¬ (g_come (Int32.toNatClampNeg v2)) = 0 → ∃ k27, lp_X0_judge_27 v2 g_penalty p_times p_touchCounts g_come g_outcomes g_greatestTimes g_leastTimes Q k27 (p_times (Int32.toNatClampNeg v2)) (p_times (Int32.toNatClampNeg v2)) 0))))
abbrev rm_X0_judge : Room := { frames := 0, cells := 0, slots := 0, locals := 0 }
set_option maxHeartbeats 4000000 in
set_option maxRecDepth 100000 in
theorem c_X0_judge (l : Launch) (D : va_G) (a : Nat → Nat) (cI : ClassId) (cZ : ClassId) (cJ : ClassId) (sz : Nat) (x_agesStand : Int32) (x_searchStands : Int32) (p_blocks : Int32) (p_lines : Int32) (p_edges : Int32) (p_pairs : Int32) (g_sets : Int32) (g_size : Int32) (g_penalty : Int32) (g_comeCount : Int32) (s_answered : Int32) (s_codes : Int32) (s_ordered : Int32) (p_times : Nat → Int32) (p_touchCounts : Nat → Int32) (p_touchSlots : Nat → Int32) (p_lineOfSlot : Nat → Int32) (p_from : Nat → Int32) (p_to : Nat → Int32) (p_bounds : Nat → Int32) (p_pairA : Nat → Int32) (p_pairB : Nat → Int32) (p_leaving : Nat → Int32) (p_firstLeaving : Nat → Int32) (g_come : Nat → Int32) (g_outcomes : Nat → Int32) (g_greatestTimes : Nat → Int32) (g_leastTimes : Nat → Int32) (g_changed : Nat → Int32) (g_greatest : Nat → Int32) (g_least : Nat → Int32) (g_greatestNow : Nat → Int32) (g_leastNow : Nat → Int32) (s_order : Nat → Int32) (s_arriving : Nat → Int32) (s_unit : Nat → Int32) (s_flag : Nat → Int32) (s_forbidding : Nat → Int32) (s_most : Nat → Int64) (s_fewest : Nat → Int64) (v2 : Int32) (Q : (Nat → Int32) → (Nat → Int32) → Prop) (h : wp_X0_judge v2 g_penalty p_times p_touchCounts g_come g_outcomes g_greatestTimes g_leastTimes Q) : Met l yX0_judge wsX0_judge rm_X0_judge (va_Pc [.ref (a 2), .ref (a 1), .int v2] (inW D cI cZ cJ sz (wC a cI cZ cJ x_agesStand x_searchStands p_blocks p_lines p_edges p_pairs g_sets g_size g_penalty g_comeCount s_answered s_codes s_ordered p_times p_touchCounts p_touchSlots p_lineOfSlot p_from p_to p_bounds p_pairA p_pairB p_leaving p_firstLeaving g_come g_outcomes g_greatestTimes g_leastTimes g_changed g_greatest g_least g_greatestNow g_leastNow s_order s_arriving s_unit s_flag s_forbidding s_most s_fewest))) (va_Qv (fun (u : (Nat → Int32) × (Nat → Int32)) => Q u.1 u.2) (fun (u : (Nat → Int32) × (Nat → Int32)) => outW D cI cZ cJ (va_A (wC a cI cZ cJ x_agesStand x_searchStands p_blocks p_lines p_edges p_pairs g_sets g_size g_penalty g_comeCount s_answered s_codes s_ordered p_times p_touchCounts p_touchSlots p_lineOfSlot p_from p_to p_bounds p_pairA p_pairB p_leaving p_firstLeaving g_come g_outcomes g_greatestTimes g_leastTimes g_changed g_greatest g_least g_greatestNow g_leastNow s_order s_arriving s_unit s_flag s_forbidding s_most s_fewest) sz) (wC a cI cZ cJ x_agesStand x_searchStands p_blocks p_lines p_edges p_pairs g_sets g_size g_penalty g_comeCount s_answered s_codes s_ordered p_times p_touchCounts p_touchSlots p_lineOfSlot p_from p_to p_bounds p_pairA p_pairB p_leaving p_firstLeaving g_come g_outcomes u.1 u.2 g_changed g_greatest g_least g_greatestNow g_leastNow s_order s_arriving s_unit s_flag s_forbidding s_most s_fewest)) (va_A (wC a cI cZ cJ x_agesStand x_searchStands p_blocks p_lines p_edges p_pairs g_sets g_size g_penalty g_comeCount s_answered s_codes s_ordered p_times p_touchCounts p_touchSlots p_lineOfSlot p_from p_to p_bounds p_pairA p_pairB p_leaving p_firstLeaving g_come g_outcomes g_greatestTimes g_leastTimes g_changed g_greatest g_least g_greatestNow g_leastNow s_order s_arriving s_unit s_flag s_forbidding s_most s_fewest) sz)) 0 0 (va_A (wC a cI cZ cJ x_agesStand x_searchStands p_blocks p_lines p_edges p_pairs g_sets g_size g_penalty g_comeCount s_answered s_codes s_ordered p_times p_touchCounts p_touchSlots p_lineOfSlot p_from p_to p_bounds p_pairA p_pairB p_leaving p_firstLeaving g_come g_outcomes g_greatestTimes g_leastTimes g_changed g_greatest g_least g_greatestNow g_leastNow s_order s_arriving s_unit s_flag s_forbidding s_most s_fewest) sz) := by
  refine Met.ofW (cc := cX0_judge) (maxL := 7) (ret := none) (by decide +kernel) rfl ?_
  intro p e s m args below meth c s₁ B hml hv
  obtain ⟨rfl, hsz, hP, hK, hD0⟩ := hv
  have hx := B.exec
  have hb := B.bytes
  have hr := B.returns
  have hts := atoms_spec (ws := wsX0_judge) B.pre
  have hown : s.vm.findClass RX0 = some m.cls := findClass_of_methodNamed B.named
  have hlocks := B.notSynchronized
  have hinX0 : ∀ w ∈ wsX00, w ∈ wsX0_judge := by decide +kernel
  have hinX1 : ∀ w ∈ wsX10, w ∈ wsX0_judge := by decide +kernel
  subst hsz
  have hD := hD0.self (sz := s.heap.size)
  generalize hAe : va_A (wC a cI cZ cJ x_agesStand x_searchStands p_blocks p_lines p_edges p_pairs g_sets g_size g_penalty g_comeCount s_answered s_codes s_ordered p_times p_touchCounts p_touchSlots p_lineOfSlot p_from p_to p_bounds p_pairA p_pairB p_leaving p_firstLeaving g_come g_outcomes g_greatestTimes g_leastTimes g_changed g_greatest g_least g_greatestNow g_leastNow s_order s_arriving s_unit s_flag s_forbidding s_most s_fewest) s.heap.size = A at hD ⊢
  have hA : ∀ q : Nat, s.heap.size ≤ q → A q := fun q h => by rw [← hAe]; exact Or.inr h
  have hS : va_S A s.heap s.heap [] := va_S.rf
  have hP : va_P D vwCl (wC a cI cZ cJ x_agesStand x_searchStands p_blocks p_lines p_edges p_pairs g_sets g_size g_penalty g_comeCount s_answered s_codes s_ordered p_times p_touchCounts p_touchSlots p_lineOfSlot p_from p_to p_bounds p_pairA p_pairB p_leaving p_firstLeaving g_come g_outcomes g_greatestTimes g_leastTimes g_changed g_greatest g_least g_greatestNow g_leastNow s_order s_arriving s_unit s_flag s_forbidding s_most s_fewest) s.heap := hP
  have hl := lv_entry ([.ref (a 2), .ref (a 1), .int v2]) (n := 7) (Nat.le_of_ble_eq_true rfl)
  rw [lg_entry_eq]
  generalize (lg_sl ([.ref (a 2), .ref (a 1), .int v2]) ++ List.replicate (7 - (lg_sl ([.ref (a 2), .ref (a 1), .int v2])).length) Slot.unset).toArray = ls at hl ⊢
  have hl : lv_has ls 7 [(0, .ref (a 2)), (1, .ref (a 1)), (2, .int v2)] := hl
  refine wz_abs (fun Qz hQz => ?_)
  unfold wp_X0_judge at h
  refine lv_aload_n hx hb dX0_judge_0 rfl (lv_at hl 1 rfl) ?_
  refine va_get (D := D) (ci := 1) (v := .ref (a 4)) (C := RX1) (T := TX1) (N := 15) hx hb hts hinX1 hown hK hP 1 rfl rfl 4 (by decide) (hts (.fieldLink RX0 115 "WorstPaths$Program" "times" "[I") (by decide +kernel)) (fun _ h9 => h9) rfl dX0_judge_1 ?_
  refine lv_iload_n hx hb dX0_judge_4 rfl (lv_at hl 2 rfl) ?_
  obtain ⟨hq, h⟩ := h
  refine va_iald (D := D) hx hb hK hP 4 0 rfl rfl hq dX0_judge_5 ?_
  refine lv_istore_n (lv' := [(3, .int (p_times (Int32.toNatClampNeg v2))), (0, .ref (a 2)), (1, .ref (a 1)), (2, .int v2)]) hx hb dX0_judge_6 rfl hl (by decide) rfl (fun ls hl => ?_)
  refine lv_aload_n hx hb dX0_judge_7 rfl (lv_at hl 2 rfl) ?_
  refine va_get (D := D) (ci := 1) (v := .ref (a 4)) (C := RX1) (T := TX1) (N := 15) hx hb hts hinX1 hown hK hP 1 rfl rfl 4 (by decide) (hts (.fieldLink RX0 115 "WorstPaths$Program" "times" "[I") (by decide +kernel)) (fun _ h9 => h9) rfl dX0_judge_8 ?_
  refine lv_iload_n hx hb dX0_judge_11 rfl (lv_at hl 3 rfl) ?_
  obtain ⟨hq, h⟩ := h
  refine va_iald (D := D) hx hb hK hP 4 0 rfl rfl hq dX0_judge_12 ?_
  refine lv_istore (lv' := [(4, .int (p_times (Int32.toNatClampNeg v2))), (3, .int (p_times (Int32.toNatClampNeg v2))), (0, .ref (a 2)), (1, .ref (a 1)), (2, .int v2)]) hx hb dX0_judge_13 hl (by decide) rfl (fun ls hl => ?_)
  refine lv_aload_n hx hb dX0_judge_15 rfl (lv_at hl 2 rfl) ?_
  refine va_get (D := D) (ci := 0) (v := .ref (a 15)) (C := RX0) (T := TX0) (N := 13) hx hb hts hinX0 hown hK hP 2 rfl rfl 3 (by decide) (hts (.fieldLink RX0 9 "WorstPaths$Ages" "come" "[Z") (by decide +kernel)) (fun _ h9 => h9) rfl dX0_judge_16 ?_
  refine lv_iload_n hx hb dX0_judge_19 rfl (lv_at hl 4 rfl) ?_
  obtain ⟨hq, h⟩ := h
  refine va_zald (D := D) hx hb hK hP 15 1 rfl rfl hq dX0_judge_20 ?_
  have JP86 : ∀ (v3_86 : Int32) (v4_86 : Int32), jn_X0_judge_86 v2 v3_86 v4_86 g_penalty p_times p_touchCounts g_come g_outcomes g_greatestTimes g_leastTimes Q → ∀ (H : Heap) (locs : List Loc), va_P D vwCl (wC a cI cZ cJ x_agesStand x_searchStands p_blocks p_lines p_edges p_pairs g_sets g_size g_penalty g_comeCount s_answered s_codes s_ordered p_times p_touchCounts p_touchSlots p_lineOfSlot p_from p_to p_bounds p_pairA p_pairB p_leaving p_firstLeaving g_come g_outcomes g_greatestTimes g_leastTimes g_changed g_greatest g_least g_greatestNow g_leastNow s_order s_arriving s_unit s_flag s_forbidding s_most s_fewest) H → va_D A (wC a cI cZ cJ x_agesStand x_searchStands p_blocks p_lines p_edges p_pairs g_sets g_size g_penalty g_comeCount s_answered s_codes s_ordered p_times p_touchCounts p_touchSlots p_lineOfSlot p_from p_to p_bounds p_pairA p_pairB p_leaving p_firstLeaving g_come g_outcomes g_greatestTimes g_leastTimes g_changed g_greatest g_least g_greatestNow g_leastNow s_order s_arriving s_unit s_flag s_forbidding s_most s_fewest) → va_S A s.heap H locs → ∀ (ls : Array Slot), lv_has ls 7 [(0, .ref (a 2)), (2, .int v2), (3, .int v3_86), (4, .int v4_86)] → W p l e (headSpec wsX0_judge rm_X0_judge).room s m ([Value.ref (a 2), Value.ref (a 1), Value.int v2] : List Value).toArray below meth c H locs 0 0 Qz (F0 m 86 ls []) := by
    intro v3_86 v4_86 h H locs hP hD hS ls hl
    unfold jn_X0_judge_86 at h
    refine lv_aload_n hx hb dX0_judge_86 rfl (lv_at hl 0 rfl) ?_
    refine va_get (D := D) (ci := 0) (v := .ref (a 17)) (C := RX0) (T := TX0) (N := 13) hx hb hts hinX0 hown hK hP 2 rfl rfl 6 (by decide) (hts (.fieldLink RX0 19 "WorstPaths$Ages" "greatestTimes" "[I") (by decide +kernel)) (fun _ h9 => h9) rfl dX0_judge_87 ?_
    refine lv_iload_n hx hb dX0_judge_90 rfl (lv_at hl 1 rfl) ?_
    refine lv_iload_n hx hb dX0_judge_91 rfl (lv_at hl 2 rfl) ?_
    obtain ⟨hq, h⟩ := h
    refine va_iast (D := D) hx hb hK hP hD hS 17 0 rfl rfl hq dX0_judge_92 (fun H locs hP hD hS => ?_)
    have hP : va_P D vwCl (wC a cI cZ cJ x_agesStand x_searchStands p_blocks p_lines p_edges p_pairs g_sets g_size g_penalty g_comeCount s_answered s_codes s_ordered p_times p_touchCounts p_touchSlots p_lineOfSlot p_from p_to p_bounds p_pairA p_pairB p_leaving p_firstLeaving g_come g_outcomes (upd g_greatestTimes (Int32.toNatClampNeg v2) v3_86) g_leastTimes g_changed g_greatest g_least g_greatestNow g_leastNow s_order s_arriving s_unit s_flag s_forbidding s_most s_fewest) H := hP
    have hD : va_D A (wC a cI cZ cJ x_agesStand x_searchStands p_blocks p_lines p_edges p_pairs g_sets g_size g_penalty g_comeCount s_answered s_codes s_ordered p_times p_touchCounts p_touchSlots p_lineOfSlot p_from p_to p_bounds p_pairA p_pairB p_leaving p_firstLeaving g_come g_outcomes (upd g_greatestTimes (Int32.toNatClampNeg v2) v3_86) g_leastTimes g_changed g_greatest g_least g_greatestNow g_leastNow s_order s_arriving s_unit s_flag s_forbidding s_most s_fewest) := hD
    refine lv_aload_n hx hb dX0_judge_93 rfl (lv_at hl 0 rfl) ?_
    refine va_get (D := D) (ci := 0) (v := .ref (a 18)) (C := RX0) (T := TX0) (N := 13) hx hb hts hinX0 hown hK hP 2 rfl rfl 7 (by decide) (hts (.fieldLink RX0 22 "WorstPaths$Ages" "leastTimes" "[I") (by decide +kernel)) (fun _ h9 => h9) rfl dX0_judge_94 ?_
    refine lv_iload_n hx hb dX0_judge_97 rfl (lv_at hl 1 rfl) ?_
    refine lv_iload hx hb dX0_judge_98 (lv_at hl 3 rfl) ?_
    obtain ⟨hq, h⟩ := h
    refine va_iast (D := D) hx hb hK hP hD hS 18 0 rfl rfl hq dX0_judge_100 (fun H locs hP hD hS => ?_)
    have hP : va_P D vwCl (wC a cI cZ cJ x_agesStand x_searchStands p_blocks p_lines p_edges p_pairs g_sets g_size g_penalty g_comeCount s_answered s_codes s_ordered p_times p_touchCounts p_touchSlots p_lineOfSlot p_from p_to p_bounds p_pairA p_pairB p_leaving p_firstLeaving g_come g_outcomes (upd g_greatestTimes (Int32.toNatClampNeg v2) v3_86) (upd g_leastTimes (Int32.toNatClampNeg v2) v4_86) g_changed g_greatest g_least g_greatestNow g_leastNow s_order s_arriving s_unit s_flag s_forbidding s_most s_fewest) H := hP
    have hD : va_D A (wC a cI cZ cJ x_agesStand x_searchStands p_blocks p_lines p_edges p_pairs g_sets g_size g_penalty g_comeCount s_answered s_codes s_ordered p_times p_touchCounts p_touchSlots p_lineOfSlot p_from p_to p_bounds p_pairA p_pairB p_leaving p_firstLeaving g_come g_outcomes (upd g_greatestTimes (Int32.toNatClampNeg v2) v3_86) (upd g_leastTimes (Int32.toNatClampNeg v2) v4_86) g_changed g_greatest g_least g_greatestNow g_leastNow s_order s_arriving s_unit s_flag s_forbidding s_most s_fewest) := hD
    refine wz_mono hQz ?_
    exact W.vret hx hb hr (fun t ht hW => ⟨⟨((upd g_greatestTimes (Int32.toNatClampNeg v2) v3_86), (upd g_leastTimes (Int32.toNatClampNeg v2) v4_86)), rfl, h, by rw [ht]; exact hP, va_K.moved hW.alike hK, hD⟩, hS.F ht⟩) hS.2.2 dX0_judge_101
  refine lv_if_eq (tgt := 86) hx hb dX0_judge_21 (by decide) (fun hc => ?_) (fun hc => ?_)
  · replace h := h.1 hc
    exact JP86 (p_times (Int32.toNatClampNeg v2)) (p_times (Int32.toNatClampNeg v2)) h _ _ hP hD hS _ (lv_sub hl [2, 4, 1, 0] rfl)
  · replace h := h.2 hc
    refine lv_iconst (v := 0) hx hb dX0_judge_24 (by decide) ?_
    refine lv_istore (lv' := [(5, .int 0), (4, .int (p_times (Int32.toNatClampNeg v2))), (3, .int (p_times (Int32.toNatClampNeg v2))), (0, .ref (a 2)), (1, .ref (a 1)), (2, .int v2)]) hx hb dX0_judge_25 hl (by decide) rfl (fun ls hl => ?_)
    have LP27 : ∀ (n27 : Nat) (v3_27 : Int32) (v4_27 : Int32) (v5_27 : Int32), lp_X0_judge_27 v2 g_penalty p_times p_touchCounts g_come g_outcomes g_greatestTimes g_leastTimes Q n27 v3_27 v4_27 v5_27 → ∀ (H : Heap) (locs : List Loc), va_P D vwCl (wC a cI cZ cJ x_agesStand x_searchStands p_blocks p_lines p_edges p_pairs g_sets g_size g_penalty g_comeCount s_answered s_codes s_ordered p_times p_touchCounts p_touchSlots p_lineOfSlot p_from p_to p_bounds p_pairA p_pairB p_leaving p_firstLeaving g_come g_outcomes g_greatestTimes g_leastTimes g_changed g_greatest g_least g_greatestNow g_leastNow s_order s_arriving s_unit s_flag s_forbidding s_most s_fewest) H → va_D A (wC a cI cZ cJ x_agesStand x_searchStands p_blocks p_lines p_edges p_pairs g_sets g_size g_penalty g_comeCount s_answered s_codes s_ordered p_times p_touchCounts p_touchSlots p_lineOfSlot p_from p_to p_bounds p_pairA p_pairB p_leaving p_firstLeaving g_come g_outcomes g_greatestTimes g_leastTimes g_changed g_greatest g_least g_greatestNow g_leastNow s_order s_arriving s_unit s_flag s_forbidding s_most s_fewest) → va_S A s.heap H locs → ∀ (ls : Array Slot), lv_has ls 7 [(0, .ref (a 2)), (1, .ref (a 1)), (2, .int v2), (3, .int v3_27), (4, .int v4_27), (5, .int v5_27)] → W p l e (headSpec wsX0_judge rm_X0_judge).room s m ([Value.ref (a 2), Value.ref (a 1), Value.int v2] : List Value).toArray below meth c H locs 0 0 Qz (F0 m 27 ls []) := by
      intro n27
      induction n27 with
      | zero => intro v3_27 v4_27 v5_27 h; exact h.elim
      | succ n27 ih27 =>
        intro v3_27 v4_27 v5_27 h H locs hP hD hS ls hl
        unfold lp_X0_judge_27 at h
        refine lv_iload hx hb dX0_judge_27 (lv_at hl 5 rfl) ?_
        refine lv_aload_n hx hb dX0_judge_29 rfl (lv_at hl 1 rfl) ?_
        refine va_get (D := D) (ci := 1) (v := .ref (a 5)) (C := RX1) (T := TX1) (N := 15) hx hb hts hinX1 hown hK hP 1 rfl rfl 5 (by decide) (hts (.fieldLink RX0 96 "WorstPaths$Program" "touchCounts" "[I") (by decide +kernel)) (fun _ h9 => h9) rfl dX0_judge_30 ?_
        refine lv_iload_n hx hb dX0_judge_33 rfl (lv_at hl 2 rfl) ?_
        obtain ⟨hq, h⟩ := h
        refine va_iald (D := D) hx hb hK hP 5 0 rfl rfl hq dX0_judge_34 ?_
        refine lv_icmp_ge (tgt := 86) hx hb dX0_judge_35 (by decide) (fun hc => ?_) (fun hc => ?_)
        · replace h := h.1 hc
          exact JP86 v3_27 v4_27 h _ _ hP hD hS _ (lv_sub hl [0, 2, 3, 4] rfl)
        · replace h := h.2 hc
          refine lv_aload_n hx hb dX0_judge_38 rfl (lv_at hl 0 rfl) ?_
          refine va_get (D := D) (ci := 0) (v := .ref (a 16)) (C := RX0) (T := TX0) (N := 13) hx hb hts hinX0 hown hK hP 2 rfl rfl 5 (by decide) (hts (.fieldLink RX0 15 "WorstPaths$Ages" "outcomes" "[I") (by decide +kernel)) (fun _ h9 => h9) rfl dX0_judge_39 ?_
          refine lv_iload_n hx hb dX0_judge_42 rfl (lv_at hl 2 rfl) ?_
          refine lv_bipush (v := 6) hx hb dX0_judge_43 (by decide) ?_
          refine lv_imul hx hb dX0_judge_45 ?_
          refine lv_iload hx hb dX0_judge_46 (lv_at hl 5 rfl) ?_
          refine lv_iadd hx hb dX0_judge_48 ?_
          obtain ⟨hq, h⟩ := h
          refine va_iald (D := D) hx hb hK hP 16 0 rfl rfl hq dX0_judge_49 ?_
          refine lv_istore (lv' := [(6, .int (g_outcomes (Int32.toNatClampNeg ((v2 * 6) + v5_27)))), (0, .ref (a 2)), (1, .ref (a 1)), (2, .int v2), (3, .int v3_27), (4, .int v4_27), (5, .int v5_27)]) hx hb dX0_judge_50 hl (by decide) rfl (fun ls hl => ?_)
          refine lv_iload hx hb dX0_judge_52 (lv_at hl 0 rfl) ?_
          refine lv_iconst (v := 1) hx hb dX0_judge_54 (by decide) ?_
          have JP65 : ∀ (v3_65 : Int32), jn_X0_judge_65 v2 v3_65 v4_27 v5_27 (g_outcomes (Int32.toNatClampNeg ((v2 * 6) + v5_27))) g_penalty p_times p_touchCounts g_come g_outcomes g_greatestTimes g_leastTimes (lp_X0_judge_27 v2 g_penalty p_times p_touchCounts g_come g_outcomes g_greatestTimes g_leastTimes Q n27) Q → ∀ (H : Heap) (locs : List Loc), va_P D vwCl (wC a cI cZ cJ x_agesStand x_searchStands p_blocks p_lines p_edges p_pairs g_sets g_size g_penalty g_comeCount s_answered s_codes s_ordered p_times p_touchCounts p_touchSlots p_lineOfSlot p_from p_to p_bounds p_pairA p_pairB p_leaving p_firstLeaving g_come g_outcomes g_greatestTimes g_leastTimes g_changed g_greatest g_least g_greatestNow g_leastNow s_order s_arriving s_unit s_flag s_forbidding s_most s_fewest) H → va_D A (wC a cI cZ cJ x_agesStand x_searchStands p_blocks p_lines p_edges p_pairs g_sets g_size g_penalty g_comeCount s_answered s_codes s_ordered p_times p_touchCounts p_touchSlots p_lineOfSlot p_from p_to p_bounds p_pairA p_pairB p_leaving p_firstLeaving g_come g_outcomes g_greatestTimes g_leastTimes g_changed g_greatest g_least g_greatestNow g_leastNow s_order s_arriving s_unit s_flag s_forbidding s_most s_fewest) → va_S A s.heap H locs → ∀ (ls : Array Slot), lv_has ls 7 [(0, .ref (a 2)), (1, .ref (a 1)), (2, .int v2), (3, .int v3_65), (4, .int v4_27), (5, .int v5_27), (6, .int (g_outcomes (Int32.toNatClampNeg ((v2 * 6) + v5_27))))] → W p l e (headSpec wsX0_judge rm_X0_judge).room s m ([Value.ref (a 2), Value.ref (a 1), Value.int v2] : List Value).toArray below meth c H locs 0 0 Qz (F0 m 65 ls []) := by
            intro v3_65 h H locs hP hD hS ls hl
            unfold jn_X0_judge_65 at h
            refine lv_iload hx hb dX0_judge_65 (lv_at hl 6 rfl) ?_
            refine lv_iconst (v := 2) hx hb dX0_judge_67 (by decide) ?_
            refine lv_icmp_ne (tgt := 80) hx hb dX0_judge_68 (by decide) (fun hc => ?_) (fun hc => ?_)
            · replace h := h.1 hc
              refine lv_iinc (v := (v5_27 + 1)) (lv' := [(5, .int (v5_27 + 1)), (0, .ref (a 2)), (1, .ref (a 1)), (2, .int v2), (3, .int v3_65), (4, .int v4_27), (6, .int (g_outcomes (Int32.toNatClampNeg ((v2 * 6) + v5_27))))]) hx hb dX0_judge_80 hl (k := 5) rfl rfl (by decide) rfl (fun ls hl => ?_)
              refine lv_goto (tgt := 27) hx hb dX0_judge_83 (by decide) ?_
              exact ih27 v3_65 v4_27 (v5_27 + 1) h _ _ hP hD hS _ (lv_sub hl [1, 2, 3, 4, 5, 0] rfl)
            · replace h := h.2 hc
              refine lv_iload hx hb dX0_judge_71 (lv_at hl 4 rfl) ?_
              refine lv_aload_n hx hb dX0_judge_73 rfl (lv_at hl 0 rfl) ?_
              refine va_get (D := D) (ci := 0) (v := .int g_penalty) (C := RX0) (T := TX0) (N := 13) hx hb hts hinX0 hown hK hP 2 rfl rfl 2 (by decide) (hts (.fieldLink RX0 47 "WorstPaths$Ages" "penalty" "I") (by decide +kernel)) (fun _ h9 => h9) rfl dX0_judge_74 ?_
              refine lv_iadd hx hb dX0_judge_77 ?_
              refine lv_istore (lv' := [(4, .int (v4_27 + g_penalty)), (0, .ref (a 2)), (1, .ref (a 1)), (2, .int v2), (3, .int v3_65), (5, .int v5_27), (6, .int (g_outcomes (Int32.toNatClampNeg ((v2 * 6) + v5_27))))]) hx hb dX0_judge_78 hl (by decide) rfl (fun ls hl => ?_)
              refine lv_iinc (v := (v5_27 + 1)) (lv' := [(5, .int (v5_27 + 1)), (4, .int (v4_27 + g_penalty)), (0, .ref (a 2)), (1, .ref (a 1)), (2, .int v2), (3, .int v3_65), (6, .int (g_outcomes (Int32.toNatClampNeg ((v2 * 6) + v5_27))))]) hx hb dX0_judge_80 hl (k := 5) rfl rfl (by decide) rfl (fun ls hl => ?_)
              refine lv_goto (tgt := 27) hx hb dX0_judge_83 (by decide) ?_
              exact ih27 v3_65 (v4_27 + g_penalty) (v5_27 + 1) h _ _ hP hD hS _ (lv_sub hl [2, 3, 4, 5, 1, 0] rfl)
          refine lv_icmp_eq (tgt := 65) hx hb dX0_judge_55 (by decide) (fun hc => ?_) (fun hc => ?_)
          · replace h := h.1 hc
            exact JP65 v3_27 h _ _ hP hD hS _ (lv_sub hl [1, 2, 3, 4, 5, 6, 0] rfl)
          · replace h := h.2 hc
            refine lv_iload_n hx hb dX0_judge_58 rfl (lv_at hl 4 rfl) ?_
            refine lv_aload_n hx hb dX0_judge_59 rfl (lv_at hl 1 rfl) ?_
            refine va_get (D := D) (ci := 0) (v := .int g_penalty) (C := RX0) (T := TX0) (N := 13) hx hb hts hinX0 hown hK hP 2 rfl rfl 2 (by decide) (hts (.fieldLink RX0 47 "WorstPaths$Ages" "penalty" "I") (by decide +kernel)) (fun _ h9 => h9) rfl dX0_judge_60 ?_
            refine lv_iadd hx hb dX0_judge_63 ?_
            refine lv_istore_n (lv' := [(3, .int (v3_27 + g_penalty)), (6, .int (g_outcomes (Int32.toNatClampNeg ((v2 * 6) + v5_27)))), (0, .ref (a 2)), (1, .ref (a 1)), (2, .int v2), (4, .int v4_27), (5, .int v5_27)]) hx hb dX0_judge_64 rfl hl (by decide) rfl (fun ls hl => ?_)
            exact JP65 (v3_27 + g_penalty) h _ _ hP hD hS _ (lv_sub hl [2, 3, 4, 0, 5, 6, 1] rfl)
    obtain ⟨k9, h⟩ := h
    exact LP27 k9 (p_times (Int32.toNatClampNeg v2)) (p_times (Int32.toNatClampNeg v2)) 0 h _ _ hP hD hS _ (lv_sub hl [3, 4, 5, 2, 1, 0] rfl)
def lp_X0_settle_38 (p_blocks : Int32) (p_lines : Int32) (g_sets : Int32) (g_size : Int32) (g_penalty : Int32) (p_times : Nat → Int32) (p_touchCounts : Nat → Int32) (p_touchSlots : Nat → Int32) (p_lineOfSlot : Nat → Int32) (p_to : Nat → Int32) (p_leaving : Nat → Int32) (p_firstLeaving : Nat → Int32) (g_come : Nat → Int32) (g_outcomes : Nat → Int32) (g_changed : Nat → Int32) (g_greatest : Nat → Int32) (g_least : Nat → Int32) (g_greatestNow : Nat → Int32) (g_leastNow : Nat → Int32) (Q : Int32 → (Nat → Int32) → (Nat → Int32) → (Nat → Int32) → (Nat → Int32) → (Nat → Int32) → (Nat → Int32) → (Nat → Int32) → (Nat → Int32) → (Nat → Int32) → Prop) : Nat → Int32 → Int32 → (Nat → Int32) → (Nat → Int32) → Prop
  | 0, _, _, _, _ => False
  | n + 1, v3, g_comeCount, g_greatestTimes, g_leastTimes => (p_blocks ≤ v3 → Q g_comeCount g_come g_outcomes g_greatestTimes g_leastTimes g_changed g_greatest g_least g_greatestNow g_leastNow) ∧ (¬ p_blocks ≤ v3 → wp_X0_judge v3 g_penalty p_times p_touchCounts g_come g_outcomes g_greatestTimes g_leastTimes (fun g_greatestTimes_49 g_leastTimes_49 => vp_in v3 40 ∧ (((g_come (Int32.toNatClampNeg v3)) = 0 → (lp_X0_settle_38 p_blocks p_lines g_sets g_size g_penalty p_times p_touchCounts p_touchSlots p_lineOfSlot p_to p_leaving p_firstLeaving g_come g_outcomes g_changed g_greatest g_least g_greatestNow g_leastNow Q n) (v3 + 1) g_comeCount g_greatestTimes_49 g_leastTimes_49) ∧ (¬ (g_come (Int32.toNatClampNeg v3)) = 0 → (lp_X0_settle_38 p_blocks p_lines g_sets g_size g_penalty p_times p_touchCounts p_touchSlots p_lineOfSlot p_to p_leaving p_firstLeaving g_come g_outcomes g_changed g_greatest g_least g_greatestNow g_leastNow Q n) (v3 + 1) (g_comeCount + 1) g_greatestTimes_49 g_leastTimes_49))))
def lp_X0_settle_9 (p_blocks : Int32) (p_lines : Int32) (g_sets : Int32) (g_size : Int32) (g_penalty : Int32) (g_comeCount : Int32) (p_times : Nat → Int32) (p_touchCounts : Nat → Int32) (p_touchSlots : Nat → Int32) (p_lineOfSlot : Nat → Int32) (p_to : Nat → Int32) (p_leaving : Nat → Int32) (p_firstLeaving : Nat → Int32) (g_greatestTimes : Nat → Int32) (g_leastTimes : Nat → Int32) (Q : Int32 → (Nat → Int32) → (Nat → Int32) → (Nat → Int32) → (Nat → Int32) → (Nat → Int32) → (Nat → Int32) → (Nat → Int32) → (Nat → Int32) → (Nat → Int32) → Prop) : Nat → Int32 → Int32 → (Nat → Int32) → (Nat → Int32) → (Nat → Int32) → (Nat → Int32) → (Nat → Int32) → (Nat → Int32) → (Nat → Int32) → Prop
  | 0, _, _, _, _, _, _, _, _, _ => False
  | n + 1, v2, v3, g_come, g_outcomes, g_changed, g_greatest, g_least, g_greatestNow, g_leastNow => (v2 = 0 → ∃ k38, lp_X0_settle_38 p_blocks p_lines g_sets g_size g_penalty p_times p_touchCounts p_touchSlots p_lineOfSlot p_to p_leaving p_firstLeaving g_come g_outcomes g_changed g_greatest g_least g_greatestNow g_leastNow Q k38 0 0 g_greatestTimes g_leastTimes) ∧ (¬ v2 = 0 → (1000000 ≤ v3 → ∃ k38, lp_X0_settle_38 p_blocks p_lines g_sets g_size g_penalty p_times p_touchCounts p_touchSlots p_lineOfSlot p_to p_leaving p_firstLeaving g_come g_outcomes g_changed g_greatest g_least g_greatestNow g_leastNow Q k38 0 0 g_greatestTimes g_leastTimes) ∧ (¬ 1000000 ≤ v3 → wp_X0_spread p_blocks p_lines g_sets g_size p_touchCounts p_touchSlots p_lineOfSlot p_to p_leaving p_firstLeaving g_come g_outcomes g_changed g_greatest g_least g_greatestNow g_leastNow (fun r_21 g_come_21 g_outcomes_21 g_changed_21 g_greatest_21 g_least_21 g_greatestNow_21 g_leastNow_21 => (lp_X0_settle_9 p_blocks p_lines g_sets g_size g_penalty g_comeCount p_times p_touchCounts p_touchSlots p_lineOfSlot p_to p_leaving p_firstLeaving g_greatestTimes g_leastTimes Q n) r_21 (v3 + 1) g_come_21 g_outcomes_21 g_changed_21 g_greatest_21 g_least_21 g_greatestNow_21 g_leastNow_21)))
def wp_X0_settle (p_blocks : Int32) (p_lines : Int32) (g_sets : Int32) (g_size : Int32) (g_penalty : Int32) (g_comeCount : Int32) (p_times : Nat → Int32) (p_touchCounts : Nat → Int32) (p_touchSlots : Nat → Int32) (p_lineOfSlot : Nat → Int32) (p_to : Nat → Int32) (p_leaving : Nat → Int32) (p_firstLeaving : Nat → Int32) (g_come : Nat → Int32) (g_outcomes : Nat → Int32) (g_greatestTimes : Nat → Int32) (g_leastTimes : Nat → Int32) (g_changed : Nat → Int32) (g_greatest : Nat → Int32) (g_least : Nat → Int32) (g_greatestNow : Nat → Int32) (g_leastNow : Nat → Int32) (Q : Int32 → (Nat → Int32) → (Nat → Int32) → (Nat → Int32) → (Nat → Int32) → (Nat → Int32) → (Nat → Int32) → (Nat → Int32) → (Nat → Int32) → (Nat → Int32) → Prop) : Prop := wp_X0_begin p_blocks p_lines g_size g_come g_changed g_greatest g_least g_greatestNow g_leastNow (fun g_come_2 g_changed_2 g_greatest_2 g_least_2 g_greatestNow_2 g_leastNow_2 => ∃ k9, lp_X0_settle_9 p_blocks p_lines g_sets g_size g_penalty g_comeCount p_times p_touchCounts p_touchSlots p_lineOfSlot p_to p_leaving p_firstLeaving g_greatestTimes g_leastTimes Q k9 1 0 g_come_2 g_outcomes g_changed_2 g_greatest_2 g_least_2 g_greatestNow_2 g_leastNow_2)
abbrev rm_X0_settle : Room := { frames := 4, cells := 0, slots := 0, locals := 98 }
set_option maxHeartbeats 4000000 in
set_option maxRecDepth 100000 in
theorem c_X0_settle (l : Launch) (D : va_G) (a : Nat → Nat) (cI : ClassId) (cZ : ClassId) (cJ : ClassId) (sz : Nat) (x_agesStand : Int32) (x_searchStands : Int32) (p_blocks : Int32) (p_lines : Int32) (p_edges : Int32) (p_pairs : Int32) (g_sets : Int32) (g_size : Int32) (g_penalty : Int32) (g_comeCount : Int32) (s_answered : Int32) (s_codes : Int32) (s_ordered : Int32) (p_times : Nat → Int32) (p_touchCounts : Nat → Int32) (p_touchSlots : Nat → Int32) (p_lineOfSlot : Nat → Int32) (p_from : Nat → Int32) (p_to : Nat → Int32) (p_bounds : Nat → Int32) (p_pairA : Nat → Int32) (p_pairB : Nat → Int32) (p_leaving : Nat → Int32) (p_firstLeaving : Nat → Int32) (g_come : Nat → Int32) (g_outcomes : Nat → Int32) (g_greatestTimes : Nat → Int32) (g_leastTimes : Nat → Int32) (g_changed : Nat → Int32) (g_greatest : Nat → Int32) (g_least : Nat → Int32) (g_greatestNow : Nat → Int32) (g_leastNow : Nat → Int32) (s_order : Nat → Int32) (s_arriving : Nat → Int32) (s_unit : Nat → Int32) (s_flag : Nat → Int32) (s_forbidding : Nat → Int32) (s_most : Nat → Int64) (s_fewest : Nat → Int64) (Q : Int32 → (Nat → Int32) → (Nat → Int32) → (Nat → Int32) → (Nat → Int32) → (Nat → Int32) → (Nat → Int32) → (Nat → Int32) → (Nat → Int32) → (Nat → Int32) → Prop) (h : wp_X0_settle p_blocks p_lines g_sets g_size g_penalty g_comeCount p_times p_touchCounts p_touchSlots p_lineOfSlot p_to p_leaving p_firstLeaving g_come g_outcomes g_greatestTimes g_leastTimes g_changed g_greatest g_least g_greatestNow g_leastNow Q) : Met l yX0_settle wsX0_settle rm_X0_settle (va_Pc [.ref (a 2), .ref (a 1)] (inW D cI cZ cJ sz (wC a cI cZ cJ x_agesStand x_searchStands p_blocks p_lines p_edges p_pairs g_sets g_size g_penalty g_comeCount s_answered s_codes s_ordered p_times p_touchCounts p_touchSlots p_lineOfSlot p_from p_to p_bounds p_pairA p_pairB p_leaving p_firstLeaving g_come g_outcomes g_greatestTimes g_leastTimes g_changed g_greatest g_least g_greatestNow g_leastNow s_order s_arriving s_unit s_flag s_forbidding s_most s_fewest))) (va_Qv (fun (u : Int32 × (Nat → Int32) × (Nat → Int32) × (Nat → Int32) × (Nat → Int32) × (Nat → Int32) × (Nat → Int32) × (Nat → Int32) × (Nat → Int32) × (Nat → Int32)) => Q u.1 u.2.1 u.2.2.1 u.2.2.2.1 u.2.2.2.2.1 u.2.2.2.2.2.1 u.2.2.2.2.2.2.1 u.2.2.2.2.2.2.2.1 u.2.2.2.2.2.2.2.2.1 u.2.2.2.2.2.2.2.2.2) (fun (u : Int32 × (Nat → Int32) × (Nat → Int32) × (Nat → Int32) × (Nat → Int32) × (Nat → Int32) × (Nat → Int32) × (Nat → Int32) × (Nat → Int32) × (Nat → Int32)) => outW D cI cZ cJ (va_A (wC a cI cZ cJ x_agesStand x_searchStands p_blocks p_lines p_edges p_pairs g_sets g_size g_penalty g_comeCount s_answered s_codes s_ordered p_times p_touchCounts p_touchSlots p_lineOfSlot p_from p_to p_bounds p_pairA p_pairB p_leaving p_firstLeaving g_come g_outcomes g_greatestTimes g_leastTimes g_changed g_greatest g_least g_greatestNow g_leastNow s_order s_arriving s_unit s_flag s_forbidding s_most s_fewest) sz) (wC a cI cZ cJ x_agesStand x_searchStands p_blocks p_lines p_edges p_pairs g_sets g_size g_penalty u.1 s_answered s_codes s_ordered p_times p_touchCounts p_touchSlots p_lineOfSlot p_from p_to p_bounds p_pairA p_pairB p_leaving p_firstLeaving u.2.1 u.2.2.1 u.2.2.2.1 u.2.2.2.2.1 u.2.2.2.2.2.1 u.2.2.2.2.2.2.1 u.2.2.2.2.2.2.2.1 u.2.2.2.2.2.2.2.2.1 u.2.2.2.2.2.2.2.2.2 s_order s_arriving s_unit s_flag s_forbidding s_most s_fewest)) (va_A (wC a cI cZ cJ x_agesStand x_searchStands p_blocks p_lines p_edges p_pairs g_sets g_size g_penalty g_comeCount s_answered s_codes s_ordered p_times p_touchCounts p_touchSlots p_lineOfSlot p_from p_to p_bounds p_pairA p_pairB p_leaving p_firstLeaving g_come g_outcomes g_greatestTimes g_leastTimes g_changed g_greatest g_least g_greatestNow g_leastNow s_order s_arriving s_unit s_flag s_forbidding s_most s_fewest) sz)) 0 0 (va_A (wC a cI cZ cJ x_agesStand x_searchStands p_blocks p_lines p_edges p_pairs g_sets g_size g_penalty g_comeCount s_answered s_codes s_ordered p_times p_touchCounts p_touchSlots p_lineOfSlot p_from p_to p_bounds p_pairA p_pairB p_leaving p_firstLeaving g_come g_outcomes g_greatestTimes g_leastTimes g_changed g_greatest g_least g_greatestNow g_leastNow s_order s_arriving s_unit s_flag s_forbidding s_most s_fewest) sz) := by
  refine Met.ofW (cc := cX0_settle) (maxL := 4) (ret := none) (by decide +kernel) rfl ?_
  intro p e s m args below meth c s₁ B hml hv
  obtain ⟨rfl, hsz, hP, hK, hD0⟩ := hv
  have hx := B.exec
  have hb := B.bytes
  have hr := B.returns
  have hts := atoms_spec (ws := wsX0_settle) B.pre
  have hown : s.vm.findClass RX0 = some m.cls := findClass_of_methodNamed B.named
  have hlocks := B.notSynchronized
  have hinX0 : ∀ w ∈ wsX00, w ∈ wsX0_settle := by decide +kernel
  have hinX1 : ∀ w ∈ wsX10, w ∈ wsX0_settle := by decide +kernel
  subst hsz
  have hD := hD0.self (sz := s.heap.size)
  generalize hAe : va_A (wC a cI cZ cJ x_agesStand x_searchStands p_blocks p_lines p_edges p_pairs g_sets g_size g_penalty g_comeCount s_answered s_codes s_ordered p_times p_touchCounts p_touchSlots p_lineOfSlot p_from p_to p_bounds p_pairA p_pairB p_leaving p_firstLeaving g_come g_outcomes g_greatestTimes g_leastTimes g_changed g_greatest g_least g_greatestNow g_leastNow s_order s_arriving s_unit s_flag s_forbidding s_most s_fewest) s.heap.size = A at hD ⊢
  have hA : ∀ q : Nat, s.heap.size ≤ q → A q := fun q h => by rw [← hAe]; exact Or.inr h
  have hS : va_S A s.heap s.heap [] := va_S.rf
  have hP : va_P D vwCl (wC a cI cZ cJ x_agesStand x_searchStands p_blocks p_lines p_edges p_pairs g_sets g_size g_penalty g_comeCount s_answered s_codes s_ordered p_times p_touchCounts p_touchSlots p_lineOfSlot p_from p_to p_bounds p_pairA p_pairB p_leaving p_firstLeaving g_come g_outcomes g_greatestTimes g_leastTimes g_changed g_greatest g_least g_greatestNow g_leastNow s_order s_arriving s_unit s_flag s_forbidding s_most s_fewest) s.heap := hP
  have hl := lv_entry ([.ref (a 2), .ref (a 1)]) (n := 4) (Nat.le_of_ble_eq_true rfl)
  rw [lg_entry_eq]
  generalize (lg_sl ([.ref (a 2), .ref (a 1)]) ++ List.replicate (4 - (lg_sl ([.ref (a 2), .ref (a 1)])).length) Slot.unset).toArray = ls at hl ⊢
  have hl : lv_has ls 4 [(0, .ref (a 2)), (1, .ref (a 1))] := hl
  refine wz_abs (fun Qz hQz => ?_)
  unfold wp_X0_settle at h
  refine lv_aload_n hx hb dX0_settle_0 rfl (lv_at hl 0 rfl) ?_
  refine lv_aload_n hx hb dX0_settle_1 rfl (lv_at hl 1 rfl) ?_
  have hF := wz_free hD hS hA
  refine va_callv (va_runV (As := [.ref (a 1)]) (rest := []) ⟨hx, hb, hml, hown, hts⟩ (c_X0_begin l D a cI cZ cJ _ x_agesStand x_searchStands p_blocks p_lines p_edges p_pairs g_sets g_size g_penalty g_comeCount s_answered s_codes s_ordered p_times p_touchCounts p_touchSlots p_lineOfSlot p_from p_to p_bounds p_pairA p_pairB p_leaving p_firstLeaving g_come g_outcomes g_greatestTimes g_leastTimes g_changed g_greatest g_least g_greatestNow g_leastNow s_order s_arriving s_unit s_flag s_forbidding s_most s_fewest _ h) (cwV 1 hts gX0_settle_X0_begin rfl rfl rfl (by decide +kernel) ⟨Nat.le_of_ble_eq_true rfl, Nat.le_of_ble_eq_true rfl⟩) ⟨wz_blind, va_recv hK hP (ci := 0) (q0 := 2) rfl rfl, fun U hU hW => wz_at hU hW hP hK hD⟩ rfl rfl hl.1 rfl (lv_room (Nat.le_of_ble_eq_true rfl)) dX0_settle_2 ⟨Nat.zero_le _, Nat.zero_le _⟩) hS (fun q _ hq => hF q hq) hF (fun u t H locs ht hvm h hB hz1 hk1 hS => ?_)
  obtain ⟨g_come_2, g_changed_2, g_greatest_2, g_least_2, g_greatestNow_2, g_leastNow_2⟩ := u
  dsimp only at h hB
  obtain ⟨hP, -, hD⟩ := wz_back ht hF hB
  have hP : va_P D vwCl (wC a cI cZ cJ x_agesStand x_searchStands p_blocks p_lines p_edges p_pairs g_sets g_size g_penalty g_comeCount s_answered s_codes s_ordered p_times p_touchCounts p_touchSlots p_lineOfSlot p_from p_to p_bounds p_pairA p_pairB p_leaving p_firstLeaving g_come_2 g_outcomes g_greatestTimes g_leastTimes g_changed_2 g_greatest_2 g_least_2 g_greatestNow_2 g_leastNow_2 s_order s_arriving s_unit s_flag s_forbidding s_most s_fewest) H := hP
  have hD : va_D A (wC a cI cZ cJ x_agesStand x_searchStands p_blocks p_lines p_edges p_pairs g_sets g_size g_penalty g_comeCount s_answered s_codes s_ordered p_times p_touchCounts p_touchSlots p_lineOfSlot p_from p_to p_bounds p_pairA p_pairB p_leaving p_firstLeaving g_come_2 g_outcomes g_greatestTimes g_leastTimes g_changed_2 g_greatest_2 g_least_2 g_greatestNow_2 g_leastNow_2 s_order s_arriving s_unit s_flag s_forbidding s_most s_fewest) := hD
  refine lv_iconst (v := 1) hx hb dX0_settle_5 (by decide) ?_
  refine lv_istore_n (lv' := [(2, .int 1), (0, .ref (a 2)), (1, .ref (a 1))]) hx hb dX0_settle_6 rfl hl (by decide) rfl (fun ls hl => ?_)
  refine lv_iconst (v := 0) hx hb dX0_settle_7 (by decide) ?_
  refine lv_istore_n (lv' := [(3, .int 0), (2, .int 1), (0, .ref (a 2)), (1, .ref (a 1))]) hx hb dX0_settle_8 rfl hl (by decide) rfl (fun ls hl => ?_)
  have LP9 : ∀ (n9 : Nat) (v2_9 : Int32) (v3_9 : Int32) (g_come_9 : Nat → Int32) (g_outcomes_9 : Nat → Int32) (g_changed_9 : Nat → Int32) (g_greatest_9 : Nat → Int32) (g_least_9 : Nat → Int32) (g_greatestNow_9 : Nat → Int32) (g_leastNow_9 : Nat → Int32), lp_X0_settle_9 p_blocks p_lines g_sets g_size g_penalty g_comeCount p_times p_touchCounts p_touchSlots p_lineOfSlot p_to p_leaving p_firstLeaving g_greatestTimes g_leastTimes Q n9 v2_9 v3_9 g_come_9 g_outcomes_9 g_changed_9 g_greatest_9 g_least_9 g_greatestNow_9 g_leastNow_9 → ∀ (H : Heap) (locs : List Loc), va_P D vwCl (wC a cI cZ cJ x_agesStand x_searchStands p_blocks p_lines p_edges p_pairs g_sets g_size g_penalty g_comeCount s_answered s_codes s_ordered p_times p_touchCounts p_touchSlots p_lineOfSlot p_from p_to p_bounds p_pairA p_pairB p_leaving p_firstLeaving g_come_9 g_outcomes_9 g_greatestTimes g_leastTimes g_changed_9 g_greatest_9 g_least_9 g_greatestNow_9 g_leastNow_9 s_order s_arriving s_unit s_flag s_forbidding s_most s_fewest) H → va_D A (wC a cI cZ cJ x_agesStand x_searchStands p_blocks p_lines p_edges p_pairs g_sets g_size g_penalty g_comeCount s_answered s_codes s_ordered p_times p_touchCounts p_touchSlots p_lineOfSlot p_from p_to p_bounds p_pairA p_pairB p_leaving p_firstLeaving g_come_9 g_outcomes_9 g_greatestTimes g_leastTimes g_changed_9 g_greatest_9 g_least_9 g_greatestNow_9 g_leastNow_9 s_order s_arriving s_unit s_flag s_forbidding s_most s_fewest) → va_S A s.heap H locs → ∀ (ls : Array Slot), lv_has ls 4 [(0, .ref (a 2)), (1, .ref (a 1)), (2, .int v2_9), (3, .int v3_9)] → W p l e (headSpec wsX0_settle rm_X0_settle).room s m ([Value.ref (a 2), Value.ref (a 1)] : List Value).toArray below meth c H locs 0 0 Qz (F0 m 9 ls []) := by
    intro n9
    induction n9 with
    | zero => intro v2_9 v3_9 g_come_9 g_outcomes_9 g_changed_9 g_greatest_9 g_least_9 g_greatestNow_9 g_leastNow_9 h; exact h.elim
    | succ n9 ih9 =>
      intro v2_9 v3_9 g_come_9 g_outcomes_9 g_changed_9 g_greatest_9 g_least_9 g_greatestNow_9 g_leastNow_9 h H locs hP hD hS ls hl
      unfold lp_X0_settle_9 at h
      refine lv_iload_n hx hb dX0_settle_9 rfl (lv_at hl 2 rfl) ?_
      refine lv_if_eq (tgt := 31) hx hb dX0_settle_10 (by decide) (fun hc => ?_) (fun hc => ?_)
      · replace h := h.1 hc
        refine lv_aload_n hx hb dX0_settle_31 rfl (lv_at hl 0 rfl) ?_
        refine lv_iconst (v := 0) hx hb dX0_settle_32 (by decide) ?_
        refine va_put (D := D) (ci := 0) (v := .int 0) (ty := .int) (C := RX0) (T := TX0) (N := 13) hx hb hts hinX0 tyX0 tyX0_ok nmX0 hown hK hP hD hS 2 rfl rfl 4 (by decide) (hts (.fieldLink RX0 59 "WorstPaths$Ages" "comeCount" "I") (by decide +kernel)) (fun _ h9 => h9) rfl (by decide +kernel) rfl rfl (Nat.le_of_ble_eq_true rfl) dX0_settle_33 (fun H locs hP hD hS => ?_)
        have hP : va_P D vwCl (wC a cI cZ cJ x_agesStand x_searchStands p_blocks p_lines p_edges p_pairs g_sets g_size g_penalty 0 s_answered s_codes s_ordered p_times p_touchCounts p_touchSlots p_lineOfSlot p_from p_to p_bounds p_pairA p_pairB p_leaving p_firstLeaving g_come_9 g_outcomes_9 g_greatestTimes g_leastTimes g_changed_9 g_greatest_9 g_least_9 g_greatestNow_9 g_leastNow_9 s_order s_arriving s_unit s_flag s_forbidding s_most s_fewest) H := hP
        have hD : va_D A (wC a cI cZ cJ x_agesStand x_searchStands p_blocks p_lines p_edges p_pairs g_sets g_size g_penalty 0 s_answered s_codes s_ordered p_times p_touchCounts p_touchSlots p_lineOfSlot p_from p_to p_bounds p_pairA p_pairB p_leaving p_firstLeaving g_come_9 g_outcomes_9 g_greatestTimes g_leastTimes g_changed_9 g_greatest_9 g_least_9 g_greatestNow_9 g_leastNow_9 s_order s_arriving s_unit s_flag s_forbidding s_most s_fewest) := hD
        refine lv_iconst (v := 0) hx hb dX0_settle_36 (by decide) ?_
        refine lv_istore_n (lv' := [(3, .int 0), (0, .ref (a 2)), (1, .ref (a 1)), (2, .int v2_9)]) hx hb dX0_settle_37 rfl hl (by decide) rfl (fun ls hl => ?_)
        have LP38 : ∀ (n38 : Nat) (v3_38 : Int32) (g_comeCount_38 : Int32) (g_greatestTimes_38 : Nat → Int32) (g_leastTimes_38 : Nat → Int32), lp_X0_settle_38 p_blocks p_lines g_sets g_size g_penalty p_times p_touchCounts p_touchSlots p_lineOfSlot p_to p_leaving p_firstLeaving g_come_9 g_outcomes_9 g_changed_9 g_greatest_9 g_least_9 g_greatestNow_9 g_leastNow_9 Q n38 v3_38 g_comeCount_38 g_greatestTimes_38 g_leastTimes_38 → ∀ (H : Heap) (locs : List Loc), va_P D vwCl (wC a cI cZ cJ x_agesStand x_searchStands p_blocks p_lines p_edges p_pairs g_sets g_size g_penalty g_comeCount_38 s_answered s_codes s_ordered p_times p_touchCounts p_touchSlots p_lineOfSlot p_from p_to p_bounds p_pairA p_pairB p_leaving p_firstLeaving g_come_9 g_outcomes_9 g_greatestTimes_38 g_leastTimes_38 g_changed_9 g_greatest_9 g_least_9 g_greatestNow_9 g_leastNow_9 s_order s_arriving s_unit s_flag s_forbidding s_most s_fewest) H → va_D A (wC a cI cZ cJ x_agesStand x_searchStands p_blocks p_lines p_edges p_pairs g_sets g_size g_penalty g_comeCount_38 s_answered s_codes s_ordered p_times p_touchCounts p_touchSlots p_lineOfSlot p_from p_to p_bounds p_pairA p_pairB p_leaving p_firstLeaving g_come_9 g_outcomes_9 g_greatestTimes_38 g_leastTimes_38 g_changed_9 g_greatest_9 g_least_9 g_greatestNow_9 g_leastNow_9 s_order s_arriving s_unit s_flag s_forbidding s_most s_fewest) → va_S A s.heap H locs → ∀ (ls : Array Slot), lv_has ls 4 [(0, .ref (a 2)), (1, .ref (a 1)), (3, .int v3_38)] → W p l e (headSpec wsX0_settle rm_X0_settle).room s m ([Value.ref (a 2), Value.ref (a 1)] : List Value).toArray below meth c H locs 0 0 Qz (F0 m 38 ls []) := by
          intro n38
          induction n38 with
          | zero => intro v3_38 g_comeCount_38 g_greatestTimes_38 g_leastTimes_38 h; exact h.elim
          | succ n38 ih38 =>
            intro v3_38 g_comeCount_38 g_greatestTimes_38 g_leastTimes_38 h H locs hP hD hS ls hl
            unfold lp_X0_settle_38 at h
            refine lv_iload_n hx hb dX0_settle_38 rfl (lv_at hl 2 rfl) ?_
            refine lv_aload_n hx hb dX0_settle_39 rfl (lv_at hl 1 rfl) ?_
            refine va_get (D := D) (ci := 1) (v := .int p_blocks) (C := RX1) (T := TX1) (N := 15) hx hb hts hinX1 hown hK hP 1 rfl rfl 0 (by decide) (hts (.fieldLink RX0 62 "WorstPaths$Program" "blocks" "I") (by decide +kernel)) (fun _ h9 => h9) rfl dX0_settle_40 ?_
            refine lv_icmp_ge (tgt := 77) hx hb dX0_settle_43 (by decide) (fun hc => ?_) (fun hc => ?_)
            · replace h := h.1 hc
              refine wz_mono hQz ?_
              exact W.vret hx hb hr (fun t ht hW => ⟨⟨(g_comeCount_38, g_come_9, g_outcomes_9, g_greatestTimes_38, g_leastTimes_38, g_changed_9, g_greatest_9, g_least_9, g_greatestNow_9, g_leastNow_9), rfl, h, by rw [ht]; exact hP, va_K.moved hW.alike hK, hD⟩, hS.F ht⟩) hS.2.2 dX0_settle_77
            · replace h := h.2 hc
              refine lv_aload_n hx hb dX0_settle_46 rfl (lv_at hl 0 rfl) ?_
              refine lv_aload_n hx hb dX0_settle_47 rfl (lv_at hl 1 rfl) ?_
              refine lv_iload_n hx hb dX0_settle_48 rfl (lv_at hl 2 rfl) ?_
              have hF := wz_free hD hS hA
              refine va_callv (va_runV (As := [.ref (a 1), .int v3_38]) (rest := []) ⟨hx, hb, hml, hown, hts⟩ (c_X0_judge l D a cI cZ cJ _ x_agesStand x_searchStands p_blocks p_lines p_edges p_pairs g_sets g_size g_penalty g_comeCount_38 s_answered s_codes s_ordered p_times p_touchCounts p_touchSlots p_lineOfSlot p_from p_to p_bounds p_pairA p_pairB p_leaving p_firstLeaving g_come_9 g_outcomes_9 g_greatestTimes_38 g_leastTimes_38 g_changed_9 g_greatest_9 g_least_9 g_greatestNow_9 g_leastNow_9 s_order s_arriving s_unit s_flag s_forbidding s_most s_fewest v3_38 _ h) (cwV 2 hts gX0_settle_X0_judge rfl rfl rfl (by decide +kernel) ⟨Nat.le_of_ble_eq_true rfl, Nat.le_of_ble_eq_true rfl⟩) ⟨wz_blind, va_recv hK hP (ci := 0) (q0 := 2) rfl rfl, fun U hU hW => wz_at hU hW hP hK hD⟩ rfl rfl hl.1 rfl (lv_room (Nat.le_of_ble_eq_true rfl)) dX0_settle_49 ⟨Nat.zero_le _, Nat.zero_le _⟩) hS (fun q _ hq => hF q hq) hF (fun u t H locs ht hvm h hB hz1 hk1 hS => ?_)
              obtain ⟨g_greatestTimes_49, g_leastTimes_49⟩ := u
              dsimp only at h hB
              obtain ⟨hP, -, hD⟩ := wz_back ht hF hB
              have hP : va_P D vwCl (wC a cI cZ cJ x_agesStand x_searchStands p_blocks p_lines p_edges p_pairs g_sets g_size g_penalty g_comeCount_38 s_answered s_codes s_ordered p_times p_touchCounts p_touchSlots p_lineOfSlot p_from p_to p_bounds p_pairA p_pairB p_leaving p_firstLeaving g_come_9 g_outcomes_9 g_greatestTimes_49 g_leastTimes_49 g_changed_9 g_greatest_9 g_least_9 g_greatestNow_9 g_leastNow_9 s_order s_arriving s_unit s_flag s_forbidding s_most s_fewest) H := hP
              have hD : va_D A (wC a cI cZ cJ x_agesStand x_searchStands p_blocks p_lines p_edges p_pairs g_sets g_size g_penalty g_comeCount_38 s_answered s_codes s_ordered p_times p_touchCounts p_touchSlots p_lineOfSlot p_from p_to p_bounds p_pairA p_pairB p_leaving p_firstLeaving g_come_9 g_outcomes_9 g_greatestTimes_49 g_leastTimes_49 g_changed_9 g_greatest_9 g_least_9 g_greatestNow_9 g_leastNow_9 s_order s_arriving s_unit s_flag s_forbidding s_most s_fewest) := hD
              refine lv_aload_n hx hb dX0_settle_52 rfl (lv_at hl 0 rfl) ?_
              refine va_get (D := D) (ci := 0) (v := .ref (a 15)) (C := RX0) (T := TX0) (N := 13) hx hb hts hinX0 hown hK hP 2 rfl rfl 3 (by decide) (hts (.fieldLink RX0 9 "WorstPaths$Ages" "come" "[Z") (by decide +kernel)) (fun _ h9 => h9) rfl dX0_settle_53 ?_
              refine lv_iload_n hx hb dX0_settle_56 rfl (lv_at hl 2 rfl) ?_
              obtain ⟨hq, h⟩ := h
              refine va_zald (D := D) hx hb hK hP 15 1 rfl rfl hq dX0_settle_57 ?_
              refine lv_if_eq (tgt := 71) hx hb dX0_settle_58 (by decide) (fun hc => ?_) (fun hc => ?_)
              · replace h := h.1 hc
                refine lv_iinc (v := (v3_38 + 1)) (lv' := [(3, .int (v3_38 + 1)), (0, .ref (a 2)), (1, .ref (a 1))]) hx hb dX0_settle_71 hl (k := 2) rfl rfl (by decide) rfl (fun ls hl => ?_)
                refine lv_goto (tgt := 38) hx hb dX0_settle_74 (by decide) ?_
                exact ih38 (v3_38 + 1) g_comeCount_38 g_greatestTimes_49 g_leastTimes_49 h _ _ hP hD hS _ (lv_sub hl [1, 2, 0] rfl)
              · replace h := h.2 hc
                refine lv_aload_n hx hb dX0_settle_61 rfl (lv_at hl 0 rfl) ?_
                refine lv_dup hx hb dX0_settle_62 rfl ?_
                refine va_get (D := D) (ci := 0) (v := .int g_comeCount_38) (C := RX0) (T := TX0) (N := 13) hx hb hts hinX0 hown hK hP 2 rfl rfl 4 (by decide) (hts (.fieldLink RX0 59 "WorstPaths$Ages" "comeCount" "I") (by decide +kernel)) (fun _ h9 => h9) rfl dX0_settle_63 ?_
                refine lv_iconst (v := 1) hx hb dX0_settle_66 (by decide) ?_
                refine lv_iadd hx hb dX0_settle_67 ?_
                refine va_put (D := D) (ci := 0) (v := .int (g_comeCount_38 + 1)) (ty := .int) (C := RX0) (T := TX0) (N := 13) hx hb hts hinX0 tyX0 tyX0_ok nmX0 hown hK hP hD hS 2 rfl rfl 4 (by decide) (hts (.fieldLink RX0 59 "WorstPaths$Ages" "comeCount" "I") (by decide +kernel)) (fun _ h9 => h9) rfl (by decide +kernel) rfl rfl (Nat.le_of_ble_eq_true rfl) dX0_settle_68 (fun H locs hP hD hS => ?_)
                have hP : va_P D vwCl (wC a cI cZ cJ x_agesStand x_searchStands p_blocks p_lines p_edges p_pairs g_sets g_size g_penalty (g_comeCount_38 + 1) s_answered s_codes s_ordered p_times p_touchCounts p_touchSlots p_lineOfSlot p_from p_to p_bounds p_pairA p_pairB p_leaving p_firstLeaving g_come_9 g_outcomes_9 g_greatestTimes_49 g_leastTimes_49 g_changed_9 g_greatest_9 g_least_9 g_greatestNow_9 g_leastNow_9 s_order s_arriving s_unit s_flag s_forbidding s_most s_fewest) H := hP
                have hD : va_D A (wC a cI cZ cJ x_agesStand x_searchStands p_blocks p_lines p_edges p_pairs g_sets g_size g_penalty (g_comeCount_38 + 1) s_answered s_codes s_ordered p_times p_touchCounts p_touchSlots p_lineOfSlot p_from p_to p_bounds p_pairA p_pairB p_leaving p_firstLeaving g_come_9 g_outcomes_9 g_greatestTimes_49 g_leastTimes_49 g_changed_9 g_greatest_9 g_least_9 g_greatestNow_9 g_leastNow_9 s_order s_arriving s_unit s_flag s_forbidding s_most s_fewest) := hD
                refine lv_iinc (v := (v3_38 + 1)) (lv' := [(3, .int (v3_38 + 1)), (0, .ref (a 2)), (1, .ref (a 1))]) hx hb dX0_settle_71 hl (k := 2) rfl rfl (by decide) rfl (fun ls hl => ?_)
                refine lv_goto (tgt := 38) hx hb dX0_settle_74 (by decide) ?_
                exact ih38 (v3_38 + 1) (g_comeCount_38 + 1) g_greatestTimes_49 g_leastTimes_49 h _ _ hP hD hS _ (lv_sub hl [1, 2, 0] rfl)
        obtain ⟨k9, h⟩ := h
        exact LP38 k9 0 0 g_greatestTimes g_leastTimes h _ _ hP hD hS _ (lv_sub hl [1, 2, 0] rfl)
      · replace h := h.2 hc
        refine lv_iload_n hx hb dX0_settle_13 rfl (lv_at hl 3 rfl) ?_
        refine lv_ldc (v := 1000000) hx hb hown (hts (.constant RX0 54 (1000000)) (by decide +kernel)) dX0_settle_14 ?_
        refine lv_icmp_ge (tgt := 31) hx hb dX0_settle_16 (by decide) (fun hc => ?_) (fun hc => ?_)
        · replace h := h.1 hc
          refine lv_aload_n hx hb dX0_settle_31 rfl (lv_at hl 0 rfl) ?_
          refine lv_iconst (v := 0) hx hb dX0_settle_32 (by decide) ?_
          refine va_put (D := D) (ci := 0) (v := .int 0) (ty := .int) (C := RX0) (T := TX0) (N := 13) hx hb hts hinX0 tyX0 tyX0_ok nmX0 hown hK hP hD hS 2 rfl rfl 4 (by decide) (hts (.fieldLink RX0 59 "WorstPaths$Ages" "comeCount" "I") (by decide +kernel)) (fun _ h9 => h9) rfl (by decide +kernel) rfl rfl (Nat.le_of_ble_eq_true rfl) dX0_settle_33 (fun H locs hP hD hS => ?_)
          have hP : va_P D vwCl (wC a cI cZ cJ x_agesStand x_searchStands p_blocks p_lines p_edges p_pairs g_sets g_size g_penalty 0 s_answered s_codes s_ordered p_times p_touchCounts p_touchSlots p_lineOfSlot p_from p_to p_bounds p_pairA p_pairB p_leaving p_firstLeaving g_come_9 g_outcomes_9 g_greatestTimes g_leastTimes g_changed_9 g_greatest_9 g_least_9 g_greatestNow_9 g_leastNow_9 s_order s_arriving s_unit s_flag s_forbidding s_most s_fewest) H := hP
          have hD : va_D A (wC a cI cZ cJ x_agesStand x_searchStands p_blocks p_lines p_edges p_pairs g_sets g_size g_penalty 0 s_answered s_codes s_ordered p_times p_touchCounts p_touchSlots p_lineOfSlot p_from p_to p_bounds p_pairA p_pairB p_leaving p_firstLeaving g_come_9 g_outcomes_9 g_greatestTimes g_leastTimes g_changed_9 g_greatest_9 g_least_9 g_greatestNow_9 g_leastNow_9 s_order s_arriving s_unit s_flag s_forbidding s_most s_fewest) := hD
          refine lv_iconst (v := 0) hx hb dX0_settle_36 (by decide) ?_
          refine lv_istore_n (lv' := [(3, .int 0), (0, .ref (a 2)), (1, .ref (a 1)), (2, .int v2_9)]) hx hb dX0_settle_37 rfl hl (by decide) rfl (fun ls hl => ?_)
          have LP38 : ∀ (n38 : Nat) (v3_38 : Int32) (g_comeCount_38 : Int32) (g_greatestTimes_38 : Nat → Int32) (g_leastTimes_38 : Nat → Int32), lp_X0_settle_38 p_blocks p_lines g_sets g_size g_penalty p_times p_touchCounts p_touchSlots p_lineOfSlot p_to p_leaving p_firstLeaving g_come_9 g_outcomes_9 g_changed_9 g_greatest_9 g_least_9 g_greatestNow_9 g_leastNow_9 Q n38 v3_38 g_comeCount_38 g_greatestTimes_38 g_leastTimes_38 → ∀ (H : Heap) (locs : List Loc), va_P D vwCl (wC a cI cZ cJ x_agesStand x_searchStands p_blocks p_lines p_edges p_pairs g_sets g_size g_penalty g_comeCount_38 s_answered s_codes s_ordered p_times p_touchCounts p_touchSlots p_lineOfSlot p_from p_to p_bounds p_pairA p_pairB p_leaving p_firstLeaving g_come_9 g_outcomes_9 g_greatestTimes_38 g_leastTimes_38 g_changed_9 g_greatest_9 g_least_9 g_greatestNow_9 g_leastNow_9 s_order s_arriving s_unit s_flag s_forbidding s_most s_fewest) H → va_D A (wC a cI cZ cJ x_agesStand x_searchStands p_blocks p_lines p_edges p_pairs g_sets g_size g_penalty g_comeCount_38 s_answered s_codes s_ordered p_times p_touchCounts p_touchSlots p_lineOfSlot p_from p_to p_bounds p_pairA p_pairB p_leaving p_firstLeaving g_come_9 g_outcomes_9 g_greatestTimes_38 g_leastTimes_38 g_changed_9 g_greatest_9 g_least_9 g_greatestNow_9 g_leastNow_9 s_order s_arriving s_unit s_flag s_forbidding s_most s_fewest) → va_S A s.heap H locs → ∀ (ls : Array Slot), lv_has ls 4 [(0, .ref (a 2)), (1, .ref (a 1)), (3, .int v3_38)] → W p l e (headSpec wsX0_settle rm_X0_settle).room s m ([Value.ref (a 2), Value.ref (a 1)] : List Value).toArray below meth c H locs 0 0 Qz (F0 m 38 ls []) := by
            intro n38
            induction n38 with
            | zero => intro v3_38 g_comeCount_38 g_greatestTimes_38 g_leastTimes_38 h; exact h.elim
            | succ n38 ih38 =>
              intro v3_38 g_comeCount_38 g_greatestTimes_38 g_leastTimes_38 h H locs hP hD hS ls hl
              unfold lp_X0_settle_38 at h
              refine lv_iload_n hx hb dX0_settle_38 rfl (lv_at hl 2 rfl) ?_
              refine lv_aload_n hx hb dX0_settle_39 rfl (lv_at hl 1 rfl) ?_
              refine va_get (D := D) (ci := 1) (v := .int p_blocks) (C := RX1) (T := TX1) (N := 15) hx hb hts hinX1 hown hK hP 1 rfl rfl 0 (by decide) (hts (.fieldLink RX0 62 "WorstPaths$Program" "blocks" "I") (by decide +kernel)) (fun _ h9 => h9) rfl dX0_settle_40 ?_
              refine lv_icmp_ge (tgt := 77) hx hb dX0_settle_43 (by decide) (fun hc => ?_) (fun hc => ?_)
              · replace h := h.1 hc
                refine wz_mono hQz ?_
                exact W.vret hx hb hr (fun t ht hW => ⟨⟨(g_comeCount_38, g_come_9, g_outcomes_9, g_greatestTimes_38, g_leastTimes_38, g_changed_9, g_greatest_9, g_least_9, g_greatestNow_9, g_leastNow_9), rfl, h, by rw [ht]; exact hP, va_K.moved hW.alike hK, hD⟩, hS.F ht⟩) hS.2.2 dX0_settle_77
              · replace h := h.2 hc
                refine lv_aload_n hx hb dX0_settle_46 rfl (lv_at hl 0 rfl) ?_
                refine lv_aload_n hx hb dX0_settle_47 rfl (lv_at hl 1 rfl) ?_
                refine lv_iload_n hx hb dX0_settle_48 rfl (lv_at hl 2 rfl) ?_
                have hF := wz_free hD hS hA
                refine va_callv (va_runV (As := [.ref (a 1), .int v3_38]) (rest := []) ⟨hx, hb, hml, hown, hts⟩ (c_X0_judge l D a cI cZ cJ _ x_agesStand x_searchStands p_blocks p_lines p_edges p_pairs g_sets g_size g_penalty g_comeCount_38 s_answered s_codes s_ordered p_times p_touchCounts p_touchSlots p_lineOfSlot p_from p_to p_bounds p_pairA p_pairB p_leaving p_firstLeaving g_come_9 g_outcomes_9 g_greatestTimes_38 g_leastTimes_38 g_changed_9 g_greatest_9 g_least_9 g_greatestNow_9 g_leastNow_9 s_order s_arriving s_unit s_flag s_forbidding s_most s_fewest v3_38 _ h) (cwV 2 hts gX0_settle_X0_judge rfl rfl rfl (by decide +kernel) ⟨Nat.le_of_ble_eq_true rfl, Nat.le_of_ble_eq_true rfl⟩) ⟨wz_blind, va_recv hK hP (ci := 0) (q0 := 2) rfl rfl, fun U hU hW => wz_at hU hW hP hK hD⟩ rfl rfl hl.1 rfl (lv_room (Nat.le_of_ble_eq_true rfl)) dX0_settle_49 ⟨Nat.zero_le _, Nat.zero_le _⟩) hS (fun q _ hq => hF q hq) hF (fun u t H locs ht hvm h hB hz1 hk1 hS => ?_)
                obtain ⟨g_greatestTimes_49, g_leastTimes_49⟩ := u
                dsimp only at h hB
                obtain ⟨hP, -, hD⟩ := wz_back ht hF hB
                have hP : va_P D vwCl (wC a cI cZ cJ x_agesStand x_searchStands p_blocks p_lines p_edges p_pairs g_sets g_size g_penalty g_comeCount_38 s_answered s_codes s_ordered p_times p_touchCounts p_touchSlots p_lineOfSlot p_from p_to p_bounds p_pairA p_pairB p_leaving p_firstLeaving g_come_9 g_outcomes_9 g_greatestTimes_49 g_leastTimes_49 g_changed_9 g_greatest_9 g_least_9 g_greatestNow_9 g_leastNow_9 s_order s_arriving s_unit s_flag s_forbidding s_most s_fewest) H := hP
                have hD : va_D A (wC a cI cZ cJ x_agesStand x_searchStands p_blocks p_lines p_edges p_pairs g_sets g_size g_penalty g_comeCount_38 s_answered s_codes s_ordered p_times p_touchCounts p_touchSlots p_lineOfSlot p_from p_to p_bounds p_pairA p_pairB p_leaving p_firstLeaving g_come_9 g_outcomes_9 g_greatestTimes_49 g_leastTimes_49 g_changed_9 g_greatest_9 g_least_9 g_greatestNow_9 g_leastNow_9 s_order s_arriving s_unit s_flag s_forbidding s_most s_fewest) := hD
                refine lv_aload_n hx hb dX0_settle_52 rfl (lv_at hl 0 rfl) ?_
                refine va_get (D := D) (ci := 0) (v := .ref (a 15)) (C := RX0) (T := TX0) (N := 13) hx hb hts hinX0 hown hK hP 2 rfl rfl 3 (by decide) (hts (.fieldLink RX0 9 "WorstPaths$Ages" "come" "[Z") (by decide +kernel)) (fun _ h9 => h9) rfl dX0_settle_53 ?_
                refine lv_iload_n hx hb dX0_settle_56 rfl (lv_at hl 2 rfl) ?_
                obtain ⟨hq, h⟩ := h
                refine va_zald (D := D) hx hb hK hP 15 1 rfl rfl hq dX0_settle_57 ?_
                refine lv_if_eq (tgt := 71) hx hb dX0_settle_58 (by decide) (fun hc => ?_) (fun hc => ?_)
                · replace h := h.1 hc
                  refine lv_iinc (v := (v3_38 + 1)) (lv' := [(3, .int (v3_38 + 1)), (0, .ref (a 2)), (1, .ref (a 1))]) hx hb dX0_settle_71 hl (k := 2) rfl rfl (by decide) rfl (fun ls hl => ?_)
                  refine lv_goto (tgt := 38) hx hb dX0_settle_74 (by decide) ?_
                  exact ih38 (v3_38 + 1) g_comeCount_38 g_greatestTimes_49 g_leastTimes_49 h _ _ hP hD hS _ (lv_sub hl [1, 2, 0] rfl)
                · replace h := h.2 hc
                  refine lv_aload_n hx hb dX0_settle_61 rfl (lv_at hl 0 rfl) ?_
                  refine lv_dup hx hb dX0_settle_62 rfl ?_
                  refine va_get (D := D) (ci := 0) (v := .int g_comeCount_38) (C := RX0) (T := TX0) (N := 13) hx hb hts hinX0 hown hK hP 2 rfl rfl 4 (by decide) (hts (.fieldLink RX0 59 "WorstPaths$Ages" "comeCount" "I") (by decide +kernel)) (fun _ h9 => h9) rfl dX0_settle_63 ?_
                  refine lv_iconst (v := 1) hx hb dX0_settle_66 (by decide) ?_
                  refine lv_iadd hx hb dX0_settle_67 ?_
                  refine va_put (D := D) (ci := 0) (v := .int (g_comeCount_38 + 1)) (ty := .int) (C := RX0) (T := TX0) (N := 13) hx hb hts hinX0 tyX0 tyX0_ok nmX0 hown hK hP hD hS 2 rfl rfl 4 (by decide) (hts (.fieldLink RX0 59 "WorstPaths$Ages" "comeCount" "I") (by decide +kernel)) (fun _ h9 => h9) rfl (by decide +kernel) rfl rfl (Nat.le_of_ble_eq_true rfl) dX0_settle_68 (fun H locs hP hD hS => ?_)
                  have hP : va_P D vwCl (wC a cI cZ cJ x_agesStand x_searchStands p_blocks p_lines p_edges p_pairs g_sets g_size g_penalty (g_comeCount_38 + 1) s_answered s_codes s_ordered p_times p_touchCounts p_touchSlots p_lineOfSlot p_from p_to p_bounds p_pairA p_pairB p_leaving p_firstLeaving g_come_9 g_outcomes_9 g_greatestTimes_49 g_leastTimes_49 g_changed_9 g_greatest_9 g_least_9 g_greatestNow_9 g_leastNow_9 s_order s_arriving s_unit s_flag s_forbidding s_most s_fewest) H := hP
                  have hD : va_D A (wC a cI cZ cJ x_agesStand x_searchStands p_blocks p_lines p_edges p_pairs g_sets g_size g_penalty (g_comeCount_38 + 1) s_answered s_codes s_ordered p_times p_touchCounts p_touchSlots p_lineOfSlot p_from p_to p_bounds p_pairA p_pairB p_leaving p_firstLeaving g_come_9 g_outcomes_9 g_greatestTimes_49 g_leastTimes_49 g_changed_9 g_greatest_9 g_least_9 g_greatestNow_9 g_leastNow_9 s_order s_arriving s_unit s_flag s_forbidding s_most s_fewest) := hD
                  refine lv_iinc (v := (v3_38 + 1)) (lv' := [(3, .int (v3_38 + 1)), (0, .ref (a 2)), (1, .ref (a 1))]) hx hb dX0_settle_71 hl (k := 2) rfl rfl (by decide) rfl (fun ls hl => ?_)
                  refine lv_goto (tgt := 38) hx hb dX0_settle_74 (by decide) ?_
                  exact ih38 (v3_38 + 1) (g_comeCount_38 + 1) g_greatestTimes_49 g_leastTimes_49 h _ _ hP hD hS _ (lv_sub hl [1, 2, 0] rfl)
          obtain ⟨k9, h⟩ := h
          exact LP38 k9 0 0 g_greatestTimes g_leastTimes h _ _ hP hD hS _ (lv_sub hl [1, 2, 0] rfl)
        · replace h := h.2 hc
          refine lv_aload_n hx hb dX0_settle_19 rfl (lv_at hl 0 rfl) ?_
          refine lv_aload_n hx hb dX0_settle_20 rfl (lv_at hl 1 rfl) ?_
          have hF := wz_free hD hS hA
          refine va_calli (va_runV (As := [.ref (a 1)]) (rest := []) ⟨hx, hb, hml, hown, hts⟩ (c_X0_spread l D a cI cZ cJ _ x_agesStand x_searchStands p_blocks p_lines p_edges p_pairs g_sets g_size g_penalty g_comeCount s_answered s_codes s_ordered p_times p_touchCounts p_touchSlots p_lineOfSlot p_from p_to p_bounds p_pairA p_pairB p_leaving p_firstLeaving g_come_9 g_outcomes_9 g_greatestTimes g_leastTimes g_changed_9 g_greatest_9 g_least_9 g_greatestNow_9 g_leastNow_9 s_order s_arriving s_unit s_flag s_forbidding s_most s_fewest _ h) (cwV 1 hts gX0_settle_X0_spread rfl rfl rfl (by decide +kernel) ⟨Nat.le_of_ble_eq_true rfl, Nat.le_of_ble_eq_true rfl⟩) ⟨wz_blind, va_recv hK hP (ci := 0) (q0 := 2) rfl rfl, fun U hU hW => wz_at hU hW hP hK hD⟩ rfl rfl hl.1 rfl (lv_room (Nat.le_of_ble_eq_true rfl)) dX0_settle_21 ⟨Nat.zero_le _, Nat.zero_le _⟩) hS (fun q _ hq => hF q hq) hF (fun r_21 u t H locs ht hvm h hB hz1 hk1 hS => ?_)
          obtain ⟨g_come_21, g_outcomes_21, g_changed_21, g_greatest_21, g_least_21, g_greatestNow_21, g_leastNow_21⟩ := u
          dsimp only at h hB
          obtain ⟨hP, -, hD⟩ := wz_back ht hF hB
          have hP : va_P D vwCl (wC a cI cZ cJ x_agesStand x_searchStands p_blocks p_lines p_edges p_pairs g_sets g_size g_penalty g_comeCount s_answered s_codes s_ordered p_times p_touchCounts p_touchSlots p_lineOfSlot p_from p_to p_bounds p_pairA p_pairB p_leaving p_firstLeaving g_come_21 g_outcomes_21 g_greatestTimes g_leastTimes g_changed_21 g_greatest_21 g_least_21 g_greatestNow_21 g_leastNow_21 s_order s_arriving s_unit s_flag s_forbidding s_most s_fewest) H := hP
          have hD : va_D A (wC a cI cZ cJ x_agesStand x_searchStands p_blocks p_lines p_edges p_pairs g_sets g_size g_penalty g_comeCount s_answered s_codes s_ordered p_times p_touchCounts p_touchSlots p_lineOfSlot p_from p_to p_bounds p_pairA p_pairB p_leaving p_firstLeaving g_come_21 g_outcomes_21 g_greatestTimes g_leastTimes g_changed_21 g_greatest_21 g_least_21 g_greatestNow_21 g_leastNow_21 s_order s_arriving s_unit s_flag s_forbidding s_most s_fewest) := hD
          refine lv_istore_n (lv' := [(2, .int r_21), (0, .ref (a 2)), (1, .ref (a 1)), (3, .int v3_9)]) hx hb dX0_settle_24 rfl hl (by decide) rfl (fun ls hl => ?_)
          refine lv_iinc (v := (v3_9 + 1)) (lv' := [(3, .int (v3_9 + 1)), (2, .int r_21), (0, .ref (a 2)), (1, .ref (a 1))]) hx hb dX0_settle_25 hl (k := 3) rfl rfl (by decide) rfl (fun ls hl => ?_)
          refine lv_goto (tgt := 9) hx hb dX0_settle_28 (by decide) ?_
          exact ih9 r_21 (v3_9 + 1) g_come_21 g_outcomes_21 g_changed_21 g_greatest_21 g_least_21 g_greatestNow_21 g_leastNow_21 h _ _ hP hD hS _ (lv_sub hl [2, 3, 1, 0] rfl)
  obtain ⟨k9, h⟩ := h
  exact LP9 k9 1 0 g_come_2 g_outcomes g_changed_2 g_greatest_2 g_least_2 g_greatestNow_2 g_leastNow_2 h _ _ hP hD hS _ (lv_sub hl [2, 3, 1, 0] rfl)
