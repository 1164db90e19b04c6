def wp_X0_ageAtBegin (v1 : Int32) (v2 : Int32) (v3 : Int32) (g_size : Int32) (g_come : Nat → Int32) (g_greatest : Nat → Int32) (g_least : Nat → Int32) (Q : Int32 → Prop) : Prop := (v2 = (-1) → Q (-1)) ∧ (¬ v2 = (-1) → vp_in v1 40 ∧ ((¬ (g_come (Int32.toNatClampNeg v1)) = 0 → (¬ v3 = 0 → vp_in ((v1 * 40) + v2) 1600 ∧ ((g_size ≤ (g_least (Int32.toNatClampNeg ((v1 * 40) + v2))) → Q (-1)) ∧ (¬ g_size ≤ (g_least (Int32.toNatClampNeg ((v1 * 40) + v2))) → Q (g_least (Int32.toNatClampNeg ((v1 * 40) + v2)))))) ∧ (v3 = 0 → vp_in ((v1 * 40) + v2) 1600 ∧ ((g_size ≤ (g_greatest (Int32.toNatClampNeg ((v1 * 40) + v2))) → Q (-1)) ∧ (¬ g_size ≤ (g_greatest (Int32.toNatClampNeg ((v1 * 40) + v2))) → Q (g_greatest (Int32.toNatClampNeg ((v1 * 40) + v2))))))) ∧ ((g_come (Int32.toNatClampNeg v1)) = 0 → Q (-1))))
abbrev rm_X0_ageAtBegin : Room := { frames := 0, cells := 0, slots := 0, locals := 0 }
set_option maxHeartbeats 4000000 in
set_option maxRecDepth 100000 in
theorem c_X0_ageAtBegin (l : Launch) (D : va_G) (a : Nat → Nat) (cI : ClassId) (cZ : ClassId) (cJ : ClassId) (sz : Nat) (x_agesStand : Int32) (x_searchStands : Int32) (p_blocks : Int32) (p_lines : Int32) (p_edges : Int32) (p_pairs : Int32) (g_sets : Int32) (g_size : Int32) (g_penalty : Int32) (g_comeCount : Int32) (s_answered : Int32) (s_codes : Int32) (s_ordered : Int32) (p_times : Nat → Int32) (p_touchCounts : Nat → Int32) (p_touchSlots : Nat → Int32) (p_lineOfSlot : Nat → Int32) (p_from : Nat → Int32) (p_to : Nat → Int32) (p_bounds : Nat → Int32) (p_pairA : Nat → Int32) (p_pairB : Nat → Int32) (p_leaving : Nat → Int32) (p_firstLeaving : Nat → Int32) (g_come : Nat → Int32) (g_outcomes : Nat → Int32) (g_greatestTimes : Nat → Int32) (g_leastTimes : Nat → Int32) (g_changed : Nat → Int32) (g_greatest : Nat → Int32) (g_least : Nat → Int32) (g_greatestNow : Nat → Int32) (g_leastNow : Nat → Int32) (s_order : Nat → Int32) (s_arriving : Nat → Int32) (s_unit : Nat → Int32) (s_flag : Nat → Int32) (s_forbidding : Nat → Int32) (s_most : Nat → Int64) (s_fewest : Nat → Int64) (v1 : Int32) (v2 : Int32) (v3 : Int32) (Q : Int32 → Prop) (h : wp_X0_ageAtBegin v1 v2 v3 g_size g_come g_greatest g_least Q) : Met l yX0_ageAtBegin wsX0_ageAtBegin rm_X0_ageAtBegin (va_Pc [.ref (a 2), .int v1, .int v2, .int v3] (inW D cI cZ cJ sz (wC a cI cZ cJ x_agesStand x_searchStands p_blocks p_lines p_edges p_pairs g_sets g_size g_penalty g_comeCount s_answered s_codes s_ordered p_times p_touchCounts p_touchSlots p_lineOfSlot p_from p_to p_bounds p_pairA p_pairB p_leaving p_firstLeaving g_come g_outcomes g_greatestTimes g_leastTimes g_changed g_greatest g_least g_greatestNow g_leastNow s_order s_arriving s_unit s_flag s_forbidding s_most s_fewest))) (va_Qi (fun (r : Int32) (u : Unit) => Q r) (fun (u : Unit) => outW D cI cZ cJ (va_A (wC a cI cZ cJ x_agesStand x_searchStands p_blocks p_lines p_edges p_pairs g_sets g_size g_penalty g_comeCount s_answered s_codes s_ordered p_times p_touchCounts p_touchSlots p_lineOfSlot p_from p_to p_bounds p_pairA p_pairB p_leaving p_firstLeaving g_come g_outcomes g_greatestTimes g_leastTimes g_changed g_greatest g_least g_greatestNow g_leastNow s_order s_arriving s_unit s_flag s_forbidding s_most s_fewest) sz) (wC a cI cZ cJ x_agesStand x_searchStands p_blocks p_lines p_edges p_pairs g_sets g_size g_penalty g_comeCount s_answered s_codes s_ordered p_times p_touchCounts p_touchSlots p_lineOfSlot p_from p_to p_bounds p_pairA p_pairB p_leaving p_firstLeaving g_come g_outcomes g_greatestTimes g_leastTimes g_changed g_greatest g_least g_greatestNow g_leastNow s_order s_arriving s_unit s_flag s_forbidding s_most s_fewest)) (va_A (wC a cI cZ cJ x_agesStand x_searchStands p_blocks p_lines p_edges p_pairs g_sets g_size g_penalty g_comeCount s_answered s_codes s_ordered p_times p_touchCounts p_touchSlots p_lineOfSlot p_from p_to p_bounds p_pairA p_pairB p_leaving p_firstLeaving g_come g_outcomes g_greatestTimes g_leastTimes g_changed g_greatest g_least g_greatestNow g_leastNow s_order s_arriving s_unit s_flag s_forbidding s_most s_fewest) sz)) 0 0 (va_A (wC a cI cZ cJ x_agesStand x_searchStands p_blocks p_lines p_edges p_pairs g_sets g_size g_penalty g_comeCount s_answered s_codes s_ordered p_times p_touchCounts p_touchSlots p_lineOfSlot p_from p_to p_bounds p_pairA p_pairB p_leaving p_firstLeaving g_come g_outcomes g_greatestTimes g_leastTimes g_changed g_greatest g_least g_greatestNow g_leastNow s_order s_arriving s_unit s_flag s_forbidding s_most s_fewest) sz) := by
  refine Met.ofW (cc := cX0_ageAtBegin) (maxL := 6) (ret := (some .int)) (by decide +kernel) rfl ?_
  intro p e s m args below meth c s₁ B hml hv
  obtain ⟨rfl, hsz, hP, hK, hD0⟩ := hv
  have hx := B.exec
  have hb := B.bytes
  have hr := B.returns
  have hts := atoms_spec (ws := wsX0_ageAtBegin) B.pre
  have hown : s.vm.findClass RX0 = some m.cls := findClass_of_methodNamed B.named
  have hlocks := B.notSynchronized
  have hinX0 : ∀ w ∈ wsX00, w ∈ wsX0_ageAtBegin := by decide +kernel
  subst hsz
  have hD := hD0.self (sz := s.heap.size)
  generalize hAe : va_A (wC a cI cZ cJ x_agesStand x_searchStands p_blocks p_lines p_edges p_pairs g_sets g_size g_penalty g_comeCount s_answered s_codes s_ordered p_times p_touchCounts p_touchSlots p_lineOfSlot p_from p_to p_bounds p_pairA p_pairB p_leaving p_firstLeaving g_come g_outcomes g_greatestTimes g_leastTimes g_changed g_greatest g_least g_greatestNow g_leastNow s_order s_arriving s_unit s_flag s_forbidding s_most s_fewest) s.heap.size = A at hD ⊢
  have hA : ∀ q : Nat, s.heap.size ≤ q → A q := fun q h => by rw [← hAe]; exact Or.inr h
  have hS : va_S A s.heap s.heap [] := va_S.rf
  have hP : va_P D vwCl (wC a cI cZ cJ x_agesStand x_searchStands p_blocks p_lines p_edges p_pairs g_sets g_size g_penalty g_comeCount s_answered s_codes s_ordered p_times p_touchCounts p_touchSlots p_lineOfSlot p_from p_to p_bounds p_pairA p_pairB p_leaving p_firstLeaving g_come g_outcomes g_greatestTimes g_leastTimes g_changed g_greatest g_least g_greatestNow g_leastNow s_order s_arriving s_unit s_flag s_forbidding s_most s_fewest) s.heap := hP
  have hl := lv_entry ([.ref (a 2), .int v1, .int v2, .int v3]) (n := 6) (Nat.le_of_ble_eq_true rfl)
  rw [lg_entry_eq]
  generalize (lg_sl ([.ref (a 2), .int v1, .int v2, .int v3]) ++ List.replicate (6 - (lg_sl ([.ref (a 2), .int v1, .int v2, .int v3])).length) Slot.unset).toArray = ls at hl ⊢
  have hl : lv_has ls 6 [(0, .ref (a 2)), (1, .int v1), (2, .int v2), (3, .int v3)] := hl
  refine wz_abs (fun Qz hQz => ?_)
  unfold wp_X0_ageAtBegin at h
  refine lv_iload_n hx hb dX0_ageAtBegin_0 rfl (lv_at hl 2 rfl) ?_
  refine lv_iconst (v := (-1)) hx hb dX0_ageAtBegin_1 (by decide) ?_
  refine lv_icmp_eq (tgt := 14) hx hb dX0_ageAtBegin_2 (by decide) (fun hc => ?_) (fun hc => ?_)
  · replace h := h.1 hc
    refine lv_iconst (v := (-1)) hx hb dX0_ageAtBegin_14 (by decide) ?_
    refine wz_mono hQz ?_
    exact W.iret (v := (-1)) hx hb hr (fun t ht hW => ⟨⟨(-1), (), rfl, h, by rw [ht]; exact hP, va_K.moved hW.alike hK, hD⟩, hS.F ht⟩) hS.2.2 dX0_ageAtBegin_15
  · replace h := h.2 hc
    refine lv_aload_n hx hb dX0_ageAtBegin_5 rfl (lv_at hl 0 rfl) ?_
    refine va_get (D := D) (ci := 0) (v := .ref (a 15)) (C := RX0) (T := TX0) (N := 13) hx hb hts hinX0 hown hK hP 2 rfl rfl 3 (by decide) (hts (.fieldLink RX0 9 "WorstPaths$Ages" "come" "[Z") (by decide +kernel)) (fun _ h9 => h9) rfl dX0_ageAtBegin_6 ?_
    refine lv_iload_n hx hb dX0_ageAtBegin_9 rfl (lv_at hl 1 rfl) ?_
    obtain ⟨hq, h⟩ := h
    refine va_zald (D := D) hx hb hK hP 15 1 rfl rfl hq dX0_ageAtBegin_10 ?_
    refine lv_if_ne (tgt := 16) hx hb dX0_ageAtBegin_11 (by decide) (fun hc => ?_) (fun hc => ?_)
    · replace h := h.1 hc
      refine lv_iload_n hx hb dX0_ageAtBegin_16 rfl (lv_at hl 3 rfl) ?_
      refine lv_if_ne (tgt := 27) hx hb dX0_ageAtBegin_17 (by decide) (fun hc => ?_) (fun hc => ?_)
      · replace h := h.1 hc
        refine lv_aload_n hx hb dX0_ageAtBegin_27 rfl (lv_at hl 0 rfl) ?_
        refine va_get (D := D) (ci := 0) (v := .ref (a 21)) (C := RX0) (T := TX0) (N := 13) hx hb hts hinX0 hown hK hP 2 rfl rfl 10 (by decide) (hts (.fieldLink RX0 31 "WorstPaths$Ages" "least" "[I") (by decide +kernel)) (fun _ h9 => h9) rfl dX0_ageAtBegin_28 ?_
        refine lv_astore (lv' := [(4, .ref (a 21)), (0, .ref (a 2)), (1, .int v1), (2, .int v2), (3, .int v3)]) hx hb dX0_ageAtBegin_31 hl (by decide) rfl (fun ls hl => ?_)
        refine lv_aload hx hb dX0_ageAtBegin_33 (lv_at hl 0 rfl) ?_
        refine lv_iload_n hx hb dX0_ageAtBegin_35 rfl (lv_at hl 2 rfl) ?_
        refine lv_bipush (v := 40) hx hb dX0_ageAtBegin_36 (by decide) ?_
        refine lv_imul hx hb dX0_ageAtBegin_38 ?_
        refine lv_iload_n hx hb dX0_ageAtBegin_39 rfl (lv_at hl 3 rfl) ?_
        refine lv_iadd hx hb dX0_ageAtBegin_40 ?_
        obtain ⟨hq, h⟩ := h
        refine va_iald (D := D) hx hb hK hP 21 0 rfl rfl hq dX0_ageAtBegin_41 ?_
        refine lv_istore (lv' := [(5, .int (g_least (Int32.toNatClampNeg ((v1 * 40) + v2)))), (4, .ref (a 21)), (0, .ref (a 2)), (1, .int v1), (2, .int v2), (3, .int v3)]) hx hb dX0_ageAtBegin_42 hl (by decide) rfl (fun ls hl => ?_)
        refine lv_iload hx hb dX0_ageAtBegin_44 (lv_at hl 0 rfl) ?_
        refine lv_aload_n hx hb dX0_ageAtBegin_46 rfl (lv_at hl 2 rfl) ?_
        refine va_get (D := D) (ci := 0) (v := .int g_size) (C := RX0) (T := TX0) (N := 13) hx hb hts hinX0 hown hK hP 2 rfl rfl 1 (by decide) (hts (.fieldLink RX0 44 "WorstPaths$Ages" "size" "I") (by decide +kernel)) (fun _ h9 => h9) rfl dX0_ageAtBegin_47 ?_
        refine lv_icmp_ge (tgt := 58) hx hb dX0_ageAtBegin_50 (by decide) (fun hc => ?_) (fun hc => ?_)
        · replace h := h.1 hc
          refine lv_iconst (v := (-1)) hx hb dX0_ageAtBegin_58 (by decide) ?_
          refine wz_mono hQz ?_
          exact W.iret (v := (-1)) hx hb hr (fun t ht hW => ⟨⟨(-1), (), rfl, h, by rw [ht]; exact hP, va_K.moved hW.alike hK, hD⟩, hS.F ht⟩) hS.2.2 dX0_ageAtBegin_59
        · replace h := h.2 hc
          refine lv_iload hx hb dX0_ageAtBegin_53 (lv_at hl 0 rfl) ?_
          refine lv_goto (tgt := 59) hx hb dX0_ageAtBegin_55 (by decide) ?_
          refine wz_mono hQz ?_
          exact W.iret (v := (g_least (Int32.toNatClampNeg ((v1 * 40) + v2)))) hx hb hr (fun t ht hW => ⟨⟨(g_least (Int32.toNatClampNeg ((v1 * 40) + v2))), (), rfl, h, by rw [ht]; exact hP, va_K.moved hW.alike hK, hD⟩, hS.F ht⟩) hS.2.2 dX0_ageAtBegin_59
      · replace h := h.2 hc
        refine lv_aload_n hx hb dX0_ageAtBegin_20 rfl (lv_at hl 0 rfl) ?_
        refine va_get (D := D) (ci := 0) (v := .ref (a 20)) (C := RX0) (T := TX0) (N := 13) hx hb hts hinX0 hown hK hP 2 rfl rfl 9 (by decide) (hts (.fieldLink RX0 28 "WorstPaths$Ages" "greatest" "[I") (by decide +kernel)) (fun _ h9 => h9) rfl dX0_ageAtBegin_21 ?_
        refine lv_goto (tgt := 31) hx hb dX0_ageAtBegin_24 (by decide) ?_
        refine lv_astore (lv' := [(4, .ref (a 20)), (0, .ref (a 2)), (1, .int v1), (2, .int v2), (3, .int v3)]) hx hb dX0_ageAtBegin_31 hl (by decide) rfl (fun ls hl => ?_)
        refine lv_aload hx hb dX0_ageAtBegin_33 (lv_at hl 0 rfl) ?_
        refine lv_iload_n hx hb dX0_ageAtBegin_35 rfl (lv_at hl 2 rfl) ?_
        refine lv_bipush (v := 40) hx hb dX0_ageAtBegin_36 (by decide) ?_
        refine lv_imul hx hb dX0_ageAtBegin_38 ?_
        refine lv_iload_n hx hb dX0_ageAtBegin_39 rfl (lv_at hl 3 rfl) ?_
        refine lv_iadd hx hb dX0_ageAtBegin_40 ?_
        obtain ⟨hq, h⟩ := h
        refine va_iald (D := D) hx hb hK hP 20 0 rfl rfl hq dX0_ageAtBegin_41 ?_
        refine lv_istore (lv' := [(5, .int (g_greatest (Int32.toNatClampNeg ((v1 * 40) + v2)))), (4, .ref (a 20)), (0, .ref (a 2)), (1, .int v1), (2, .int v2), (3, .int v3)]) hx hb dX0_ageAtBegin_42 hl (by decide) rfl (fun ls hl => ?_)
        refine lv_iload hx hb dX0_ageAtBegin_44 (lv_at hl 0 rfl) ?_
        refine lv_aload_n hx hb dX0_ageAtBegin_46 rfl (lv_at hl 2 rfl) ?_
        refine va_get (D := D) (ci := 0) (v := .int g_size) (C := RX0) (T := TX0) (N := 13) hx hb hts hinX0 hown hK hP 2 rfl rfl 1 (by decide) (hts (.fieldLink RX0 44 "WorstPaths$Ages" "size" "I") (by decide +kernel)) (fun _ h9 => h9) rfl dX0_ageAtBegin_47 ?_
        refine lv_icmp_ge (tgt := 58) hx hb dX0_ageAtBegin_50 (by decide) (fun hc => ?_) (fun hc => ?_)
        · replace h := h.1 hc
          refine lv_iconst (v := (-1)) hx hb dX0_ageAtBegin_58 (by decide) ?_
          refine wz_mono hQz ?_
          exact W.iret (v := (-1)) hx hb hr (fun t ht hW => ⟨⟨(-1), (), rfl, h, by rw [ht]; exact hP, va_K.moved hW.alike hK, hD⟩, hS.F ht⟩) hS.2.2 dX0_ageAtBegin_59
        · replace h := h.2 hc
          refine lv_iload hx hb dX0_ageAtBegin_53 (lv_at hl 0 rfl) ?_
          refine lv_goto (tgt := 59) hx hb dX0_ageAtBegin_55 (by decide) ?_
          refine wz_mono hQz ?_
          exact W.iret (v := (g_greatest (Int32.toNatClampNeg ((v1 * 40) + v2)))) hx hb hr (fun t ht hW => ⟨⟨(g_greatest (Int32.toNatClampNeg ((v1 * 40) + v2))), (), rfl, h, by rw [ht]; exact hP, va_K.moved hW.alike hK, hD⟩, hS.F ht⟩) hS.2.2 dX0_ageAtBegin_59
    · replace h := h.2 hc
      refine lv_iconst (v := (-1)) hx hb dX0_ageAtBegin_14 (by decide) ?_
      refine wz_mono hQz ?_
      exact W.iret (v := (-1)) hx hb hr (fun t ht hW => ⟨⟨(-1), (), rfl, h, by rw [ht]; exact hP, va_K.moved hW.alike hK, hD⟩, hS.F ht⟩) hS.2.2 dX0_ageAtBegin_15
def jn_X0_joinInto_108 (v2 : Int32) (v3 : Int32) (v4 : Int32) (v6 : Int32) (g_come : Nat → Int32) (g_greatest : Nat → Int32) (g_least : Nat → Int32) (g_greatestNow : Nat → Int32) (g_leastNow : Nat → Int32) (K35 : Int32 → Int32 → (Nat → Int32) → (Nat → Int32) → Prop) (Q : Int32 → (Nat → Int32) → (Nat → Int32) → (Nat → Int32) → Prop) : Prop := vp_in v6 40 ∧ (vp_in (v3 + v6) 1600 ∧ (K35 1 (v6 + 1) g_greatest (upd g_least (Int32.toNatClampNeg (v3 + v6)) (g_leastNow (Int32.toNatClampNeg v6)))))
def jn_X0_joinInto_84 (v2 : Int32) (v3 : Int32) (v4 : Int32) (v5 : Int32) (v6 : Int32) (g_come : Nat → Int32) (g_greatest : Nat → Int32) (g_least : Nat → Int32) (g_greatestNow : Nat → Int32) (g_leastNow : Nat → Int32) (K35 : Int32 → Int32 → (Nat → Int32) → (Nat → Int32) → Prop) (Q : Int32 → (Nat → Int32) → (Nat → Int32) → (Nat → Int32) → Prop) : Prop := (¬ v4 = 0 → jn_X0_joinInto_108 v2 v3 v4 v6 g_come g_greatest g_least g_greatestNow g_leastNow K35 Q) ∧ (v4 = 0 → vp_in v6 40 ∧ (vp_in (v3 + v6) 1600 ∧ (((g_least (Int32.toNatClampNeg (v3 + v6))) ≤ (g_leastNow (Int32.toNatClampNeg v6)) → K35 v5 (v6 + 1) g_greatest g_least) ∧ (¬ (g_least (Int32.toNatClampNeg (v3 + v6))) ≤ (g_leastNow (Int32.toNatClampNeg v6)) → jn_X0_joinInto_108 v2 v3 v4 v6 g_come g_greatest g_least g_greatestNow g_leastNow K35 Q))))
def jn_X0_joinInto_65 (v2 : Int32) (v3 : Int32) (v4 : Int32) (v6 : Int32) (g_come : Nat → Int32) (g_greatest : Nat → Int32) (g_least : Nat → Int32) (g_greatestNow : Nat → Int32) (g_leastNow : Nat → Int32) (K35 : Int32 → Int32 → (Nat → Int32) → (Nat → Int32) → Prop) (Q : Int32 → (Nat → Int32) → (Nat → Int32) → (Nat → Int32) → Prop) : Prop := vp_in v6 40 ∧ (vp_in (v3 + v6) 1600 ∧ (jn_X0_joinInto_84 v2 v3 v4 1 v6 g_come (upd g_greatest (Int32.toNatClampNeg (v3 + v6)) (g_greatestNow (Int32.toNatClampNeg v6))) g_least g_greatestNow g_leastNow K35 Q))
def lp_X0_joinInto_35 (v2 : Int32) (v3 : Int32) (v4 : Int32) (g_come : Nat → Int32) (g_greatestNow : Nat → Int32) (g_leastNow : Nat → Int32) (Q : Int32 → (Nat → Int32) → (Nat → Int32) → (Nat → Int32) → Prop) : Nat → Int32 → Int32 → (Nat → Int32) → (Nat → Int32) → Prop
  | 0, _, _, _, _ => False
  | n + 1, v5, v6, g_greatest, g_least => (v2 ≤ v6 → (narrow .boolean (.int v5) = .int v5) ∧ Q v5 g_come g_greatest g_least) ∧ (¬ v2 ≤ v6 → (¬ v4 = 0 → jn_X0_joinInto_65 v2 v3 v4 v6 g_come g_greatest g_least g_greatestNow g_leastNow (lp_X0_joinInto_35 v2 v3 v4 g_come g_greatestNow g_leastNow Q n) Q) ∧ (v4 = 0 → vp_in v6 40 ∧ (vp_in (v3 + v6) 1600 ∧ (((g_greatestNow (Int32.toNatClampNeg v6)) ≤ (g_greatest (Int32.toNatClampNeg (v3 + v6))) → jn_X0_joinInto_84 v2 v3 v4 v5 v6 g_come g_greatest g_least g_greatestNow g_leastNow (lp_X0_joinInto_35 v2 v3 v4 g_come g_greatestNow g_leastNow Q n) Q) ∧ (¬ (g_greatestNow (Int32.toNatClampNeg v6)) ≤ (g_greatest (Int32.toNatClampNeg (v3 + v6))) → jn_X0_joinInto_65 v2 v3 v4 v6 g_come g_greatest g_least g_greatestNow g_leastNow (lp_X0_joinInto_35 v2 v3 v4 g_come g_greatestNow g_leastNow Q n) Q)))))
def jn_X0_joinInto_19 (v1 : Int32) (v2 : Int32) (v3 : Int32) (g_come : Nat → Int32) (g_greatest : Nat → Int32) (g_least : Nat → Int32) (g_greatestNow : Nat → Int32) (g_leastNow : Nat → Int32) (t0 : Int32) (Q : Int32 → (Nat → Int32) → (Nat → Int32) → (Nat → Int32) → Prop) : Prop := vp_in v1 40 ∧ (∃ k35, lp_X0_joinInto_35 v2 v3 t0 (upd g_come (Int32.toNatClampNeg v1) (vp_nar .boolean 1)) g_greatestNow g_leastNow Q k35 t0 0 g_greatest g_least)
def wp_X0_joinInto (v1 : Int32) (v2 : Int32) (g_come : Nat → Int32) (g_greatest : Nat → Int32) (g_least : Nat → Int32) (g_greatestNow : Nat → Int32) (g_leastNow : Nat → Int32) (Q : Int32 → (Nat → Int32) → (Nat → Int32) → (Nat → Int32) → Prop) : Prop := vp_in v1 40 ∧ ((¬ (g_come (Int32.toNatClampNeg v1)) = 0 → jn_X0_joinInto_19 v1 v2 (v1 * 40) g_come g_greatest g_least g_greatestNow g_leastNow 0 Q) ∧ ((g_come (Int32.toNatClampNeg v1)) = 0 → jn_X0_joinInto_19 v1 v2 (v1 * 40) g_come g_greatest g_least g_greatestNow g_leastNow 1 Q))
abbrev rm_X0_joinInto : Room := { frames := 0, cells := 0, slots := 0, locals := 0 }
set_option maxHeartbeats 4000000 in
set_option maxRecDepth 100000 in
theorem c_X0_joinInto (l : Launch) (D : va_G) (a : Nat → Nat) (cI : ClassId) (cZ : ClassId) (cJ : ClassId) (sz : Nat) (x_agesStand : Int32) (x_searchStands : Int32) (p_blocks : Int32) (p_lines : Int32) (p_edges : Int32) (p_pairs : Int32) (g_sets : Int32) (g_size : Int32) (g_penalty : Int32) (g_comeCount : Int32) (s_answered : Int32) (s_codes : Int32) (s_ordered : Int32) (p_times : Nat → Int32) (p_touchCounts : Nat → Int32) (p_touchSlots : Nat → Int32) (p_lineOfSlot : Nat → Int32) (p_from : Nat → Int32) (p_to : Nat → Int32) (p_bounds : Nat → Int32) (p_pairA : Nat → Int32) (p_pairB : Nat → Int32) (p_leaving : Nat → Int32) (p_firstLeaving : Nat → Int32) (g_come : Nat → Int32) (g_outcomes : Nat → Int32) (g_greatestTimes : Nat → Int32) (g_leastTimes : Nat → Int32) (g_changed : Nat → Int32) (g_greatest : Nat → Int32) (g_least : Nat → Int32) (g_greatestNow : Nat → Int32) (g_leastNow : Nat → Int32) (s_order : Nat → Int32) (s_arriving : Nat → Int32) (s_unit : Nat → Int32) (s_flag : Nat → Int32) (s_forbidding : Nat → Int32) (s_most : Nat → Int64) (s_fewest : Nat → Int64) (v1 : Int32) (v2 : Int32) (Q : Int32 → (Nat → Int32) → (Nat → Int32) → (Nat → Int32) → Prop) (h : wp_X0_joinInto v1 v2 g_come g_greatest g_least g_greatestNow g_leastNow Q) : Met l yX0_joinInto wsX0_joinInto rm_X0_joinInto (va_Pc [.ref (a 2), .int v1, .int v2] (inW D cI cZ cJ sz (wC a cI cZ cJ x_agesStand x_searchStands p_blocks p_lines p_edges p_pairs g_sets g_size g_penalty g_comeCount s_answered s_codes s_ordered p_times p_touchCounts p_touchSlots p_lineOfSlot p_from p_to p_bounds p_pairA p_pairB p_leaving p_firstLeaving g_come g_outcomes g_greatestTimes g_leastTimes g_changed g_greatest g_least g_greatestNow g_leastNow s_order s_arriving s_unit s_flag s_forbidding s_most s_fewest))) (va_Qi (fun (r : Int32) (u : (Nat → Int32) × (Nat → Int32) × (Nat → Int32)) => Q r u.1 u.2.1 u.2.2) (fun (u : (Nat → Int32) × (Nat → Int32) × (Nat → Int32)) => outW D cI cZ cJ (va_A (wC a cI cZ cJ x_agesStand x_searchStands p_blocks p_lines p_edges p_pairs g_sets g_size g_penalty g_comeCount s_answered s_codes s_ordered p_times p_touchCounts p_touchSlots p_lineOfSlot p_from p_to p_bounds p_pairA p_pairB p_leaving p_firstLeaving g_come g_outcomes g_greatestTimes g_leastTimes g_changed g_greatest g_least g_greatestNow g_leastNow s_order s_arriving s_unit s_flag s_forbidding s_most s_fewest) sz) (wC a cI cZ cJ x_agesStand x_searchStands p_blocks p_lines p_edges p_pairs g_sets g_size g_penalty g_comeCount s_answered s_codes s_ordered p_times p_touchCounts p_touchSlots p_lineOfSlot p_from p_to p_bounds p_pairA p_pairB p_leaving p_firstLeaving u.1 g_outcomes g_greatestTimes g_leastTimes g_changed u.2.1 u.2.2 g_greatestNow g_leastNow s_order s_arriving s_unit s_flag s_forbidding s_most s_fewest)) (va_A (wC a cI cZ cJ x_agesStand x_searchStands p_blocks p_lines p_edges p_pairs g_sets g_size g_penalty g_comeCount s_answered s_codes s_ordered p_times p_touchCounts p_touchSlots p_lineOfSlot p_from p_to p_bounds p_pairA p_pairB p_leaving p_firstLeaving g_come g_outcomes g_greatestTimes g_leastTimes g_changed g_greatest g_least g_greatestNow g_leastNow s_order s_arriving s_unit s_flag s_forbidding s_most s_fewest) sz)) 0 0 (va_A (wC a cI cZ cJ x_agesStand x_searchStands p_blocks p_lines p_edges p_pairs g_sets g_size g_penalty g_comeCount s_answered s_codes s_ordered p_times p_touchCounts p_touchSlots p_lineOfSlot p_from p_to p_bounds p_pairA p_pairB p_leaving p_firstLeaving g_come g_outcomes g_greatestTimes g_leastTimes g_changed g_greatest g_least g_greatestNow g_leastNow s_order s_arriving s_unit s_flag s_forbidding s_most s_fewest) sz) := by
  refine Met.ofW (cc := cX0_joinInto) (maxL := 7) (ret := (some .boolean)) (by decide +kernel) rfl ?_
  intro p e s m args below meth c s₁ B hml hv
  obtain ⟨rfl, hsz, hP, hK, hD0⟩ := hv
  have hx := B.exec
  have hb := B.bytes
  have hr := B.returns
  have hts := atoms_spec (ws := wsX0_joinInto) B.pre
  have hown : s.vm.findClass RX0 = some m.cls := findClass_of_methodNamed B.named
  have hlocks := B.notSynchronized
  have hinX0 : ∀ w ∈ wsX00, w ∈ wsX0_joinInto := by decide +kernel
  subst hsz
  have hD := hD0.self (sz := s.heap.size)
  generalize hAe : va_A (wC a cI cZ cJ x_agesStand x_searchStands p_blocks p_lines p_edges p_pairs g_sets g_size g_penalty g_comeCount s_answered s_codes s_ordered p_times p_touchCounts p_touchSlots p_lineOfSlot p_from p_to p_bounds p_pairA p_pairB p_leaving p_firstLeaving g_come g_outcomes g_greatestTimes g_leastTimes g_changed g_greatest g_least g_greatestNow g_leastNow s_order s_arriving s_unit s_flag s_forbidding s_most s_fewest) s.heap.size = A at hD ⊢
  have hA : ∀ q : Nat, s.heap.size ≤ q → A q := fun q h => by rw [← hAe]; exact Or.inr h
  have hS : va_S A s.heap s.heap [] := va_S.rf
  have hP : va_P D vwCl (wC a cI cZ cJ x_agesStand x_searchStands p_blocks p_lines p_edges p_pairs g_sets g_size g_penalty g_comeCount s_answered s_codes s_ordered p_times p_touchCounts p_touchSlots p_lineOfSlot p_from p_to p_bounds p_pairA p_pairB p_leaving p_firstLeaving g_come g_outcomes g_greatestTimes g_leastTimes g_changed g_greatest g_least g_greatestNow g_leastNow s_order s_arriving s_unit s_flag s_forbidding s_most s_fewest) s.heap := hP
  have hl := lv_entry ([.ref (a 2), .int v1, .int v2]) (n := 7) (Nat.le_of_ble_eq_true rfl)
  rw [lg_entry_eq]
  generalize (lg_sl ([.ref (a 2), .int v1, .int v2]) ++ List.replicate (7 - (lg_sl ([.ref (a 2), .int v1, .int v2])).length) Slot.unset).toArray = ls at hl ⊢
  have hl : lv_has ls 7 [(0, .ref (a 2)), (1, .int v1), (2, .int v2)] := hl
  refine wz_abs (fun Qz hQz => ?_)
  unfold wp_X0_joinInto at h
  refine lv_iload_n hx hb dX0_joinInto_0 rfl (lv_at hl 1 rfl) ?_
  refine lv_bipush (v := 40) hx hb dX0_joinInto_1 (by decide) ?_
  refine lv_imul hx hb dX0_joinInto_3 ?_
  refine lv_istore_n (lv' := [(3, .int (v1 * 40)), (0, .ref (a 2)), (1, .int v1), (2, .int v2)]) hx hb dX0_joinInto_4 rfl hl (by decide) rfl (fun ls hl => ?_)
  refine lv_aload_n hx hb dX0_joinInto_5 rfl (lv_at hl 1 rfl) ?_
  refine va_get (D := D) (ci := 0) (v := .ref (a 15)) (C := RX0) (T := TX0) (N := 13) hx hb hts hinX0 hown hK hP 2 rfl rfl 3 (by decide) (hts (.fieldLink RX0 9 "WorstPaths$Ages" "come" "[Z") (by decide +kernel)) (fun _ h9 => h9) rfl dX0_joinInto_6 ?_
  refine lv_iload_n hx hb dX0_joinInto_9 rfl (lv_at hl 2 rfl) ?_
  obtain ⟨hq, h⟩ := h
  refine va_zald (D := D) hx hb hK hP 15 1 rfl rfl hq dX0_joinInto_10 ?_
  have JP19 : ∀ (t0_19 : Int32), jn_X0_joinInto_19 v1 v2 (v1 * 40) g_come g_greatest g_least g_greatestNow g_leastNow t0_19 Q → ∀ (H : Heap) (locs : List Loc), va_P D vwCl (wC a cI cZ cJ x_agesStand x_searchStands p_blocks p_lines p_edges p_pairs g_sets g_size g_penalty g_comeCount s_answered s_codes s_ordered p_times p_touchCounts p_touchSlots p_lineOfSlot p_from p_to p_bounds p_pairA p_pairB p_leaving p_firstLeaving g_come g_outcomes g_greatestTimes g_leastTimes g_changed g_greatest g_least g_greatestNow g_leastNow s_order s_arriving s_unit s_flag s_forbidding s_most s_fewest) H → va_D A (wC a cI cZ cJ x_agesStand x_searchStands p_blocks p_lines p_edges p_pairs g_sets g_size g_penalty g_comeCount s_answered s_codes s_ordered p_times p_touchCounts p_touchSlots p_lineOfSlot p_from p_to p_bounds p_pairA p_pairB p_leaving p_firstLeaving g_come g_outcomes g_greatestTimes g_leastTimes g_changed g_greatest g_least g_greatestNow g_leastNow s_order s_arriving s_unit s_flag s_forbidding s_most s_fewest) → va_S A s.heap H locs → ∀ (ls : Array Slot), lv_has ls 7 [(0, .ref (a 2)), (1, .int v1), (2, .int v2), (3, .int (v1 * 40))] → W p l e (headSpec wsX0_joinInto rm_X0_joinInto).room s m ([Value.ref (a 2), Value.int v1, Value.int v2] : List Value).toArray below meth c H locs 0 0 Qz (F0 m 19 ls [.int t0_19]) := by
    intro t0_19 h H locs hP hD hS ls hl
    unfold jn_X0_joinInto_19 at h
    refine lv_istore (lv' := [(4, .int t0_19), (0, .ref (a 2)), (1, .int v1), (2, .int v2), (3, .int (v1 * 40))]) hx hb dX0_joinInto_19 hl (by decide) rfl (fun ls hl => ?_)
    refine lv_iload hx hb dX0_joinInto_21 (lv_at hl 0 rfl) ?_
    refine lv_istore (lv' := [(5, .int t0_19), (4, .int t0_19), (0, .ref (a 2)), (1, .int v1), (2, .int v2), (3, .int (v1 * 40))]) hx hb dX0_joinInto_23 hl (by decide) rfl (fun ls hl => ?_)
    refine lv_aload_n hx hb dX0_joinInto_25 rfl (lv_at hl 2 rfl) ?_
    refine va_get (D := D) (ci := 0) (v := .ref (a 15)) (C := RX0) (T := TX0) (N := 13) hx hb hts hinX0 hown hK hP 2 rfl rfl 3 (by decide) (hts (.fieldLink RX0 9 "WorstPaths$Ages" "come" "[Z") (by decide +kernel)) (fun _ h9 => h9) rfl dX0_joinInto_26 ?_
    refine lv_iload_n hx hb dX0_joinInto_29 rfl (lv_at hl 3 rfl) ?_
    refine lv_iconst (v := 1) hx hb dX0_joinInto_30 (by decide) ?_
    obtain ⟨hq, h⟩ := h
    refine va_zast (D := D) hx hb hK hP hD hS 15 1 rfl rfl hq dX0_joinInto_31 (fun H locs hP hD hS => ?_)
    have hP : va_P D vwCl (wC a cI cZ cJ x_agesStand x_searchStands p_blocks p_lines p_edges p_pairs g_sets g_size g_penalty g_comeCount s_answered s_codes s_ordered p_times p_touchCounts p_touchSlots p_lineOfSlot p_from p_to p_bounds p_pairA p_pairB p_leaving p_firstLeaving (upd g_come (Int32.toNatClampNeg v1) (vp_nar .boolean 1)) g_outcomes g_greatestTimes g_leastTimes g_changed g_greatest g_least g_greatestNow g_leastNow s_order s_arriving s_unit s_flag s_forbidding s_most s_fewest) H := hP
    have hD : va_D A (wC a cI cZ cJ x_agesStand x_searchStands p_blocks p_lines p_edges p_pairs g_sets g_size g_penalty g_comeCount s_answered s_codes s_ordered p_times p_touchCounts p_touchSlots p_lineOfSlot p_from p_to p_bounds p_pairA p_pairB p_leaving p_firstLeaving (upd g_come (Int32.toNatClampNeg v1) (vp_nar .boolean 1)) g_outcomes g_greatestTimes g_leastTimes g_changed g_greatest g_least g_greatestNow g_leastNow s_order s_arriving s_unit s_flag s_forbidding s_most s_fewest) := hD
    refine lv_iconst (v := 0) hx hb dX0_joinInto_32 (by decide) ?_
    refine lv_istore (lv' := [(6, .int 0), (5, .int t0_19), (4, .int t0_19), (0, .ref (a 2)), (1, .int v1), (2, .int v2), (3, .int (v1 * 40))]) hx hb dX0_joinInto_33 hl (by decide) rfl (fun ls hl => ?_)
    have LP35 : ∀ (n35 : Nat) (v5_35 : Int32) (v6_35 : Int32) (g_greatest_35 : Nat → Int32) (g_least_35 : Nat → Int32), lp_X0_joinInto_35 v2 (v1 * 40) t0_19 (upd g_come (Int32.toNatClampNeg v1) (vp_nar .boolean 1)) g_greatestNow g_leastNow Q n35 v5_35 v6_35 g_greatest_35 g_least_35 → ∀ (H : Heap) (locs : List Loc), va_P D vwCl (wC a cI cZ cJ x_agesStand x_searchStands p_blocks p_lines p_edges p_pairs g_sets g_size g_penalty g_comeCount s_answered s_codes s_ordered p_times p_touchCounts p_touchSlots p_lineOfSlot p_from p_to p_bounds p_pairA p_pairB p_leaving p_firstLeaving (upd g_come (Int32.toNatClampNeg v1) (vp_nar .boolean 1)) g_outcomes g_greatestTimes g_leastTimes g_changed g_greatest_35 g_least_35 g_greatestNow g_leastNow s_order s_arriving s_unit s_flag s_forbidding s_most s_fewest) H → va_D A (wC a cI cZ cJ x_agesStand x_searchStands p_blocks p_lines p_edges p_pairs g_sets g_size g_penalty g_comeCount s_answered s_codes s_ordered p_times p_touchCounts p_touchSlots p_lineOfSlot p_from p_to p_bounds p_pairA p_pairB p_leaving p_firstLeaving (upd g_come (Int32.toNatClampNeg v1) (vp_nar .boolean 1)) g_outcomes g_greatestTimes g_leastTimes g_changed g_greatest_35 g_least_35 g_greatestNow g_leastNow s_order s_arriving s_unit s_flag s_forbidding s_most s_fewest) → va_S A s.heap H locs → ∀ (ls : Array Slot), lv_has ls 7 [(0, .ref (a 2)), (2, .int v2), (3, .int (v1 * 40)), (4, .int t0_19), (5, .int v5_35), (6, .int v6_35)] → W p l e (headSpec wsX0_joinInto rm_X0_joinInto).room s m ([Value.ref (a 2), Value.int v1, Value.int v2] : List Value).toArray below meth c H locs 0 0 Qz (F0 m 35 ls []) := by
      intro n35
      induction n35 with
      | zero => intro v5_35 v6_35 g_greatest_35 g_least_35 h; exact h.elim
      | succ n35 ih35 =>
        intro v5_35 v6_35 g_greatest_35 g_least_35 h H locs hP hD hS ls hl
        unfold lp_X0_joinInto_35 at h
        refine lv_iload hx hb dX0_joinInto_35 (lv_at hl 5 rfl) ?_
        refine lv_iload_n hx hb dX0_joinInto_37 rfl (lv_at hl 1 rfl) ?_
        refine lv_icmp_ge (tgt := 133) hx hb dX0_joinInto_38 (by decide) (fun hc => ?_) (fun hc => ?_)
        · replace h := h.1 hc
          refine lv_iload hx hb dX0_joinInto_133 (lv_at hl 4 rfl) ?_
          refine wz_mono hQz ?_
          obtain ⟨hn9, h⟩ := h
          exact W.zret (v := v5_35) hx hb hr hn9 (fun t ht hW => ⟨⟨v5_35, ((upd g_come (Int32.toNatClampNeg v1) (vp_nar .boolean 1)), g_greatest_35, g_least_35), rfl, h, by rw [ht]; exact hP, va_K.moved hW.alike hK, hD⟩, hS.F ht⟩) hS.2.2 dX0_joinInto_135
        · replace h := h.2 hc
          refine lv_iload hx hb dX0_joinInto_41 (lv_at hl 3 rfl) ?_
          have JP84 : ∀ (v5_84 : Int32) (g_greatest_84 : Nat → Int32), jn_X0_joinInto_84 v2 (v1 * 40) t0_19 v5_84 v6_35 (upd g_come (Int32.toNatClampNeg v1) (vp_nar .boolean 1)) g_greatest_84 g_least_35 g_greatestNow g_leastNow (lp_X0_joinInto_35 v2 (v1 * 40) t0_19 (upd g_come (Int32.toNatClampNeg v1) (vp_nar .boolean 1)) g_greatestNow g_leastNow Q n35) Q → ∀ (H : Heap) (locs : List Loc), va_P D vwCl (wC a cI cZ cJ x_agesStand x_searchStands p_blocks p_lines p_edges p_pairs g_sets g_size g_penalty g_comeCount s_answered s_codes s_ordered p_times p_touchCounts p_touchSlots p_lineOfSlot p_from p_to p_bounds p_pairA p_pairB p_leaving p_firstLeaving (upd g_come (Int32.toNatClampNeg v1) (vp_nar .boolean 1)) g_outcomes g_greatestTimes g_leastTimes g_changed g_greatest_84 g_least_35 g_greatestNow g_leastNow s_order s_arriving s_unit s_flag s_forbidding s_most s_fewest) H → va_D A (wC a cI cZ cJ x_agesStand x_searchStands p_blocks p_lines p_edges p_pairs g_sets g_size g_penalty g_comeCount s_answered s_codes s_ordered p_times p_touchCounts p_touchSlots p_lineOfSlot p_from p_to p_bounds p_pairA p_pairB p_leaving p_firstLeaving (upd g_come (Int32.toNatClampNeg v1) (vp_nar .boolean 1)) g_outcomes g_greatestTimes g_leastTimes g_changed g_greatest_84 g_least_35 g_greatestNow g_leastNow s_order s_arriving s_unit s_flag s_forbidding s_most s_fewest) → va_S A s.heap H locs → ∀ (ls : Array Slot), lv_has ls 7 [(0, .ref (a 2)), (2, .int v2), (3, .int (v1 * 40)), (4, .int t0_19), (5, .int v5_84), (6, .int v6_35)] → W p l e (headSpec wsX0_joinInto rm_X0_joinInto).room s m ([Value.ref (a 2), Value.int v1, Value.int v2] : List Value).toArray below meth c H locs 0 0 Qz (F0 m 84 ls []) := by
            intro v5_84 g_greatest_84 h H locs hP hD hS ls hl
            unfold jn_X0_joinInto_84 at h
            refine lv_iload hx hb dX0_joinInto_84 (lv_at hl 3 rfl) ?_
            have JP108 : jn_X0_joinInto_108 v2 (v1 * 40) t0_19 v6_35 (upd g_come (Int32.toNatClampNeg v1) (vp_nar .boolean 1)) g_greatest_84 g_least_35 g_greatestNow g_leastNow (lp_X0_joinInto_35 v2 (v1 * 40) t0_19 (upd g_come (Int32.toNatClampNeg v1) (vp_nar .boolean 1)) g_greatestNow g_leastNow Q n35) Q → ∀ (H : Heap) (locs : List Loc), va_P D vwCl (wC a cI cZ cJ x_agesStand x_searchStands p_blocks p_lines p_edges p_pairs g_sets g_size g_penalty g_comeCount s_answered s_codes s_ordered p_times p_touchCounts p_touchSlots p_lineOfSlot p_from p_to p_bounds p_pairA p_pairB p_leaving p_firstLeaving (upd g_come (Int32.toNatClampNeg v1) (vp_nar .boolean 1)) g_outcomes g_greatestTimes g_leastTimes g_changed g_greatest_84 g_least_35 g_greatestNow g_leastNow s_order s_arriving s_unit s_flag s_forbidding s_most s_fewest) H → va_D A (wC a cI cZ cJ x_agesStand x_searchStands p_blocks p_lines p_edges p_pairs g_sets g_size g_penalty g_comeCount s_answered s_codes s_ordered p_times p_touchCounts p_touchSlots p_lineOfSlot p_from p_to p_bounds p_pairA p_pairB p_leaving p_firstLeaving (upd g_come (Int32.toNatClampNeg v1) (vp_nar .boolean 1)) g_outcomes g_greatestTimes g_leastTimes g_changed g_greatest_84 g_least_35 g_greatestNow g_leastNow s_order s_arriving s_unit s_flag s_forbidding s_most s_fewest) → va_S A s.heap H locs → ∀ (ls : Array Slot), lv_has ls 7 [(0, .ref (a 2)), (2, .int v2), (3, .int (v1 * 40)), (4, .int t0_19), (6, .int v6_35)] → W p l e (headSpec wsX0_joinInto rm_X0_joinInto).room s m ([Value.ref (a 2), Value.int v1, Value.int v2] : List Value).toArray below meth c H locs 0 0 Qz (F0 m 108 ls []) := by
              intro  h H locs hP hD hS ls hl
              unfold jn_X0_joinInto_108 at h
              refine lv_aload_n hx hb dX0_joinInto_108 rfl (lv_at hl 0 rfl) ?_
              refine va_get (D := D) (ci := 0) (v := .ref (a 21)) (C := RX0) (T := TX0) (N := 13) hx hb hts hinX0 hown hK hP 2 rfl rfl 10 (by decide) (hts (.fieldLink RX0 31 "WorstPaths$Ages" "least" "[I") (by decide +kernel)) (fun _ h9 => h9) rfl dX0_joinInto_109 ?_
              refine lv_iload_n hx hb dX0_joinInto_112 rfl (lv_at hl 2 rfl) ?_
              refine lv_iload hx hb dX0_joinInto_113 (lv_at hl 4 rfl) ?_
              refine lv_iadd hx hb dX0_joinInto_115 ?_
              refine lv_aload_n hx hb dX0_joinInto_116 rfl (lv_at hl 0 rfl) ?_
              refine va_get (D := D) (ci := 0) (v := .ref (a 23)) (C := RX0) (T := TX0) (N := 13) hx hb hts hinX0 hown hK hP 2 rfl rfl 12 (by decide) (hts (.fieldLink RX0 37 "WorstPaths$Ages" "leastNow" "[I") (by decide +kernel)) (fun _ h9 => h9) rfl dX0_joinInto_117 ?_
              refine lv_iload hx hb dX0_joinInto_120 (lv_at hl 4 rfl) ?_
              obtain ⟨hq, h⟩ := h
              refine va_iald (D := D) hx hb hK hP 23 0 rfl rfl hq dX0_joinInto_122 ?_
              obtain ⟨hq, h⟩ := h
              refine va_iast (D := D) hx hb hK hP hD hS 21 0 rfl rfl hq dX0_joinInto_123 (fun H locs hP hD hS => ?_)
              have hP : va_P D vwCl (wC a cI cZ cJ x_agesStand x_searchStands p_blocks p_lines p_edges p_pairs g_sets g_size g_penalty g_comeCount s_answered s_codes s_ordered p_times p_touchCounts p_touchSlots p_lineOfSlot p_from p_to p_bounds p_pairA p_pairB p_leaving p_firstLeaving (upd g_come (Int32.toNatClampNeg v1) (vp_nar .boolean 1)) g_outcomes g_greatestTimes g_leastTimes g_changed g_greatest_84 (upd g_least_35 (Int32.toNatClampNeg ((v1 * 40) + v6_35)) (g_leastNow (Int32.toNatClampNeg v6_35))) g_greatestNow g_leastNow s_order s_arriving s_unit s_flag s_forbidding s_most s_fewest) H := hP
              have hD : va_D A (wC a cI cZ cJ x_agesStand x_searchStands p_blocks p_lines p_edges p_pairs g_sets g_size g_penalty g_comeCount s_answered s_codes s_ordered p_times p_touchCounts p_touchSlots p_lineOfSlot p_from p_to p_bounds p_pairA p_pairB p_leaving p_firstLeaving (upd g_come (Int32.toNatClampNeg v1) (vp_nar .boolean 1)) g_outcomes g_greatestTimes g_leastTimes g_changed g_greatest_84 (upd g_least_35 (Int32.toNatClampNeg ((v1 * 40) + v6_35)) (g_leastNow (Int32.toNatClampNeg v6_35))) g_greatestNow g_leastNow s_order s_arriving s_unit s_flag s_forbidding s_most s_fewest) := hD
              refine lv_iconst (v := 1) hx hb dX0_joinInto_124 (by decide) ?_
              refine lv_istore (lv' := [(5, .int 1), (0, .ref (a 2)), (2, .int v2), (3, .int (v1 * 40)), (4, .int t0_19), (6, .int v6_35)]) hx hb dX0_joinInto_125 hl (by decide) rfl (fun ls hl => ?_)
              refine lv_iinc (v := (v6_35 + 1)) (lv' := [(6, .int (v6_35 + 1)), (5, .int 1), (0, .ref (a 2)), (2, .int v2), (3, .int (v1 * 40)), (4, .int t0_19)]) hx hb dX0_joinInto_127 hl (k := 5) rfl rfl (by decide) rfl (fun ls hl => ?_)
              refine lv_goto (tgt := 35) hx hb dX0_joinInto_130 (by decide) ?_
              exact ih35 1 (v6_35 + 1) g_greatest_84 (upd g_least_35 (Int32.toNatClampNeg ((v1 * 40) + v6_35)) (g_leastNow (Int32.toNatClampNeg v6_35))) h _ _ hP hD hS _ (lv_sub hl [2, 3, 4, 5, 1, 0] rfl)
            refine lv_if_ne (tgt := 108) hx hb dX0_joinInto_86 (by decide) (fun hc => ?_) (fun hc => ?_)
            · replace h := h.1 hc
              exact JP108  h _ _ hP hD hS _ (lv_sub hl [0, 1, 2, 3, 5] rfl)
            · replace h := h.2 hc
              refine lv_aload_n hx hb dX0_joinInto_89 rfl (lv_at hl 0 rfl) ?_
              refine va_get (D := D) (ci := 0) (v := .ref (a 23)) (C := RX0) (T := TX0) (N := 13) hx hb hts hinX0 hown hK hP 2 rfl rfl 12 (by decide) (hts (.fieldLink RX0 37 "WorstPaths$Ages" "leastNow" "[I") (by decide +kernel)) (fun _ h9 => h9) rfl dX0_joinInto_90 ?_
              refine lv_iload hx hb dX0_joinInto_93 (lv_at hl 5 rfl) ?_
              obtain ⟨hq, h⟩ := h
              refine va_iald (D := D) hx hb hK hP 23 0 rfl rfl hq dX0_joinInto_95 ?_
              refine lv_aload_n hx hb dX0_joinInto_96 rfl (lv_at hl 0 rfl) ?_
              refine va_get (D := D) (ci := 0) (v := .ref (a 21)) (C := RX0) (T := TX0) (N := 13) hx hb hts hinX0 hown hK hP 2 rfl rfl 10 (by decide) (hts (.fieldLink RX0 31 "WorstPaths$Ages" "least" "[I") (by decide +kernel)) (fun _ h9 => h9) rfl dX0_joinInto_97 ?_
              refine lv_iload_n hx hb dX0_joinInto_100 rfl (lv_at hl 2 rfl) ?_
              refine lv_iload hx hb dX0_joinInto_101 (lv_at hl 5 rfl) ?_
              refine lv_iadd hx hb dX0_joinInto_103 ?_
              obtain ⟨hq, h⟩ := h
              refine va_iald (D := D) hx hb hK hP 21 0 rfl rfl hq dX0_joinInto_104 ?_
              refine lv_icmp_ge (tgt := 127) hx hb dX0_joinInto_105 (by decide) (fun hc => ?_) (fun hc => ?_)
              · replace h := h.1 hc
                refine lv_iinc (v := (v6_35 + 1)) (lv' := [(6, .int (v6_35 + 1)), (0, .ref (a 2)), (2, .int v2), (3, .int (v1 * 40)), (4, .int t0_19), (5, .int v5_84)]) hx hb dX0_joinInto_127 hl (k := 5) rfl rfl (by decide) rfl (fun ls hl => ?_)
                refine lv_goto (tgt := 35) hx hb dX0_joinInto_130 (by decide) ?_
                exact ih35 v5_84 (v6_35 + 1) g_greatest_84 g_least_35 h _ _ hP hD hS _ (lv_sub hl [1, 2, 3, 4, 5, 0] rfl)
              · replace h := h.2 hc
                exact JP108  h _ _ hP hD hS _ (lv_sub hl [0, 1, 2, 3, 5] rfl)
          have JP65 : jn_X0_joinInto_65 v2 (v1 * 40) t0_19 v6_35 (upd g_come (Int32.toNatClampNeg v1) (vp_nar .boolean 1)) g_greatest_35 g_least_35 g_greatestNow g_leastNow (lp_X0_joinInto_35 v2 (v1 * 40) t0_19 (upd g_come (Int32.toNatClampNeg v1) (vp_nar .boolean 1)) g_greatestNow g_leastNow Q n35) Q → ∀ (H : Heap) (locs : List Loc), va_P D vwCl (wC a cI cZ cJ x_agesStand x_searchStands p_blocks p_lines p_edges p_pairs g_sets g_size g_penalty g_comeCount s_answered s_codes s_ordered p_times p_touchCounts p_touchSlots p_lineOfSlot p_from p_to p_bounds p_pairA p_pairB p_leaving p_firstLeaving (upd g_come (Int32.toNatClampNeg v1) (vp_nar .boolean 1)) g_outcomes g_greatestTimes g_leastTimes g_changed g_greatest_35 g_least_35 g_greatestNow g_leastNow s_order s_arriving s_unit s_flag s_forbidding s_most s_fewest) H → va_D A (wC a cI cZ cJ x_agesStand x_searchStands p_blocks p_lines p_edges p_pairs g_sets g_size g_penalty g_comeCount s_answered s_codes s_ordered p_times p_touchCounts p_touchSlots p_lineOfSlot p_from p_to p_bounds p_pairA p_pairB p_leaving p_firstLeaving (upd g_come (Int32.toNatClampNeg v1) (vp_nar .boolean 1)) g_outcomes g_greatestTimes g_leastTimes g_changed g_greatest_35 g_least_35 g_greatestNow g_leastNow s_order s_arriving s_unit s_flag s_forbidding s_most s_fewest) → va_S A s.heap H locs → ∀ (ls : Array Slot), lv_has ls 7 [(0, .ref (a 2)), (2, .int v2), (3, .int (v1 * 40)), (4, .int t0_19), (6, .int v6_35)] → W p l e (headSpec wsX0_joinInto rm_X0_joinInto).room s m ([Value.ref (a 2), Value.int v1, Value.int v2] : List Value).toArray below meth c H locs 0 0 Qz (F0 m 65 ls []) := by
            intro  h H locs hP hD hS ls hl
            unfold jn_X0_joinInto_65 at h
            refine lv_aload_n hx hb dX0_joinInto_65 rfl (lv_at hl 0 rfl) ?_
            refine va_get (D := D) (ci := 0) (v := .ref (a 20)) (C := RX0) (T := TX0) (N := 13) hx hb hts hinX0 hown hK hP 2 rfl rfl 9 (by decide) (hts (.fieldLink RX0 28 "WorstPaths$Ages" "greatest" "[I") (by decide +kernel)) (fun _ h9 => h9) rfl dX0_joinInto_66 ?_
            refine lv_iload_n hx hb dX0_joinInto_69 rfl (lv_at hl 2 rfl) ?_
            refine lv_iload hx hb dX0_joinInto_70 (lv_at hl 4 rfl) ?_
            refine lv_iadd hx hb dX0_joinInto_72 ?_
            refine lv_aload_n hx hb dX0_joinInto_73 rfl (lv_at hl 0 rfl) ?_
            refine va_get (D := D) (ci := 0) (v := .ref (a 22)) (C := RX0) (T := TX0) (N := 13) hx hb hts hinX0 hown hK hP 2 rfl rfl 11 (by decide) (hts (.fieldLink RX0 34 "WorstPaths$Ages" "greatestNow" "[I") (by decide +kernel)) (fun _ h9 => h9) rfl dX0_joinInto_74 ?_
            refine lv_iload hx hb dX0_joinInto_77 (lv_at hl 4 rfl) ?_
            obtain ⟨hq, h⟩ := h
            refine va_iald (D := D) hx hb hK hP 22 0 rfl rfl hq dX0_joinInto_79 ?_
            obtain ⟨hq, h⟩ := h
            refine va_iast (D := D) hx hb hK hP hD hS 20 0 rfl rfl hq dX0_joinInto_80 (fun H locs hP hD hS => ?_)
            have hP : va_P D vwCl (wC a cI cZ cJ x_agesStand x_searchStands p_blocks p_lines p_edges p_pairs g_sets g_size g_penalty g_comeCount s_answered s_codes s_ordered p_times p_touchCounts p_touchSlots p_lineOfSlot p_from p_to p_bounds p_pairA p_pairB p_leaving p_firstLeaving (upd g_come (Int32.toNatClampNeg v1) (vp_nar .boolean 1)) g_outcomes g_greatestTimes g_leastTimes g_changed (upd g_greatest_35 (Int32.toNatClampNeg ((v1 * 40) + v6_35)) (g_greatestNow (Int32.toNatClampNeg v6_35))) g_least_35 g_greatestNow g_leastNow s_order s_arriving s_unit s_flag s_forbidding s_most s_fewest) H := hP
            have hD : va_D A (wC a cI cZ cJ x_agesStand x_searchStands p_blocks p_lines p_edges p_pairs g_sets g_size g_penalty g_comeCount s_answered s_codes s_ordered p_times p_touchCounts p_touchSlots p_lineOfSlot p_from p_to p_bounds p_pairA p_pairB p_leaving p_firstLeaving (upd g_come (Int32.toNatClampNeg v1) (vp_nar .boolean 1)) g_outcomes g_greatestTimes g_leastTimes g_changed (upd g_greatest_35 (Int32.toNatClampNeg ((v1 * 40) + v6_35)) (g_greatestNow (Int32.toNatClampNeg v6_35))) g_least_35 g_greatestNow g_leastNow s_order s_arriving s_unit s_flag s_forbidding s_most s_fewest) := hD
            refine lv_iconst (v := 1) hx hb dX0_joinInto_81 (by decide) ?_
            refine lv_istore (lv' := [(5, .int 1), (0, .ref (a 2)), (2, .int v2), (3, .int (v1 * 40)), (4, .int t0_19), (6, .int v6_35)]) hx hb dX0_joinInto_82 hl (by decide) rfl (fun ls hl => ?_)
            exact JP84 1 (upd g_greatest_35 (Int32.toNatClampNeg ((v1 * 40) + v6_35)) (g_greatestNow (Int32.toNatClampNeg v6_35))) h _ _ hP hD hS _ (lv_sub hl [1, 2, 3, 4, 0, 5] rfl)
          refine lv_if_ne (tgt := 65) hx hb dX0_joinInto_43 (by decide) (fun hc => ?_) (fun hc => ?_)
          · replace h := h.1 hc
            exact JP65  h _ _ hP hD hS _ (lv_sub hl [0, 1, 2, 3, 5] rfl)
          · replace h := h.2 hc
            refine lv_aload_n hx hb dX0_joinInto_46 rfl (lv_at hl 0 rfl) ?_
            refine va_get (D := D) (ci := 0) (v := .ref (a 22)) (C := RX0) (T := TX0) (N := 13) hx hb hts hinX0 hown hK hP 2 rfl rfl 11 (by decide) (hts (.fieldLink RX0 34 "WorstPaths$Ages" "greatestNow" "[I") (by decide +kernel)) (fun _ h9 => h9) rfl dX0_joinInto_47 ?_
            refine lv_iload hx hb dX0_joinInto_50 (lv_at hl 5 rfl) ?_
            obtain ⟨hq, h⟩ := h
            refine va_iald (D := D) hx hb hK hP 22 0 rfl rfl hq dX0_joinInto_52 ?_
            refine lv_aload_n hx hb dX0_joinInto_53 rfl (lv_at hl 0 rfl) ?_
            refine va_get (D := D) (ci := 0) (v := .ref (a 20)) (C := RX0) (T := TX0) (N := 13) hx hb hts hinX0 hown hK hP 2 rfl rfl 9 (by decide) (hts (.fieldLink RX0 28 "WorstPaths$Ages" "greatest" "[I") (by decide +kernel)) (fun _ h9 => h9) rfl dX0_joinInto_54 ?_
            refine lv_iload_n hx hb dX0_joinInto_57 rfl (lv_at hl 2 rfl) ?_
            refine lv_iload hx hb dX0_joinInto_58 (lv_at hl 5 rfl) ?_
            refine lv_iadd hx hb dX0_joinInto_60 ?_
            obtain ⟨hq, h⟩ := h
            refine va_iald (D := D) hx hb hK hP 20 0 rfl rfl hq dX0_joinInto_61 ?_
            refine lv_icmp_le (tgt := 84) hx hb dX0_joinInto_62 (by decide) (fun hc => ?_) (fun hc => ?_)
            · replace h := h.1 hc
              exact JP84 v5_35 g_greatest_35 h _ _ hP hD hS _ (lv_sub hl [0, 1, 2, 3, 4, 5] rfl)
            · replace h := h.2 hc
              exact JP65  h _ _ hP hD hS _ (lv_sub hl [0, 1, 2, 3, 5] rfl)
    obtain ⟨k9, h⟩ := h
    exact LP35 k9 t0_19 0 g_greatest g_least h _ _ hP hD hS _ (lv_sub hl [3, 5, 6, 2, 1, 0] rfl)
  refine lv_if_ne (tgt := 18) hx hb dX0_joinInto_11 (by decide) (fun hc => ?_) (fun hc => ?_)
  · replace h := h.1 hc
    refine lv_iconst (v := 0) hx hb dX0_joinInto_18 (by decide) ?_
    exact JP19 0 h _ _ hP hD hS _ (lv_sub hl [1, 2, 3, 0] rfl)
  · replace h := h.2 hc
    refine lv_iconst (v := 1) hx hb dX0_joinInto_14 (by decide) ?_
    refine lv_goto (tgt := 19) hx hb dX0_joinInto_15 (by decide) ?_
    exact JP19 1 h _ _ hP hD hS _ (lv_sub hl [1, 2, 3, 0] rfl)
def lp_X0_begin_2 (p_blocks : Int32) (p_lines : Int32) (g_size : Int32) (g_greatest : Nat → Int32) (g_least : Nat → Int32) (g_greatestNow : Nat → Int32) (g_leastNow : Nat → Int32) (Q : (Nat → Int32) → (Nat → Int32) → (Nat → Int32) → (Nat → Int32) → (Nat → Int32) → (Nat → Int32) → Prop) : Nat → Int32 → (Nat → Int32) → (Nat → Int32) → Prop
  | 0, _, _, _ => False
  | n + 1, v2, g_come, g_changed => (40 ≤ v2 → (p_blocks ≤ 0 → Q g_come g_changed g_greatest g_least g_greatestNow g_leastNow) ∧ (¬ p_blocks ≤ 0 → wp_X0_joinInto 0 p_lines g_come g_greatest g_least (filled g_greatestNow 40 g_size) (filled g_leastNow 40 g_size) (fun r_68 g_come_68 g_greatest_68 g_least_68 => vp_in 0 40 ∧ (Q g_come_68 (upd g_changed (Int32.toNatClampNeg 0) (vp_nar .boolean r_68)) g_greatest_68 g_least_68 (filled g_greatestNow 40 g_size) (filled g_leastNow 40 g_size))))) ∧ (¬ 40 ≤ v2 → vp_in v2 40 ∧ (vp_in v2 40 ∧ ((lp_X0_begin_2 p_blocks p_lines g_size g_greatest g_least g_greatestNow g_leastNow Q n) (v2 + 1) (upd g_come (Int32.toNatClampNeg v2) (vp_nar .boolean 0)) (upd g_changed (Int32.toNatClampNeg v2) (vp_nar .boolean 0)))))
def wp_X0_begin (p_blocks : Int32) (p_lines : Int32) (g_size : Int32) (g_come : Nat → Int32) (g_changed : Nat → Int32) (g_greatest : Nat → Int32) (g_least : Nat → Int32) (g_greatestNow : Nat → Int32) (g_leastNow : Nat → Int32) (Q : (Nat → Int32) → (Nat → Int32) → (Nat → Int32) → (Nat → Int32) → (Nat → Int32) → (Nat → Int32) → Prop) : Prop := ∃ k2, lp_X0_begin_2 p_blocks p_lines g_size g_greatest g_least g_greatestNow g_leastNow Q k2 0 g_come g_changed
abbrev rm_X0_begin : Room := { frames := 1, cells := 0, slots := 0, locals := 26 }
set_option maxHeartbeats 4000000 in
set_option maxRecDepth 100000 in
theorem c_X0_begin (l : Launch) (D : va_G) (a : Nat → Nat) (cI : ClassId) (cZ : ClassId) (cJ : ClassId) (sz : Nat) (x_agesStand : Int32) (x_searchStands : Int32) (p_blocks : Int32) (p_lines : Int32) (p_edges : Int32) (p_pairs : Int32) (g_sets : Int32) (g_size : Int32) (g_penalty : Int32) (g_comeCount : Int32) (s_answered : Int32) (s_codes : Int32) (s_ordered : Int32) (p_times : Nat → Int32) (p_touchCounts : Nat → Int32) (p_touchSlots : Nat → Int32) (p_lineOfSlot : Nat → Int32) (p_from : Nat → Int32) (p_to : Nat → Int32) (p_bounds : Nat → Int32) (p_pairA : Nat → Int32) (p_pairB : Nat → Int32) (p_leaving : Nat → Int32) (p_firstLeaving : Nat → Int32) (g_come : Nat → Int32) (g_outcomes : Nat → Int32) (g_greatestTimes : Nat → Int32) (g_leastTimes : Nat → Int32) (g_changed : Nat → Int32) (g_greatest : Nat → Int32) (g_least : Nat → Int32) (g_greatestNow : Nat → Int32) (g_leastNow : Nat → Int32) (s_order : Nat → Int32) (s_arriving : Nat → Int32) (s_unit : Nat → Int32) (s_flag : Nat → Int32) (s_forbidding : Nat → Int32) (s_most : Nat → Int64) (s_fewest : Nat → Int64) (Q : (Nat → Int32) → (Nat → Int32) → (Nat → Int32) → (Nat → Int32) → (Nat → Int32) → (Nat → Int32) → Prop) (h : wp_X0_begin p_blocks p_lines g_size g_come g_changed g_greatest g_least g_greatestNow g_leastNow Q) : Met l yX0_begin wsX0_begin rm_X0_begin (va_Pc [.ref (a 2), .ref (a 1)] (inW D cI cZ cJ sz (wC a cI cZ cJ x_agesStand x_searchStands p_blocks p_lines p_edges p_pairs g_sets g_size g_penalty g_comeCount s_answered s_codes s_ordered p_times p_touchCounts p_touchSlots p_lineOfSlot p_from p_to p_bounds p_pairA p_pairB p_leaving p_firstLeaving g_come g_outcomes g_greatestTimes g_leastTimes g_changed g_greatest g_least g_greatestNow g_leastNow s_order s_arriving s_unit s_flag s_forbidding s_most s_fewest))) (va_Qv (fun (u : (Nat → Int32) × (Nat → Int32) × (Nat → Int32) × (Nat → Int32) × (Nat → Int32) × (Nat → Int32)) => Q u.1 u.2.1 u.2.2.1 u.2.2.2.1 u.2.2.2.2.1 u.2.2.2.2.2) (fun (u : (Nat → Int32) × (Nat → Int32) × (Nat → Int32) × (Nat → Int32) × (Nat → Int32) × (Nat → Int32)) => outW D cI cZ cJ (va_A (wC a cI cZ cJ x_agesStand x_searchStands p_blocks p_lines p_edges p_pairs g_sets g_size g_penalty g_comeCount s_answered s_codes s_ordered p_times p_touchCounts p_touchSlots p_lineOfSlot p_from p_to p_bounds p_pairA p_pairB p_leaving p_firstLeaving g_come g_outcomes g_greatestTimes g_leastTimes g_changed g_greatest g_least g_greatestNow g_leastNow s_order s_arriving s_unit s_flag s_forbidding s_most s_fewest) sz) (wC a cI cZ cJ x_agesStand x_searchStands p_blocks p_lines p_edges p_pairs g_sets g_size g_penalty g_comeCount s_answered s_codes s_ordered p_times p_touchCounts p_touchSlots p_lineOfSlot p_from p_to p_bounds p_pairA p_pairB p_leaving p_firstLeaving u.1 g_outcomes g_greatestTimes g_leastTimes u.2.1 u.2.2.1 u.2.2.2.1 u.2.2.2.2.1 u.2.2.2.2.2 s_order s_arriving s_unit s_flag s_forbidding s_most s_fewest)) (va_A (wC a cI cZ cJ x_agesStand x_searchStands p_blocks p_lines p_edges p_pairs g_sets g_size g_penalty g_comeCount s_answered s_codes s_ordered p_times p_touchCounts p_touchSlots p_lineOfSlot p_from p_to p_bounds p_pairA p_pairB p_leaving p_firstLeaving g_come g_outcomes g_greatestTimes g_leastTimes g_changed g_greatest g_least g_greatestNow g_leastNow s_order s_arriving s_unit s_flag s_forbidding s_most s_fewest) sz)) 0 0 (va_A (wC a cI cZ cJ x_agesStand x_searchStands p_blocks p_lines p_edges p_pairs g_sets g_size g_penalty g_comeCount s_answered s_codes s_ordered p_times p_touchCounts p_touchSlots p_lineOfSlot p_from p_to p_bounds p_pairA p_pairB p_leaving p_firstLeaving g_come g_outcomes g_greatestTimes g_leastTimes g_changed g_greatest g_least g_greatestNow g_leastNow s_order s_arriving s_unit s_flag s_forbidding s_most s_fewest) sz) := by
  refine Met.ofW (cc := cX0_begin) (maxL := 3) (ret := none) (by decide +kernel) rfl ?_
  intro p e s m args below meth c s₁ B hml hv
  obtain ⟨rfl, hsz, hP, hK, hD0⟩ := hv
  have hx := B.exec
  have hb := B.bytes
  have hr := B.returns
  have hts := atoms_spec (ws := wsX0_begin) B.pre
  have hown : s.vm.findClass RX0 = some m.cls := findClass_of_methodNamed B.named
  have hlocks := B.notSynchronized
  have hinX0 : ∀ w ∈ wsX00, w ∈ wsX0_begin := by decide +kernel
  have hinX1 : ∀ w ∈ wsX10, w ∈ wsX0_begin := by decide +kernel
  subst hsz
  have hD := hD0.self (sz := s.heap.size)
  generalize hAe : va_A (wC a cI cZ cJ x_agesStand x_searchStands p_blocks p_lines p_edges p_pairs g_sets g_size g_penalty g_comeCount s_answered s_codes s_ordered p_times p_touchCounts p_touchSlots p_lineOfSlot p_from p_to p_bounds p_pairA p_pairB p_leaving p_firstLeaving g_come g_outcomes g_greatestTimes g_leastTimes g_changed g_greatest g_least g_greatestNow g_leastNow s_order s_arriving s_unit s_flag s_forbidding s_most s_fewest) s.heap.size = A at hD ⊢
  have hA : ∀ q : Nat, s.heap.size ≤ q → A q := fun q h => by rw [← hAe]; exact Or.inr h
  have hS : va_S A s.heap s.heap [] := va_S.rf
  have hP : va_P D vwCl (wC a cI cZ cJ x_agesStand x_searchStands p_blocks p_lines p_edges p_pairs g_sets g_size g_penalty g_comeCount s_answered s_codes s_ordered p_times p_touchCounts p_touchSlots p_lineOfSlot p_from p_to p_bounds p_pairA p_pairB p_leaving p_firstLeaving g_come g_outcomes g_greatestTimes g_leastTimes g_changed g_greatest g_least g_greatestNow g_leastNow s_order s_arriving s_unit s_flag s_forbidding s_most s_fewest) s.heap := hP
  have hl := lv_entry ([.ref (a 2), .ref (a 1)]) (n := 3) (Nat.le_of_ble_eq_true rfl)
  rw [lg_entry_eq]
  generalize (lg_sl ([.ref (a 2), .ref (a 1)]) ++ List.replicate (3 - (lg_sl ([.ref (a 2), .ref (a 1)])).length) Slot.unset).toArray = ls at hl ⊢
  have hl : lv_has ls 3 [(0, .ref (a 2)), (1, .ref (a 1))] := hl
  refine wz_abs (fun Qz hQz => ?_)
  unfold wp_X0_begin at h
  refine lv_iconst (v := 0) hx hb dX0_begin_0 (by decide) ?_
  refine lv_istore_n (lv' := [(2, .int 0), (0, .ref (a 2)), (1, .ref (a 1))]) hx hb dX0_begin_1 rfl hl (by decide) rfl (fun ls hl => ?_)
  have LP2 : ∀ (n2 : Nat) (v2_2 : Int32) (g_come_2 : Nat → Int32) (g_changed_2 : Nat → Int32), lp_X0_begin_2 p_blocks p_lines g_size g_greatest g_least g_greatestNow g_leastNow Q n2 v2_2 g_come_2 g_changed_2 → ∀ (H : Heap) (locs : List Loc), va_P D vwCl (wC a cI cZ cJ x_agesStand x_searchStands p_blocks p_lines p_edges p_pairs g_sets g_size g_penalty g_comeCount s_answered s_codes s_ordered p_times p_touchCounts p_touchSlots p_lineOfSlot p_from p_to p_bounds p_pairA p_pairB p_leaving p_firstLeaving g_come_2 g_outcomes g_greatestTimes g_leastTimes g_changed_2 g_greatest g_least g_greatestNow g_leastNow s_order s_arriving s_unit s_flag s_forbidding s_most s_fewest) H → va_D A (wC a cI cZ cJ x_agesStand x_searchStands p_blocks p_lines p_edges p_pairs g_sets g_size g_penalty g_comeCount s_answered s_codes s_ordered p_times p_touchCounts p_touchSlots p_lineOfSlot p_from p_to p_bounds p_pairA p_pairB p_leaving p_firstLeaving g_come_2 g_outcomes g_greatestTimes g_leastTimes g_changed_2 g_greatest g_least g_greatestNow g_leastNow s_order s_arriving s_unit s_flag s_forbidding s_most s_fewest) → va_S A s.heap H locs → ∀ (ls : Array Slot), lv_has ls 3 [(0, .ref (a 2)), (1, .ref (a 1)), (2, .int v2_2)] → W p l e (headSpec wsX0_begin rm_X0_begin).room s m ([Value.ref (a 2), Value.ref (a 1)] : List Value).toArray below meth c H locs 0 0 Qz (F0 m 2 ls []) := by
    intro n2
    induction n2 with
    | zero => intro v2_2 g_come_2 g_changed_2 h; exact h.elim
    | succ n2 ih2 =>
      intro v2_2 g_come_2 g_changed_2 h H locs hP hD hS ls hl
      unfold lp_X0_begin_2 at h
      refine lv_iload_n hx hb dX0_begin_2 rfl (lv_at hl 2 rfl) ?_
      refine lv_bipush (v := 40) hx hb dX0_begin_3 (by decide) ?_
      refine lv_icmp_ge (tgt := 28) hx hb dX0_begin_5 (by decide) (fun hc => ?_) (fun hc => ?_)
      · replace h := h.1 hc
        refine lv_aload_n hx hb dX0_begin_28 rfl (lv_at hl 1 rfl) ?_
        refine va_get (D := D) (ci := 1) (v := .int p_blocks) (C := RX1) (T := TX1) (N := 15) hx hb hts hinX1 hown hK hP 1 rfl rfl 0 (by decide) (hts (.fieldLink RX0 62 "WorstPaths$Program" "blocks" "I") (by decide +kernel)) (fun _ h9 => h9) rfl dX0_begin_29 ?_
        refine lv_if_le (tgt := 72) hx hb dX0_begin_32 (by decide) (fun hc => ?_) (fun hc => ?_)
        · replace h := h.1 hc
          refine wz_mono hQz ?_
          exact W.vret hx hb hr (fun t ht hW => ⟨⟨(g_come_2, g_changed_2, g_greatest, g_least, g_greatestNow, g_leastNow), rfl, h, by rw [ht]; exact hP, va_K.moved hW.alike hK, hD⟩, hS.F ht⟩) hS.2.2 dX0_begin_72
        · replace h := h.2 hc
          refine lv_aload_n hx hb dX0_begin_35 rfl (lv_at hl 0 rfl) ?_
          refine va_get (D := D) (ci := 0) (v := .ref (a 22)) (C := RX0) (T := TX0) (N := 13) hx hb hts hinX0 hown hK hP 2 rfl rfl 11 (by decide) (hts (.fieldLink RX0 34 "WorstPaths$Ages" "greatestNow" "[I") (by decide +kernel)) (fun _ h9 => h9) rfl dX0_begin_36 ?_
          refine lv_aload_n hx hb dX0_begin_39 rfl (lv_at hl 0 rfl) ?_
          refine va_get (D := D) (ci := 0) (v := .int g_size) (C := RX0) (T := TX0) (N := 13) hx hb hts hinX0 hown hK hP 2 rfl rfl 1 (by decide) (hts (.fieldLink RX0 44 "WorstPaths$Ages" "size" "I") (by decide +kernel)) (fun _ h9 => h9) rfl dX0_begin_40 ?_
          have hF := wz_free hD hS hA
          refine va_callv (va_runS (As := [.ref (a 22), .int g_size]) (rest := []) ⟨hx, hb, hml, hown, hts⟩ (c_fill l D cI cZ cJ _ (wC a cI cZ cJ x_agesStand x_searchStands p_blocks p_lines p_edges p_pairs g_sets g_size g_penalty g_comeCount s_answered s_codes s_ordered p_times p_touchCounts p_touchSlots p_lineOfSlot p_from p_to p_bounds p_pairA p_pairB p_leaving p_firstLeaving g_come_2 g_outcomes g_greatestTimes g_leastTimes g_changed_2 g_greatest g_least g_greatestNow g_leastNow s_order s_arriving s_unit s_flag s_forbidding s_most s_fewest) 22 (a 22) 40 g_greatestNow g_size (by decide) rfl) (va_cwS 2 hts gX0_begin_J7_fill_53178 rfl rfl rfl (by decide +kernel) ⟨Nat.le_of_ble_eq_true rfl, Nat.le_of_ble_eq_true rfl⟩) ⟨wz_blind, fun U hU hW => wz_at hU hW hP hK hD⟩ rfl rfl hl.1 rfl (lv_room (Nat.le_of_ble_eq_true rfl)) dX0_begin_43 ⟨Nat.zero_le _, Nat.zero_le _⟩) hS (fun q _ hq => hF q hq) hF (fun u t H locs ht hvm hw hB hz1 hk1 hS => ?_)
          obtain ⟨hP, -, hD⟩ := wz_back ht hF hB
          have hP : va_P D vwCl (wC a cI cZ cJ x_agesStand x_searchStands p_blocks p_lines p_edges p_pairs g_sets g_size g_penalty g_comeCount s_answered s_codes s_ordered p_times p_touchCounts p_touchSlots p_lineOfSlot p_from p_to p_bounds p_pairA p_pairB p_leaving p_firstLeaving g_come_2 g_outcomes g_greatestTimes g_leastTimes g_changed_2 g_greatest g_least (filled g_greatestNow 40 g_size) g_leastNow s_order s_arriving s_unit s_flag s_forbidding s_most s_fewest) H := hP
          have hD : va_D A (wC a cI cZ cJ x_agesStand x_searchStands p_blocks p_lines p_edges p_pairs g_sets g_size g_penalty g_comeCount s_answered s_codes s_ordered p_times p_touchCounts p_touchSlots p_lineOfSlot p_from p_to p_bounds p_pairA p_pairB p_leaving p_firstLeaving g_come_2 g_outcomes g_greatestTimes g_leastTimes g_changed_2 g_greatest g_least (filled g_greatestNow 40 g_size) g_leastNow s_order s_arriving s_unit s_flag s_forbidding s_most s_fewest) := hD
          refine lv_aload_n hx hb dX0_begin_46 rfl (lv_at hl 0 rfl) ?_
          refine va_get (D := D) (ci := 0) (v := .ref (a 23)) (C := RX0) (T := TX0) (N := 13) hx hb hts hinX0 hown hK hP 2 rfl rfl 12 (by decide) (hts (.fieldLink RX0 37 "WorstPaths$Ages" "leastNow" "[I") (by decide +kernel)) (fun _ h9 => h9) rfl dX0_begin_47 ?_
          refine lv_aload_n hx hb dX0_begin_50 rfl (lv_at hl 0 rfl) ?_
          refine va_get (D := D) (ci := 0) (v := .int g_size) (C := RX0) (T := TX0) (N := 13) hx hb hts hinX0 hown hK hP 2 rfl rfl 1 (by decide) (hts (.fieldLink RX0 44 "WorstPaths$Ages" "size" "I") (by decide +kernel)) (fun _ h9 => h9) rfl dX0_begin_51 ?_
          have hF := wz_free hD hS hA
          refine va_callv (va_runS (As := [.ref (a 23), .int g_size]) (rest := []) ⟨hx, hb, hml, hown, hts⟩ (c_fill l D cI cZ cJ _ (wC a cI cZ cJ x_agesStand x_searchStands p_blocks p_lines p_edges p_pairs g_sets g_size g_penalty g_comeCount s_answered s_codes s_ordered p_times p_touchCounts p_touchSlots p_lineOfSlot p_from p_to p_bounds p_pairA p_pairB p_leaving p_firstLeaving g_come_2 g_outcomes g_greatestTimes g_leastTimes g_changed_2 g_greatest g_least (filled g_greatestNow 40 g_size) g_leastNow s_order s_arriving s_unit s_flag s_forbidding s_most s_fewest) 23 (a 23) 40 g_leastNow g_size (by decide) rfl) (va_cwS 2 hts gX0_begin_J7_fill_53178 rfl rfl rfl (by decide +kernel) ⟨Nat.le_of_ble_eq_true rfl, Nat.le_of_ble_eq_true rfl⟩) ⟨wz_blind, fun U hU hW => wz_at hU hW hP hK hD⟩ rfl rfl hl.1 rfl (lv_room (Nat.le_of_ble_eq_true rfl)) dX0_begin_54 ⟨Nat.zero_le _, Nat.zero_le _⟩) hS (fun q _ hq => hF q hq) hF (fun u t H locs ht hvm hw hB hz1 hk1 hS => ?_)
          obtain ⟨hP, -, hD⟩ := wz_back ht hF hB
          have hP : va_P D vwCl (wC a cI cZ cJ x_agesStand x_searchStands p_blocks p_lines p_edges p_pairs g_sets g_size g_penalty g_comeCount s_answered s_codes s_ordered p_times p_touchCounts p_touchSlots p_lineOfSlot p_from p_to p_bounds p_pairA p_pairB p_leaving p_firstLeaving g_come_2 g_outcomes g_greatestTimes g_leastTimes g_changed_2 g_greatest g_least (filled g_greatestNow 40 g_size) (filled g_leastNow 40 g_size) s_order s_arriving s_unit s_flag s_forbidding s_most s_fewest) H := hP
          have hD : va_D A (wC a cI cZ cJ x_agesStand x_searchStands p_blocks p_lines p_edges p_pairs g_sets g_size g_penalty g_comeCount s_answered s_codes s_ordered p_times p_touchCounts p_touchSlots p_lineOfSlot p_from p_to p_bounds p_pairA p_pairB p_leaving p_firstLeaving g_come_2 g_outcomes g_greatestTimes g_leastTimes g_changed_2 g_greatest g_least (filled g_greatestNow 40 g_size) (filled g_leastNow 40 g_size) s_order s_arriving s_unit s_flag s_forbidding s_most s_fewest) := hD
          refine lv_aload_n hx hb dX0_begin_57 rfl (lv_at hl 0 rfl) ?_
          refine va_get (D := D) (ci := 0) (v := .ref (a 19)) (C := RX0) (T := TX0) (N := 13) hx hb hts hinX0 hown hK hP 2 rfl rfl 8 (by decide) (hts (.fieldLink RX0 25 "WorstPaths$Ages" "changed" "[Z") (by decide +kernel)) (fun _ h9 => h9) rfl dX0_begin_58 ?_
          refine lv_iconst (v := 0) hx hb dX0_begin_61 (by decide) ?_
          refine lv_aload_n hx hb dX0_begin_62 rfl (lv_at hl 0 rfl) ?_
          refine lv_iconst (v := 0) hx hb dX0_begin_63 (by decide) ?_
          refine lv_aload_n hx hb dX0_begin_64 rfl (lv_at hl 1 rfl) ?_
          refine va_get (D := D) (ci := 1) (v := .int p_lines) (C := RX1) (T := TX1) (N := 15) hx hb hts hinX1 hown hK hP 1 rfl rfl 1 (by decide) (hts (.fieldLink RX0 77 "WorstPaths$Program" "lines" "I") (by decide +kernel)) (fun _ h9 => h9) rfl dX0_begin_65 ?_
          have hF := wz_free hD hS hA
          refine va_calli (va_runV (As := [.int 0, .int p_lines]) (rest := [.int 0, .ref (a 19)]) ⟨hx, hb, hml, hown, hts⟩ (c_X0_joinInto l D a cI cZ cJ _ x_agesStand x_searchStands p_blocks p_lines p_edges p_pairs g_sets g_size g_penalty g_comeCount s_answered s_codes s_ordered p_times p_touchCounts p_touchSlots p_lineOfSlot p_from p_to p_bounds p_pairA p_pairB p_leaving p_firstLeaving g_come_2 g_outcomes g_greatestTimes g_leastTimes g_changed_2 g_greatest g_least (filled g_greatestNow 40 g_size) (filled g_leastNow 40 g_size) s_order s_arriving s_unit s_flag s_forbidding s_most s_fewest 0 p_lines _ h) (cwV 2 hts gX0_begin_X0_joinInto rfl rfl rfl (by decide +kernel) ⟨Nat.le_of_ble_eq_true rfl, Nat.le_of_ble_eq_true rfl⟩) ⟨wz_blind, va_recv hK hP (ci := 0) (q0 := 2) rfl rfl, fun U hU hW => wz_at hU hW hP hK hD⟩ rfl rfl hl.1 rfl (lv_room (Nat.le_of_ble_eq_true rfl)) dX0_begin_68 ⟨Nat.zero_le _, Nat.zero_le _⟩) hS (fun q _ hq => hF q hq) hF (fun r_68 u t H locs ht hvm h hB hz1 hk1 hS => ?_)
          obtain ⟨g_come_68, g_greatest_68, g_least_68⟩ := u
          dsimp only at h hB
          obtain ⟨hP, -, hD⟩ := wz_back ht hF hB
          have hP : va_P D vwCl (wC a cI cZ cJ x_agesStand x_searchStands p_blocks p_lines p_edges p_pairs g_sets g_size g_penalty g_comeCount s_answered s_codes s_ordered p_times p_touchCounts p_touchSlots p_lineOfSlot p_from p_to p_bounds p_pairA p_pairB p_leaving p_firstLeaving g_come_68 g_outcomes g_greatestTimes g_leastTimes g_changed_2 g_greatest_68 g_least_68 (filled g_greatestNow 40 g_size) (filled g_leastNow 40 g_size) s_order s_arriving s_unit s_flag s_forbidding s_most s_fewest) H := hP
          have hD : va_D A (wC a cI cZ cJ x_agesStand x_searchStands p_blocks p_lines p_edges p_pairs g_sets g_size g_penalty g_comeCount s_answered s_codes s_ordered p_times p_touchCounts p_touchSlots p_lineOfSlot p_from p_to p_bounds p_pairA p_pairB p_leaving p_firstLeaving g_come_68 g_outcomes g_greatestTimes g_leastTimes g_changed_2 g_greatest_68 g_least_68 (filled g_greatestNow 40 g_size) (filled g_leastNow 40 g_size) s_order s_arriving s_unit s_flag s_forbidding s_most s_fewest) := hD
          obtain ⟨hq, h⟩ := h
          refine va_zast (D := D) hx hb hK hP hD hS 19 1 rfl rfl hq dX0_begin_71 (fun H locs hP hD hS => ?_)
          have hP : va_P D vwCl (wC a cI cZ cJ x_agesStand x_searchStands p_blocks p_lines p_edges p_pairs g_sets g_size g_penalty g_comeCount s_answered s_codes s_ordered p_times p_touchCounts p_touchSlots p_lineOfSlot p_from p_to p_bounds p_pairA p_pairB p_leaving p_firstLeaving g_come_68 g_outcomes g_greatestTimes g_leastTimes (upd g_changed_2 (Int32.toNatClampNeg 0) (vp_nar .boolean r_68)) g_greatest_68 g_least_68 (filled g_greatestNow 40 g_size) (filled g_leastNow 40 g_size) s_order s_arriving s_unit s_flag s_forbidding s_most s_fewest) H := hP
          have hD : va_D A (wC a cI cZ cJ x_agesStand x_searchStands p_blocks p_lines p_edges p_pairs g_sets g_size g_penalty g_comeCount s_answered s_codes s_ordered p_times p_touchCounts p_touchSlots p_lineOfSlot p_from p_to p_bounds p_pairA p_pairB p_leaving p_firstLeaving g_come_68 g_outcomes g_greatestTimes g_leastTimes (upd g_changed_2 (Int32.toNatClampNeg 0) (vp_nar .boolean r_68)) g_greatest_68 g_least_68 (filled g_greatestNow 40 g_size) (filled g_leastNow 40 g_size) s_order s_arriving s_unit s_flag s_forbidding s_most s_fewest) := hD
          refine wz_mono hQz ?_
          exact W.vret hx hb hr (fun t ht hW => ⟨⟨(g_come_68, (upd g_changed_2 (Int32.toNatClampNeg 0) (vp_nar .boolean r_68)), g_greatest_68, g_least_68, (filled g_greatestNow 40 g_size), (filled g_leastNow 40 g_size)), rfl, h, by rw [ht]; exact hP, va_K.moved hW.alike hK, hD⟩, hS.F ht⟩) hS.2.2 dX0_begin_72
      · replace h := h.2 hc
        refine lv_aload_n hx hb dX0_begin_8 rfl (lv_at hl 0 rfl) ?_
        refine va_get (D := D) (ci := 0) (v := .ref (a 15)) (C := RX0) (T := TX0) (N := 13) hx hb hts hinX0 hown hK hP 2 rfl rfl 3 (by decide) (hts (.fieldLink RX0 9 "WorstPaths$Ages" "come" "[Z") (by decide +kernel)) (fun _ h9 => h9) rfl dX0_begin_9 ?_
        refine lv_iload_n hx hb dX0_begin_12 rfl (lv_at hl 2 rfl) ?_
        refine lv_iconst (v := 0) hx hb dX0_begin_13 (by decide) ?_
        obtain ⟨hq, h⟩ := h
        refine va_zast (D := D) hx hb hK hP hD hS 15 1 rfl rfl hq dX0_begin_14 (fun H locs hP hD hS => ?_)
        have hP : va_P D vwCl (wC a cI cZ cJ x_agesStand x_searchStands p_blocks p_lines p_edges p_pairs g_sets g_size g_penalty g_comeCount s_answered s_codes s_ordered p_times p_touchCounts p_touchSlots p_lineOfSlot p_from p_to p_bounds p_pairA p_pairB p_leaving p_firstLeaving (upd g_come_2 (Int32.toNatClampNeg v2_2) (vp_nar .boolean 0)) g_outcomes g_greatestTimes g_leastTimes g_changed_2 g_greatest g_least g_greatestNow g_leastNow s_order s_arriving s_unit s_flag s_forbidding s_most s_fewest) H := hP
        have hD : va_D A (wC a cI cZ cJ x_agesStand x_searchStands p_blocks p_lines p_edges p_pairs g_sets g_size g_penalty g_comeCount s_answered s_codes s_ordered p_times p_touchCounts p_touchSlots p_lineOfSlot p_from p_to p_bounds p_pairA p_pairB p_leaving p_firstLeaving (upd g_come_2 (Int32.toNatClampNeg v2_2) (vp_nar .boolean 0)) g_outcomes g_greatestTimes g_leastTimes g_changed_2 g_greatest g_least g_greatestNow g_leastNow s_order s_arriving s_unit s_flag s_forbidding s_most s_fewest) := hD
        refine lv_aload_n hx hb dX0_begin_15 rfl (lv_at hl 0 rfl) ?_
        refine va_get (D := D) (ci := 0) (v := .ref (a 19)) (C := RX0) (T := TX0) (N := 13) hx hb hts hinX0 hown hK hP 2 rfl rfl 8 (by decide) (hts (.fieldLink RX0 25 "WorstPaths$Ages" "changed" "[Z") (by decide +kernel)) (fun _ h9 => h9) rfl dX0_begin_16 ?_
        refine lv_iload_n hx hb dX0_begin_19 rfl (lv_at hl 2 rfl) ?_
        refine lv_iconst (v := 0) hx hb dX0_begin_20 (by decide) ?_
        obtain ⟨hq, h⟩ := h
        refine va_zast (D := D) hx hb hK hP hD hS 19 1 rfl rfl hq dX0_begin_21 (fun H locs hP hD hS => ?_)
        have hP : va_P D vwCl (wC a cI cZ cJ x_agesStand x_searchStands p_blocks p_lines p_edges p_pairs g_sets g_size g_penalty g_comeCount s_answered s_codes s_ordered p_times p_touchCounts p_touchSlots p_lineOfSlot p_from p_to p_bounds p_pairA p_pairB p_leaving p_firstLeaving (upd g_come_2 (Int32.toNatClampNeg v2_2) (vp_nar .boolean 0)) g_outcomes g_greatestTimes g_leastTimes (upd g_changed_2 (Int32.toNatClampNeg v2_2) (vp_nar .boolean 0)) g_greatest g_least g_greatestNow g_leastNow s_order s_arriving s_unit s_flag s_forbidding s_most s_fewest) H := hP
        have hD : va_D A (wC a cI cZ cJ x_agesStand x_searchStands p_blocks p_lines p_edges p_pairs g_sets g_size g_penalty g_comeCount s_answered s_codes s_ordered p_times p_touchCounts p_touchSlots p_lineOfSlot p_from p_to p_bounds p_pairA p_pairB p_leaving p_firstLeaving (upd g_come_2 (Int32.toNatClampNeg v2_2) (vp_nar .boolean 0)) g_outcomes g_greatestTimes g_leastTimes (upd g_changed_2 (Int32.toNatClampNeg v2_2) (vp_nar .boolean 0)) g_greatest g_least g_greatestNow g_leastNow s_order s_arriving s_unit s_flag s_forbidding s_most s_fewest) := hD
        refine lv_iinc (v := (v2_2 + 1)) (lv' := [(2, .int (v2_2 + 1)), (0, .ref (a 2)), (1, .ref (a 1))]) hx hb dX0_begin_22 hl (k := 2) rfl rfl (by decide) rfl (fun ls hl => ?_)
        refine lv_goto (tgt := 2) hx hb dX0_begin_25 (by decide) ?_
        exact ih2 (v2_2 + 1) (upd g_come_2 (Int32.toNatClampNeg v2_2) (vp_nar .boolean 0)) (upd g_changed_2 (Int32.toNatClampNeg v2_2) (vp_nar .boolean 0)) h _ _ hP hD hS _ (lv_sub hl [1, 2, 0] rfl)
  obtain ⟨k9, h⟩ := h
  exact LP2 k9 0 g_come g_changed h _ _ hP hD hS _ (lv_sub hl [1, 2, 0] rfl)
def wp_X0_outcomeNow (v1 : Int32) (g_size : Int32) (g_greatestNow : Nat → Int32) (g_leastNow : Nat → Int32) (Q : Int32 → Prop) : Prop := vp_in v1 40 ∧ ((g_size ≤ (g_greatestNow (Int32.toNatClampNeg v1)) → vp_in v1 40 ∧ ((g_size ≤ (g_leastNow (Int32.toNatClampNeg v1)) → Q 2) ∧ (¬ g_size ≤ (g_leastNow (Int32.toNatClampNeg v1)) → Q 0))) ∧ (¬ g_size ≤ (g_greatestNow (Int32.toNatClampNeg v1)) → Q 1))
abbrev rm_X0_outcomeNow : Room := { frames := 0, cells := 0, slots := 0, locals := 0 }
set_option maxHeartbeats 4000000 in
set_option maxRecDepth 100000 in
theorem c_X0_outcomeNow (l : Launch) (D : va_G) (a : Nat → Nat) (cI : ClassId) (cZ : ClassId) (cJ : ClassId) (sz : Nat) (x_agesStand : Int32) (x_searchStands : Int32) (p_blocks : Int32) (p_lines : Int32) (p_edges : Int32) (p_pairs : Int32) (g_sets : Int32) (g_size : Int32) (g_penalty : Int32) (g_comeCount : Int32) (s_answered : Int32) (s_codes : Int32) (s_ordered : Int32) (p_times : Nat → Int32) (p_touchCounts : Nat → Int32) (p_touchSlots : Nat → Int32) (p_lineOfSlot : Nat → Int32) (p_from : Nat → Int32) (p_to : Nat → Int32) (p_bounds : Nat → Int32) (p_pairA : Nat → Int32) (p_pairB : Nat → Int32) (p_leaving : Nat → Int32) (p_firstLeaving : Nat → Int32) (g_come : Nat → Int32) (g_outcomes : Nat → Int32) (g_greatestTimes : Nat → Int32) (g_leastTimes : Nat → Int32) (g_changed : Nat → Int32) (g_greatest : Nat → Int32) (g_least : Nat → Int32) (g_greatestNow : Nat → Int32) (g_leastNow : Nat → Int32) (s_order : Nat → Int32) (s_arriving : Nat → Int32) (s_unit : Nat → Int32) (s_flag : Nat → Int32) (s_forbidding : Nat → Int32) (s_most : Nat → Int64) (s_fewest : Nat → Int64) (v1 : Int32) (Q : Int32 → Prop) (h : wp_X0_outcomeNow v1 g_size g_greatestNow g_leastNow Q) : Met l yX0_outcomeNow wsX0_outcomeNow rm_X0_outcomeNow (va_Pc [.ref (a 2), .int v1] (inW D cI cZ cJ sz (wC a cI cZ cJ x_agesStand x_searchStands p_blocks p_lines p_edges p_pairs g_sets g_size g_penalty g_comeCount s_answered s_codes s_ordered p_times p_touchCounts p_touchSlots p_lineOfSlot p_from p_to p_bounds p_pairA p_pairB p_leaving p_firstLeaving g_come g_outcomes g_greatestTimes g_leastTimes g_changed g_greatest g_least g_greatestNow g_leastNow s_order s_arriving s_unit s_flag s_forbidding s_most s_fewest))) (va_Qi (fun (r : Int32) (u : Unit) => Q r) (fun (u : Unit) => outW D cI cZ cJ (va_A (wC a cI cZ cJ x_agesStand x_searchStands p_blocks p_lines p_edges p_pairs g_sets g_size g_penalty g_comeCount s_answered s_codes s_ordered p_times p_touchCounts p_touchSlots p_lineOfSlot p_from p_to p_bounds p_pairA p_pairB p_leaving p_firstLeaving g_come g_outcomes g_greatestTimes g_leastTimes g_changed g_greatest g_least g_greatestNow g_leastNow s_order s_arriving s_unit s_flag s_forbidding s_most s_fewest) sz) (wC a cI cZ cJ x_agesStand x_searchStands p_blocks p_lines p_edges p_pairs g_sets g_size g_penalty g_comeCount s_answered s_codes s_ordered p_times p_touchCounts p_touchSlots p_lineOfSlot p_from p_to p_bounds p_pairA p_pairB p_leaving p_firstLeaving g_come g_outcomes g_greatestTimes g_leastTimes g_changed g_greatest g_least g_greatestNow g_leastNow s_order s_arriving s_unit s_flag s_forbidding s_most s_fewest)) (va_A (wC a cI cZ cJ x_agesStand x_searchStands p_blocks p_lines p_edges p_pairs g_sets g_size g_penalty g_comeCount s_answered s_codes s_ordered p_times p_touchCounts p_touchSlots p_lineOfSlot p_from p_to p_bounds p_pairA p_pairB p_leaving p_firstLeaving g_come g_outcomes g_greatestTimes g_leastTimes g_changed g_greatest g_least g_greatestNow g_leastNow s_order s_arriving s_unit s_flag s_forbidding s_most s_fewest) sz)) 0 0 (va_A (wC a cI cZ cJ x_agesStand x_searchStands p_blocks p_lines p_edges p_pairs g_sets g_size g_penalty g_comeCount s_answered s_codes s_ordered p_times p_touchCounts p_touchSlots p_lineOfSlot p_from p_to p_bounds p_pairA p_pairB p_leaving p_firstLeaving g_come g_outcomes g_greatestTimes g_leastTimes g_changed g_greatest g_least g_greatestNow g_leastNow s_order s_arriving s_unit s_flag s_forbidding s_most s_fewest) sz) := by
  refine Met.ofW (cc := cX0_outcomeNow) (maxL := 2) (ret := (some .int)) (by decide +kernel) rfl ?_
  intro p e s m args below meth c s₁ B hml hv
  obtain ⟨rfl, hsz, hP, hK, hD0⟩ := hv
  have hx := B.exec
  have hb := B.bytes
  have hr := B.returns
  have hts := atoms_spec (ws := wsX0_outcomeNow) B.pre
  have hown : s.vm.findClass RX0 = some m.cls := findClass_of_methodNamed B.named
  have hlocks := B.notSynchronized
  have hinX0 : ∀ w ∈ wsX00, w ∈ wsX0_outcomeNow := by decide +kernel
  subst hsz
  have hD := hD0.self (sz := s.heap.size)
  generalize hAe : va_A (wC a cI cZ cJ x_agesStand x_searchStands p_blocks p_lines p_edges p_pairs g_sets g_size g_penalty g_comeCount s_answered s_codes s_ordered p_times p_touchCounts p_touchSlots p_lineOfSlot p_from p_to p_bounds p_pairA p_pairB p_leaving p_firstLeaving g_come g_outcomes g_greatestTimes g_leastTimes g_changed g_greatest g_least g_greatestNow g_leastNow s_order s_arriving s_unit s_flag s_forbidding s_most s_fewest) s.heap.size = A at hD ⊢
  have hA : ∀ q : Nat, s.heap.size ≤ q → A q := fun q h => by rw [← hAe]; exact Or.inr h
  have hS : va_S A s.heap s.heap [] := va_S.rf
  have hP : va_P D vwCl (wC a cI cZ cJ x_agesStand x_searchStands p_blocks p_lines p_edges p_pairs g_sets g_size g_penalty g_comeCount s_answered s_codes s_ordered p_times p_touchCounts p_touchSlots p_lineOfSlot p_from p_to p_bounds p_pairA p_pairB p_leaving p_firstLeaving g_come g_outcomes g_greatestTimes g_leastTimes g_changed g_greatest g_least g_greatestNow g_leastNow s_order s_arriving s_unit s_flag s_forbidding s_most s_fewest) s.heap := hP
  have hl := lv_entry ([.ref (a 2), .int v1]) (n := 2) (Nat.le_of_ble_eq_true rfl)
  rw [lg_entry_eq]
  generalize (lg_sl ([.ref (a 2), .int v1]) ++ List.replicate (2 - (lg_sl ([.ref (a 2), .int v1])).length) Slot.unset).toArray = ls at hl ⊢
  have hl : lv_has ls 2 [(0, .ref (a 2)), (1, .int v1)] := hl
  refine wz_abs (fun Qz hQz => ?_)
  unfold wp_X0_outcomeNow at h
  refine lv_aload_n hx hb dX0_outcomeNow_0 rfl (lv_at hl 0 rfl) ?_
  refine va_get (D := D) (ci := 0) (v := .ref (a 22)) (C := RX0) (T := TX0) (N := 13) hx hb hts hinX0 hown hK hP 2 rfl rfl 11 (by decide) (hts (.fieldLink RX0 34 "WorstPaths$Ages" "greatestNow" "[I") (by decide +kernel)) (fun _ h9 => h9) rfl dX0_outcomeNow_1 ?_
  refine lv_iload_n hx hb dX0_outcomeNow_4 rfl (lv_at hl 1 rfl) ?_
  obtain ⟨hq, h⟩ := h
  refine va_iald (D := D) hx hb hK hP 22 0 rfl rfl hq dX0_outcomeNow_5 ?_
  refine lv_aload_n hx hb dX0_outcomeNow_6 rfl (lv_at hl 0 rfl) ?_
  refine va_get (D := D) (ci := 0) (v := .int g_size) (C := RX0) (T := TX0) (N := 13) hx hb hts hinX0 hown hK hP 2 rfl rfl 1 (by decide) (hts (.fieldLink RX0 44 "WorstPaths$Ages" "size" "I") (by decide +kernel)) (fun _ h9 => h9) rfl dX0_outcomeNow_7 ?_
  refine lv_icmp_ge (tgt := 15) hx hb dX0_outcomeNow_10 (by decide) (fun hc => ?_) (fun hc => ?_)
  · replace h := h.1 hc
    refine lv_aload_n hx hb dX0_outcomeNow_15 rfl (lv_at hl 0 rfl) ?_
    refine va_get (D := D) (ci := 0) (v := .ref (a 23)) (C := RX0) (T := TX0) (N := 13) hx hb hts hinX0 hown hK hP 2 rfl rfl 12 (by decide) (hts (.fieldLink RX0 37 "WorstPaths$Ages" "leastNow" "[I") (by decide +kernel)) (fun _ h9 => h9) rfl dX0_outcomeNow_16 ?_
    refine lv_iload_n hx hb dX0_outcomeNow_19 rfl (lv_at hl 1 rfl) ?_
    obtain ⟨hq, h⟩ := h
    refine va_iald (D := D) hx hb hK hP 23 0 rfl rfl hq dX0_outcomeNow_20 ?_
    refine lv_aload_n hx hb dX0_outcomeNow_21 rfl (lv_at hl 0 rfl) ?_
    refine va_get (D := D) (ci := 0) (v := .int g_size) (C := RX0) (T := TX0) (N := 13) hx hb hts hinX0 hown hK hP 2 rfl rfl 1 (by decide) (hts (.fieldLink RX0 44 "WorstPaths$Ages" "size" "I") (by decide +kernel)) (fun _ h9 => h9) rfl dX0_outcomeNow_22 ?_
    refine lv_icmp_ge (tgt := 32) hx hb dX0_outcomeNow_25 (by decide) (fun hc => ?_) (fun hc => ?_)
    · replace h := h.1 hc
      refine lv_iconst (v := 2) hx hb dX0_outcomeNow_32 (by decide) ?_
      refine wz_mono hQz ?_
      exact W.iret (v := 2) hx hb hr (fun t ht hW => ⟨⟨2, (), rfl, h, by rw [ht]; exact hP, va_K.moved hW.alike hK, hD⟩, hS.F ht⟩) hS.2.2 dX0_outcomeNow_33
    · replace h := h.2 hc
      refine lv_iconst (v := 0) hx hb dX0_outcomeNow_28 (by decide) ?_
      refine lv_goto (tgt := 33) hx hb dX0_outcomeNow_29 (by decide) ?_
      refine wz_mono hQz ?_
      exact W.iret (v := 0) hx hb hr (fun t ht hW => ⟨⟨0, (), rfl, h, by rw [ht]; exact hP, va_K.moved hW.alike hK, hD⟩, hS.F ht⟩) hS.2.2 dX0_outcomeNow_33
  · replace h := h.2 hc
    refine lv_iconst (v := 1) hx hb dX0_outcomeNow_13 (by decide) ?_
    refine wz_mono hQz ?_
    exact W.iret (v := 1) hx hb hr (fun t ht hW => ⟨⟨1, (), rfl, h, by rw [ht]; exact hP, va_K.moved hW.alike hK, hD⟩, hS.F ht⟩) hS.2.2 dX0_outcomeNow_14
def wp_X0_sameSet (v1 : Int32) (v2 : Int32) (g_sets : Int32) (Q : Int32 → Prop) : Prop := (¬ ((v1 ^^^ v2) &&& (g_sets - 1)) = 0 → Q 0) ∧ (((v1 ^^^ v2) &&& (g_sets - 1)) = 0 → Q 1)
abbrev rm_X0_sameSet : Room := { frames := 0, cells := 0, slots := 0, locals := 0 }
set_option maxHeartbeats 4000000 in
set_option maxRecDepth 100000 in
theorem c_X0_sameSet (l : Launch) (D : va_G) (a : Nat → Nat) (cI : ClassId) (cZ : ClassId) (cJ : ClassId) (sz : Nat) (x_agesStand : Int32) (x_searchStands : Int32) (p_blocks : Int32) (p_lines : Int32) (p_edges : Int32) (p_pairs : Int32) (g_sets : Int32) (g_size : Int32) (g_penalty : Int32) (g_comeCount : Int32) (s_answered : Int32) (s_codes : Int32) (s_ordered : Int32) (p_times : Nat → Int32) (p_touchCounts : Nat → Int32) (p_touchSlots : Nat → Int32) (p_lineOfSlot : Nat → Int32) (p_from : Nat → Int32) (p_to : Nat → Int32) (p_bounds : Nat → Int32) (p_pairA : Nat → Int32) (p_pairB : Nat → Int32) (p_leaving : Nat → Int32) (p_firstLeaving : Nat → Int32) (g_come : Nat → Int32) (g_outcomes : Nat → Int32) (g_greatestTimes : Nat → Int32) (g_leastTimes : Nat → Int32) (g_changed : Nat → Int32) (g_greatest : Nat → Int32) (g_least : Nat → Int32) (g_greatestNow : Nat → Int32) (g_leastNow : Nat → Int32) (s_order : Nat → Int32) (s_arriving : Nat → Int32) (s_unit : Nat → Int32) (s_flag : Nat → Int32) (s_forbidding : Nat → Int32) (s_most : Nat → Int64) (s_fewest : Nat → Int64) (v1 : Int32) (v2 : Int32) (Q : Int32 → Prop) (h : wp_X0_sameSet v1 v2 g_sets Q) : Met l yX0_sameSet wsX0_sameSet rm_X0_sameSet (va_Pc [.ref (a 2), .int v1, .int v2] (inW D cI cZ cJ sz (wC a cI cZ cJ x_agesStand x_searchStands p_blocks p_lines p_edges p_pairs g_sets g_size g_penalty g_comeCount s_answered s_codes s_ordered p_times p_touchCounts p_touchSlots p_lineOfSlot p_from p_to p_bounds p_pairA p_pairB p_leaving p_firstLeaving g_come g_outcomes g_greatestTimes g_leastTimes g_changed g_greatest g_least g_greatestNow g_leastNow s_order s_arriving s_unit s_flag s_forbidding s_most s_fewest))) (va_Qi (fun (r : Int32) (u : Unit) => Q r) (fun (u : Unit) => outW D cI cZ cJ (va_A (wC a cI cZ cJ x_agesStand x_searchStands p_blocks p_lines p_edges p_pairs g_sets g_size g_penalty g_comeCount s_answered s_codes s_ordered p_times p_touchCounts p_touchSlots p_lineOfSlot p_from p_to p_bounds p_pairA p_pairB p_leaving p_firstLeaving g_come g_outcomes g_greatestTimes g_leastTimes g_changed g_greatest g_least g_greatestNow g_leastNow s_order s_arriving s_unit s_flag s_forbidding s_most s_fewest) sz) (wC a cI cZ cJ x_agesStand x_searchStands p_blocks p_lines p_edges p_pairs g_sets g_size g_penalty g_comeCount s_answered s_codes s_ordered p_times p_touchCounts p_touchSlots p_lineOfSlot p_from p_to p_bounds p_pairA p_pairB p_leaving p_firstLeaving g_come g_outcomes g_greatestTimes g_leastTimes g_changed g_greatest g_least g_greatestNow g_leastNow s_order s_arriving s_unit s_flag s_forbidding s_most s_fewest)) (va_A (wC a cI cZ cJ x_agesStand x_searchStands p_blocks p_lines p_edges p_pairs g_sets g_size g_penalty g_comeCount s_answered s_codes s_ordered p_times p_touchCounts p_touchSlots p_lineOfSlot p_from p_to p_bounds p_pairA p_pairB p_leaving p_firstLeaving g_come g_outcomes g_greatestTimes g_leastTimes g_changed g_greatest g_least g_greatestNow g_leastNow s_order s_arriving s_unit s_flag s_forbidding s_most s_fewest) sz)) 0 0 (va_A (wC a cI cZ cJ x_agesStand x_searchStands p_blocks p_lines p_edges p_pairs g_sets g_size g_penalty g_comeCount s_answered s_codes s_ordered p_times p_touchCounts p_touchSlots p_lineOfSlot p_from p_to p_bounds p_pairA p_pairB p_leaving p_firstLeaving g_come g_outcomes g_greatestTimes g_leastTimes g_changed g_greatest g_least g_greatestNow g_leastNow s_order s_arriving s_unit s_flag s_forbidding s_most s_fewest) sz) := by
  refine Met.ofW (cc := cX0_sameSet) (maxL := 3) (ret := (some .boolean)) (by decide +kernel) rfl ?_
  intro p e s m args below meth c s₁ B hml hv
  obtain ⟨rfl, hsz, hP, hK, hD0⟩ := hv
  have hx := B.exec
  have hb := B.bytes
  have hr := B.returns
  have hts := atoms_spec (ws := wsX0_sameSet) B.pre
  have hown : s.vm.findClass RX0 = some m.cls := findClass_of_methodNamed B.named
  have hlocks := B.notSynchronized
  have hinX0 : ∀ w ∈ wsX00, w ∈ wsX0_sameSet := by decide +kernel
  subst hsz
  have hD := hD0.self (sz := s.heap.size)
  generalize hAe : va_A (wC a cI cZ cJ x_agesStand x_searchStands p_blocks p_lines p_edges p_pairs g_sets g_size g_penalty g_comeCount s_answered s_codes s_ordered p_times p_touchCounts p_touchSlots p_lineOfSlot p_from p_to p_bounds p_pairA p_pairB p_leaving p_firstLeaving g_come g_outcomes g_greatestTimes g_leastTimes g_changed g_greatest g_least g_greatestNow g_leastNow s_order s_arriving s_unit s_flag s_forbidding s_most s_fewest) s.heap.size = A at hD ⊢
  have hA : ∀ q : Nat, s.heap.size ≤ q → A q := fun q h => by rw [← hAe]; exact Or.inr h
  have hS : va_S A s.heap s.heap [] := va_S.rf
  have hP : va_P D vwCl (wC a cI cZ cJ x_agesStand x_searchStands p_blocks p_lines p_edges p_pairs g_sets g_size g_penalty g_comeCount s_answered s_codes s_ordered p_times p_touchCounts p_touchSlots p_lineOfSlot p_from p_to p_bounds p_pairA p_pairB p_leaving p_firstLeaving g_come g_outcomes g_greatestTimes g_leastTimes g_changed g_greatest g_least g_greatestNow g_leastNow s_order s_arriving s_unit s_flag s_forbidding s_most s_fewest) s.heap := hP
  have hl := lv_entry ([.ref (a 2), .int v1, .int v2]) (n := 3) (Nat.le_of_ble_eq_true rfl)
  rw [lg_entry_eq]
  generalize (lg_sl ([.ref (a 2), .int v1, .int v2]) ++ List.replicate (3 - (lg_sl ([.ref (a 2), .int v1, .int v2])).length) Slot.unset).toArray = ls at hl ⊢
  have hl : lv_has ls 3 [(0, .ref (a 2)), (1, .int v1), (2, .int v2)] := hl
  refine wz_abs (fun Qz hQz => ?_)
  unfold wp_X0_sameSet at h
  refine lv_iload_n hx hb dX0_sameSet_0 rfl (lv_at hl 1 rfl) ?_
  refine lv_iload_n hx hb dX0_sameSet_1 rfl (lv_at hl 2 rfl) ?_
  refine lv_ixor hx hb dX0_sameSet_2 ?_
  refine lv_aload_n hx hb dX0_sameSet_3 rfl (lv_at hl 0 rfl) ?_
  refine va_get (D := D) (ci := 0) (v := .int g_sets) (C := RX0) (T := TX0) (N := 13) hx hb hts hinX0 hown hK hP 2 rfl rfl 0 (by decide) (hts (.fieldLink RX0 40 "WorstPaths$Ages" "sets" "I") (by decide +kernel)) (fun _ h9 => h9) rfl dX0_sameSet_4 ?_
  refine lv_iconst (v := 1) hx hb dX0_sameSet_7 (by decide) ?_
  refine lv_isub hx hb dX0_sameSet_8 ?_
  refine lv_iand hx hb dX0_sameSet_9 ?_
  refine lv_if_ne (tgt := 17) hx hb dX0_sameSet_10 (by decide) (fun hc => ?_) (fun hc => ?_)
  · replace h := h.1 hc
    refine lv_iconst (v := 0) hx hb dX0_sameSet_17 (by decide) ?_
    refine wz_mono hQz ?_
    exact W.zret (v := 0) hx hb hr rfl (fun t ht hW => ⟨⟨0, (), rfl, h, by rw [ht]; exact hP, va_K.moved hW.alike hK, hD⟩, hS.F ht⟩) hS.2.2 dX0_sameSet_18
  · replace h := h.2 hc
    refine lv_iconst (v := 1) hx hb dX0_sameSet_13 (by decide) ?_
    refine lv_goto (tgt := 18) hx hb dX0_sameSet_14 (by decide) ?_
    refine wz_mono hQz ?_
    exact W.zret (v := 1) hx hb hr rfl (fun t ht hW => ⟨⟨1, (), rfl, h, by rw [ht]; exact hP, va_K.moved hW.alike hK, hD⟩, hS.F ht⟩) hS.2.2 dX0_sameSet_18
def jn_X0_use_75 (v2 : Int32) (v3 : Int32) (v4 : Int32) (v5 : Int32) (p_lines : Int32) (g_sets : Int32) (g_size : Int32) (p_lineOfSlot : Nat → Int32) (g_greatestNow : Nat → Int32) (g_leastNow : Nat → Int32) (K18 : Int32 → (Nat → Int32) → (Nat → Int32) → Prop) (Q : (Nat → Int32) → (Nat → Int32) → Prop) : Prop := vp_in v5 40 ∧ ((v4 < (g_leastNow (Int32.toNatClampNeg v5)) → K18 (v5 + 1) g_greatestNow g_leastNow) ∧ (¬ v4 < (g_leastNow (Int32.toNatClampNeg v5)) → vp_in v5 40 ∧ ((g_size ≤ (g_leastNow (Int32.toNatClampNeg v5)) → K18 (v5 + 1) g_greatestNow g_leastNow) ∧ (¬ g_size ≤ (g_leastNow (Int32.toNatClampNeg v5)) → vp_in v5 40 ∧ (vp_in v5 40 ∧ (K18 (v5 + 1) g_greatestNow (upd g_leastNow (Int32.toNatClampNeg v5) ((g_leastNow (Int32.toNatClampNeg v5)) + 1))))))))
def lp_X0_use_18 (v2 : Int32) (v3 : Int32) (v4 : Int32) (p_lines : Int32) (g_sets : Int32) (g_size : Int32) (p_lineOfSlot : Nat → Int32) (Q : (Nat → Int32) → (Nat → Int32) → Prop) : Nat → Int32 → (Nat → Int32) → (Nat → Int32) → Prop
  | 0, _, _, _ => False
  | n + 1, v5, g_greatestNow, g_leastNow => (p_lines ≤ v5 → vp_in v2 40 ∧ (vp_in v2 40 ∧ (Q (upd g_greatestNow (Int32.toNatClampNeg v2) 0) (upd g_leastNow (Int32.toNatClampNeg v2) 0)))) ∧ (¬ p_lines ≤ v5 → (v5 = v2 → (lp_X0_use_18 v2 v3 v4 p_lines g_sets g_size p_lineOfSlot Q n) (v5 + 1) g_greatestNow g_leastNow) ∧ (¬ v5 = v2 → vp_in v5 40 ∧ (vp_in v2 40 ∧ (wp_X0_sameSet (p_lineOfSlot (Int32.toNatClampNeg v5)) (p_lineOfSlot (Int32.toNatClampNeg v2)) g_sets (fun r_47 => (r_47 = 0 → (lp_X0_use_18 v2 v3 v4 p_lines g_sets g_size p_lineOfSlot Q n) (v5 + 1) g_greatestNow g_leastNow) ∧ (¬ r_47 = 0 → vp_in v5 40 ∧ ((v3 ≤ (g_greatestNow (Int32.toNatClampNeg v5)) → jn_X0_use_75 v2 v3 v4 v5 p_lines g_sets g_size p_lineOfSlot g_greatestNow g_leastNow (lp_X0_use_18 v2 v3 v4 p_lines g_sets g_size p_lineOfSlot Q n) Q) ∧ (¬ v3 ≤ (g_greatestNow (Int32.toNatClampNeg v5)) → vp_in v5 40 ∧ (vp_in v5 40 ∧ (jn_X0_use_75 v2 v3 v4 v5 p_lines g_sets g_size p_lineOfSlot (upd g_greatestNow (Int32.toNatClampNeg v5) ((g_greatestNow (Int32.toNatClampNeg v5)) + 1)) g_leastNow (lp_X0_use_18 v2 v3 v4 p_lines g_sets g_size p_lineOfSlot Q n) Q))))))))))
def wp_X0_use (v2 : Int32) (p_lines : Int32) (g_sets : Int32) (g_size : Int32) (p_lineOfSlot : Nat → Int32) (g_greatestNow : Nat → Int32) (g_leastNow : Nat → Int32) (Q : (Nat → Int32) → (Nat → Int32) → Prop) : Prop := vp_in v2 40 ∧ (vp_in v2 40 ∧ (∃ k18, lp_X0_use_18 v2 (g_greatestNow (Int32.toNatClampNeg v2)) (g_leastNow (Int32.toNatClampNeg v2)) p_lines g_sets g_size p_lineOfSlot Q k18 0 g_greatestNow g_leastNow))
abbrev rm_X0_use : Room := { frames := 1, cells := 0, slots := 0, locals := 22 }
set_option maxHeartbeats 4000000 in
set_option maxRecDepth 100000 in
theorem c_X0_use (l : Launch) (D : va_G) (a : Nat → Nat) (cI : ClassId) (cZ : ClassId) (cJ : ClassId) (sz : Nat) (x_agesStand : Int32) (x_searchStands : Int32) (p_blocks : Int32) (p_lines : Int32) (p_edges : Int32) (p_pairs : Int32) (g_sets : Int32) (g_size : Int32) (g_penalty : Int32) (g_comeCount : Int32) (s_answered : Int32) (s_codes : Int32) (s_ordered : Int32) (p_times : Nat → Int32) (p_touchCounts : Nat → Int32) (p_touchSlots : Nat → Int32) (p_lineOfSlot : Nat → Int32) (p_from : Nat → Int32) (p_to : Nat → Int32) (p_bounds : Nat → Int32) (p_pairA : Nat → Int32) (p_pairB : Nat → Int32) (p_leaving : Nat → Int32) (p_firstLeaving : Nat → Int32) (g_come : Nat → Int32) (g_outcomes : Nat → Int32) (g_greatestTimes : Nat → Int32) (g_leastTimes : Nat → Int32) (g_changed : Nat → Int32) (g_greatest : Nat → Int32) (g_least : Nat → Int32) (g_greatestNow : Nat → Int32) (g_leastNow : Nat → Int32) (s_order : Nat → Int32) (s_arriving : Nat → Int32) (s_unit : Nat → Int32) (s_flag : Nat → Int32) (s_forbidding : Nat → Int32) (s_most : Nat → Int64) (s_fewest : Nat → Int64) (v2 : Int32) (Q : (Nat → Int32) → (Nat → Int32) → Prop) (h : wp_X0_use v2 p_lines g_sets g_size p_lineOfSlot g_greatestNow g_leastNow Q) : Met l yX0_use wsX0_use rm_X0_use (va_Pc [.ref (a 2), .ref (a 1), .int v2] (inW D cI cZ cJ sz (wC a cI cZ cJ x_agesStand x_searchStands p_blocks p_lines p_edges p_pairs g_sets g_size g_penalty g_comeCount s_answered s_codes s_ordered p_times p_touchCounts p_touchSlots p_lineOfSlot p_from p_to p_bounds p_pairA p_pairB p_leaving p_firstLeaving g_come g_outcomes g_greatestTimes g_leastTimes g_changed g_greatest g_least g_greatestNow g_leastNow s_order s_arriving s_unit s_flag s_forbidding s_most s_fewest))) (va_Qv (fun (u : (Nat → Int32) × (Nat → Int32)) => Q u.1 u.2) (fun (u : (Nat → Int32) × (Nat → Int32)) => outW D cI cZ cJ (va_A (wC a cI cZ cJ x_agesStand x_searchStands p_blocks p_lines p_edges p_pairs g_sets g_size g_penalty g_comeCount s_answered s_codes s_ordered p_times p_touchCounts p_touchSlots p_lineOfSlot p_from p_to p_bounds p_pairA p_pairB p_leaving p_firstLeaving g_come g_outcomes g_greatestTimes g_leastTimes g_changed g_greatest g_least g_greatestNow g_leastNow s_order s_arriving s_unit s_flag s_forbidding s_most s_fewest) sz) (wC a cI cZ cJ x_agesStand x_searchStands p_blocks p_lines p_edges p_pairs g_sets g_size g_penalty g_comeCount s_answered s_codes s_ordered p_times p_touchCounts p_touchSlots p_lineOfSlot p_from p_to p_bounds p_pairA p_pairB p_leaving p_firstLeaving g_come g_outcomes g_greatestTimes g_leastTimes g_changed g_greatest g_least u.1 u.2 s_order s_arriving s_unit s_flag s_forbidding s_most s_fewest)) (va_A (wC a cI cZ cJ x_agesStand x_searchStands p_blocks p_lines p_edges p_pairs g_sets g_size g_penalty g_comeCount s_answered s_codes s_ordered p_times p_touchCounts p_touchSlots p_lineOfSlot p_from p_to p_bounds p_pairA p_pairB p_leaving p_firstLeaving g_come g_outcomes g_greatestTimes g_leastTimes g_changed g_greatest g_least g_greatestNow g_leastNow s_order s_arriving s_unit s_flag s_forbidding s_most s_fewest) sz)) 0 0 (va_A (wC a cI cZ cJ x_agesStand x_searchStands p_blocks p_lines p_edges p_pairs g_sets g_size g_penalty g_comeCount s_answered s_codes s_ordered p_times p_touchCounts p_touchSlots p_lineOfSlot p_from p_to p_bounds p_pairA p_pairB p_leaving p_firstLeaving g_come g_outcomes g_greatestTimes g_leastTimes g_changed g_greatest g_least g_greatestNow g_leastNow s_order s_arriving s_unit s_flag s_forbidding s_most s_fewest) sz) := by
  refine Met.ofW (cc := cX0_use) (maxL := 6) (ret := none) (by decide +kernel) rfl ?_
  intro p e s m args below meth c s₁ B hml hv
  obtain ⟨rfl, hsz, hP, hK, hD0⟩ := hv
  have hx := B.exec
  have hb := B.bytes
  have hr := B.returns
  have hts := atoms_spec (ws := wsX0_use) B.pre
  have hown : s.vm.findClass RX0 = some m.cls := findClass_of_methodNamed B.named
  have hlocks := B.notSynchronized
  have hinX0 : ∀ w ∈ wsX00, w ∈ wsX0_use := by decide +kernel
  have hinX1 : ∀ w ∈ wsX10, w ∈ wsX0_use := by decide +kernel
  subst hsz
  have hD := hD0.self (sz := s.heap.size)
  generalize hAe : va_A (wC a cI cZ cJ x_agesStand x_searchStands p_blocks p_lines p_edges p_pairs g_sets g_size g_penalty g_comeCount s_answered s_codes s_ordered p_times p_touchCounts p_touchSlots p_lineOfSlot p_from p_to p_bounds p_pairA p_pairB p_leaving p_firstLeaving g_come g_outcomes g_greatestTimes g_leastTimes g_changed g_greatest g_least g_greatestNow g_leastNow s_order s_arriving s_unit s_flag s_forbidding s_most s_fewest) s.heap.size = A at hD ⊢
  have hA : ∀ q : Nat, s.heap.size ≤ q → A q := fun q h => by rw [← hAe]; exact Or.inr h
  have hS : va_S A s.heap s.heap [] := va_S.rf
  have hP : va_P D vwCl (wC a cI cZ cJ x_agesStand x_searchStands p_blocks p_lines p_edges p_pairs g_sets g_size g_penalty g_comeCount s_answered s_codes s_ordered p_times p_touchCounts p_touchSlots p_lineOfSlot p_from p_to p_bounds p_pairA p_pairB p_leaving p_firstLeaving g_come g_outcomes g_greatestTimes g_leastTimes g_changed g_greatest g_least g_greatestNow g_leastNow s_order s_arriving s_unit s_flag s_forbidding s_most s_fewest) s.heap := hP
  have hl := lv_entry ([.ref (a 2), .ref (a 1), .int v2]) (n := 6) (Nat.le_of_ble_eq_true rfl)
  rw [lg_entry_eq]
  generalize (lg_sl ([.ref (a 2), .ref (a 1), .int v2]) ++ List.replicate (6 - (lg_sl ([.ref (a 2), .ref (a 1), .int v2])).length) Slot.unset).toArray = ls at hl ⊢
  have hl : lv_has ls 6 [(0, .ref (a 2)), (1, .ref (a 1)), (2, .int v2)] := hl
  refine wz_abs (fun Qz hQz => ?_)
  unfold wp_X0_use at h
  refine lv_aload_n hx hb dX0_use_0 rfl (lv_at hl 0 rfl) ?_
  refine va_get (D := D) (ci := 0) (v := .ref (a 22)) (C := RX0) (T := TX0) (N := 13) hx hb hts hinX0 hown hK hP 2 rfl rfl 11 (by decide) (hts (.fieldLink RX0 34 "WorstPaths$Ages" "greatestNow" "[I") (by decide +kernel)) (fun _ h9 => h9) rfl dX0_use_1 ?_
  refine lv_iload_n hx hb dX0_use_4 rfl (lv_at hl 2 rfl) ?_
  obtain ⟨hq, h⟩ := h
  refine va_iald (D := D) hx hb hK hP 22 0 rfl rfl hq dX0_use_5 ?_
  refine lv_istore_n (lv' := [(3, .int (g_greatestNow (Int32.toNatClampNeg v2))), (0, .ref (a 2)), (1, .ref (a 1)), (2, .int v2)]) hx hb dX0_use_6 rfl hl (by decide) rfl (fun ls hl => ?_)
  refine lv_aload_n hx hb dX0_use_7 rfl (lv_at hl 1 rfl) ?_
  refine va_get (D := D) (ci := 0) (v := .ref (a 23)) (C := RX0) (T := TX0) (N := 13) hx hb hts hinX0 hown hK hP 2 rfl rfl 12 (by decide) (hts (.fieldLink RX0 37 "WorstPaths$Ages" "leastNow" "[I") (by decide +kernel)) (fun _ h9 => h9) rfl dX0_use_8 ?_
  refine lv_iload_n hx hb dX0_use_11 rfl (lv_at hl 3 rfl) ?_
  obtain ⟨hq, h⟩ := h
  refine va_iald (D := D) hx hb hK hP 23 0 rfl rfl hq dX0_use_12 ?_
  refine lv_istore (lv' := [(4, .int (g_leastNow (Int32.toNatClampNeg v2))), (3, .int (g_greatestNow (Int32.toNatClampNeg v2))), (0, .ref (a 2)), (1, .ref (a 1)), (2, .int v2)]) hx hb dX0_use_13 hl (by decide) rfl (fun ls hl => ?_)
  refine lv_iconst (v := 0) hx hb dX0_use_15 (by decide) ?_
  refine lv_istore (lv' := [(5, .int 0), (4, .int (g_leastNow (Int32.toNatClampNeg v2))), (3, .int (g_greatestNow (Int32.toNatClampNeg v2))), (0, .ref (a 2)), (1, .ref (a 1)), (2, .int v2)]) hx hb dX0_use_16 hl (by decide) rfl (fun ls hl => ?_)
  have LP18 : ∀ (n18 : Nat) (v5_18 : Int32) (g_greatestNow_18 : Nat → Int32) (g_leastNow_18 : Nat → Int32), lp_X0_use_18 v2 (g_greatestNow (Int32.toNatClampNeg v2)) (g_leastNow (Int32.toNatClampNeg v2)) p_lines g_sets g_size p_lineOfSlot Q n18 v5_18 g_greatestNow_18 g_leastNow_18 → ∀ (H : Heap) (locs : List Loc), va_P D vwCl (wC a cI cZ cJ x_agesStand x_searchStands p_blocks p_lines p_edges p_pairs g_sets g_size g_penalty g_comeCount s_answered s_codes s_ordered p_times p_touchCounts p_touchSlots p_lineOfSlot p_from p_to p_bounds p_pairA p_pairB p_leaving p_firstLeaving g_come g_outcomes g_greatestTimes g_leastTimes g_changed g_greatest g_least g_greatestNow_18 g_leastNow_18 s_order s_arriving s_unit s_flag s_forbidding s_most s_fewest) H → va_D A (wC a cI cZ cJ x_agesStand x_searchStands p_blocks p_lines p_edges p_pairs g_sets g_size g_penalty g_comeCount s_answered s_codes s_ordered p_times p_touchCounts p_touchSlots p_lineOfSlot p_from p_to p_bounds p_pairA p_pairB p_leaving p_firstLeaving g_come g_outcomes g_greatestTimes g_leastTimes g_changed g_greatest g_least g_greatestNow_18 g_leastNow_18 s_order s_arriving s_unit s_flag s_forbidding s_most s_fewest) → va_S A s.heap H locs → ∀ (ls : Array Slot), lv_has ls 6 [(0, .ref (a 2)), (1, .ref (a 1)), (2, .int v2), (3, .int (g_greatestNow (Int32.toNatClampNeg v2))), (4, .int (g_leastNow (Int32.toNatClampNeg v2))), (5, .int v5_18)] → W p l e (headSpec wsX0_use rm_X0_use).room s m ([Value.ref (a 2), Value.ref (a 1), Value.int v2] : List Value).toArray below meth c H locs 0 0 Qz (F0 m 18 ls []) := by
    intro n18
    induction n18 with
    | zero => intro v5_18 g_greatestNow_18 g_leastNow_18 h; exact h.elim
    | succ n18 ih18 =>
      intro v5_18 g_greatestNow_18 g_leastNow_18 h H locs hP hD hS ls hl
      unfold lp_X0_use_18 at h
      refine lv_iload hx hb dX0_use_18 (lv_at hl 5 rfl) ?_
      refine lv_aload_n hx hb dX0_use_20 rfl (lv_at hl 1 rfl) ?_
      refine va_get (D := D) (ci := 1) (v := .int p_lines) (C := RX1) (T := TX1) (N := 15) hx hb hts hinX1 hown hK hP 1 rfl rfl 1 (by decide) (hts (.fieldLink RX0 77 "WorstPaths$Program" "lines" "I") (by decide +kernel)) (fun _ h9 => h9) rfl dX0_use_21 ?_
      refine lv_icmp_ge (tgt := 118) hx hb dX0_use_24 (by decide) (fun hc => ?_) (fun hc => ?_)
      · replace h := h.1 hc
        refine lv_aload_n hx hb dX0_use_118 rfl (lv_at hl 0 rfl) ?_
        refine va_get (D := D) (ci := 0) (v := .ref (a 22)) (C := RX0) (T := TX0) (N := 13) hx hb hts hinX0 hown hK hP 2 rfl rfl 11 (by decide) (hts (.fieldLink RX0 34 "WorstPaths$Ages" "greatestNow" "[I") (by decide +kernel)) (fun _ h9 => h9) rfl dX0_use_119 ?_
        refine lv_iload_n hx hb dX0_use_122 rfl (lv_at hl 2 rfl) ?_
        refine lv_iconst (v := 0) hx hb dX0_use_123 (by decide) ?_
        obtain ⟨hq, h⟩ := h
        refine va_iast (D := D) hx hb hK hP hD hS 22 0 rfl rfl hq dX0_use_124 (fun H locs hP hD hS => ?_)
        have hP : va_P D vwCl (wC a cI cZ cJ x_agesStand x_searchStands p_blocks p_lines p_edges p_pairs g_sets g_size g_penalty g_comeCount s_answered s_codes s_ordered p_times p_touchCounts p_touchSlots p_lineOfSlot p_from p_to p_bounds p_pairA p_pairB p_leaving p_firstLeaving g_come g_outcomes g_greatestTimes g_leastTimes g_changed g_greatest g_least (upd g_greatestNow_18 (Int32.toNatClampNeg v2) 0) g_leastNow_18 s_order s_arriving s_unit s_flag s_forbidding s_most s_fewest) H := hP
        have hD : va_D A (wC a cI cZ cJ x_agesStand x_searchStands p_blocks p_lines p_edges p_pairs g_sets g_size g_penalty g_comeCount s_answered s_codes s_ordered p_times p_touchCounts p_touchSlots p_lineOfSlot p_from p_to p_bounds p_pairA p_pairB p_leaving p_firstLeaving g_come g_outcomes g_greatestTimes g_leastTimes g_changed g_greatest g_least (upd g_greatestNow_18 (Int32.toNatClampNeg v2) 0) g_leastNow_18 s_order s_arriving s_unit s_flag s_forbidding s_most s_fewest) := hD
        refine lv_aload_n hx hb dX0_use_125 rfl (lv_at hl 0 rfl) ?_
        refine va_get (D := D) (ci := 0) (v := .ref (a 23)) (C := RX0) (T := TX0) (N := 13) hx hb hts hinX0 hown hK hP 2 rfl rfl 12 (by decide) (hts (.fieldLink RX0 37 "WorstPaths$Ages" "leastNow" "[I") (by decide +kernel)) (fun _ h9 => h9) rfl dX0_use_126 ?_
        refine lv_iload_n hx hb dX0_use_129 rfl (lv_at hl 2 rfl) ?_
        refine lv_iconst (v := 0) hx hb dX0_use_130 (by decide) ?_
        obtain ⟨hq, h⟩ := h
        refine va_iast (D := D) hx hb hK hP hD hS 23 0 rfl rfl hq dX0_use_131 (fun H locs hP hD hS => ?_)
        have hP : va_P D vwCl (wC a cI cZ cJ x_agesStand x_searchStands p_blocks p_lines p_edges p_pairs g_sets g_size g_penalty g_comeCount s_answered s_codes s_ordered p_times p_touchCounts p_touchSlots p_lineOfSlot p_from p_to p_bounds p_pairA p_pairB p_leaving p_firstLeaving g_come g_outcomes g_greatestTimes g_leastTimes g_changed g_greatest g_least (upd g_greatestNow_18 (Int32.toNatClampNeg v2) 0) (upd g_leastNow_18 (Int32.toNatClampNeg v2) 0) s_order s_arriving s_unit s_flag s_forbidding s_most s_fewest) H := hP
        have hD : va_D A (wC a cI cZ cJ x_agesStand x_searchStands p_blocks p_lines p_edges p_pairs g_sets g_size g_penalty g_comeCount s_answered s_codes s_ordered p_times p_touchCounts p_touchSlots p_lineOfSlot p_from p_to p_bounds p_pairA p_pairB p_leaving p_firstLeaving g_come g_outcomes g_greatestTimes g_leastTimes g_changed g_greatest g_least (upd g_greatestNow_18 (Int32.toNatClampNeg v2) 0) (upd g_leastNow_18 (Int32.toNatClampNeg v2) 0) s_order s_arriving s_unit s_flag s_forbidding s_most s_fewest) := hD
        refine wz_mono hQz ?_
        exact W.vret hx hb hr (fun t ht hW => ⟨⟨((upd g_greatestNow_18 (Int32.toNatClampNeg v2) 0), (upd g_leastNow_18 (Int32.toNatClampNeg v2) 0)), rfl, h, by rw [ht]; exact hP, va_K.moved hW.alike hK, hD⟩, hS.F ht⟩) hS.2.2 dX0_use_132
      · replace h := h.2 hc
        refine lv_iload hx hb dX0_use_27 (lv_at hl 5 rfl) ?_
        refine lv_iload_n hx hb dX0_use_29 rfl (lv_at hl 2 rfl) ?_
        refine lv_icmp_eq (tgt := 112) hx hb dX0_use_30 (by decide) (fun hc => ?_) (fun hc => ?_)
        · replace h := h.1 hc
          refine lv_iinc (v := (v5_18 + 1)) (lv' := [(5, .int (v5_18 + 1)), (0, .ref (a 2)), (1, .ref (a 1)), (2, .int v2), (3, .int (g_greatestNow (Int32.toNatClampNeg v2))), (4, .int (g_leastNow (Int32.toNatClampNeg v2)))]) hx hb dX0_use_112 hl (k := 5) rfl rfl (by decide) rfl (fun ls hl => ?_)
          refine lv_goto (tgt := 18) hx hb dX0_use_115 (by decide) ?_
          exact ih18 (v5_18 + 1) g_greatestNow_18 g_leastNow_18 h _ _ hP hD hS _ (lv_sub hl [1, 2, 3, 4, 5, 0] rfl)
        · replace h := h.2 hc
          refine lv_aload_n hx hb dX0_use_33 rfl (lv_at hl 0 rfl) ?_
          refine lv_aload_n hx hb dX0_use_34 rfl (lv_at hl 1 rfl) ?_
          refine va_get (D := D) (ci := 1) (v := .ref (a 7)) (C := RX1) (T := TX1) (N := 15) hx hb hts hinX1 hown hK hP 1 rfl rfl 7 (by decide) (hts (.fieldLink RX0 109 "WorstPaths$Program" "lineOfSlot" "[I") (by decide +kernel)) (fun _ h9 => h9) rfl dX0_use_35 ?_
          refine lv_iload hx hb dX0_use_38 (lv_at hl 5 rfl) ?_
          obtain ⟨hq, h⟩ := h
          refine va_iald (D := D) hx hb hK hP 7 0 rfl rfl hq dX0_use_40 ?_
          refine lv_aload_n hx hb dX0_use_41 rfl (lv_at hl 1 rfl) ?_
          refine va_get (D := D) (ci := 1) (v := .ref (a 7)) (C := RX1) (T := TX1) (N := 15) hx hb hts hinX1 hown hK hP 1 rfl rfl 7 (by decide) (hts (.fieldLink RX0 109 "WorstPaths$Program" "lineOfSlot" "[I") (by decide +kernel)) (fun _ h9 => h9) rfl dX0_use_42 ?_
          refine lv_iload_n hx hb dX0_use_45 rfl (lv_at hl 2 rfl) ?_
          obtain ⟨hq, h⟩ := h
          refine va_iald (D := D) hx hb hK hP 7 0 rfl rfl hq dX0_use_46 ?_
          have hF := wz_free hD hS hA
          refine va_calli (va_runV (As := [.int (p_lineOfSlot (Int32.toNatClampNeg v5_18)), .int (p_lineOfSlot (Int32.toNatClampNeg v2))]) (rest := []) ⟨hx, hb, hml, hown, hts⟩ (c_X0_sameSet l D a cI cZ cJ _ x_agesStand x_searchStands p_blocks p_lines p_edges p_pairs g_sets g_size g_penalty g_comeCount s_answered s_codes s_ordered p_times p_touchCounts p_touchSlots p_lineOfSlot p_from p_to p_bounds p_pairA p_pairB p_leaving p_firstLeaving g_come g_outcomes g_greatestTimes g_leastTimes g_changed g_greatest g_least g_greatestNow_18 g_leastNow_18 s_order s_arriving s_unit s_flag s_forbidding s_most s_fewest (p_lineOfSlot (Int32.toNatClampNeg v5_18)) (p_lineOfSlot (Int32.toNatClampNeg v2)) _ h) (cwV 2 hts gX0_use_X0_sameSet rfl rfl rfl (by decide +kernel) ⟨Nat.le_of_ble_eq_true rfl, Nat.le_of_ble_eq_true rfl⟩) ⟨wz_blind, va_recv hK hP (ci := 0) (q0 := 2) rfl rfl, fun U hU hW => wz_at hU hW hP hK hD⟩ rfl rfl hl.1 rfl (lv_room (Nat.le_of_ble_eq_true rfl)) dX0_use_47 ⟨Nat.zero_le _, Nat.zero_le _⟩) hS (fun q _ hq => hF q hq) hF (fun r_47 u t H locs ht hvm h hB hz1 hk1 hS => ?_)
          obtain ⟨hP, -, hD⟩ := wz_back ht hF hB
          have hP : va_P D vwCl (wC a cI cZ cJ x_agesStand x_searchStands p_blocks p_lines p_edges p_pairs g_sets g_size g_penalty g_comeCount s_answered s_codes s_ordered p_times p_touchCounts p_touchSlots p_lineOfSlot p_from p_to p_bounds p_pairA p_pairB p_leaving p_firstLeaving g_come g_outcomes g_greatestTimes g_leastTimes g_changed g_greatest g_least g_greatestNow_18 g_leastNow_18 s_order s_arriving s_unit s_flag s_forbidding s_most s_fewest) H := hP
          have hD : va_D A (wC a cI cZ cJ x_agesStand x_searchStands p_blocks p_lines p_edges p_pairs g_sets g_size g_penalty g_comeCount s_answered s_codes s_ordered p_times p_touchCounts p_touchSlots p_lineOfSlot p_from p_to p_bounds p_pairA p_pairB p_leaving p_firstLeaving g_come g_outcomes g_greatestTimes g_leastTimes g_changed g_greatest g_least g_greatestNow_18 g_leastNow_18 s_order s_arriving s_unit s_flag s_forbidding s_most s_fewest) := hD
          refine lv_if_eq (tgt := 112) hx hb dX0_use_50 (by decide) (fun hc => ?_) (fun hc => ?_)
          · replace h := h.1 hc
            refine lv_iinc (v := (v5_18 + 1)) (lv' := [(5, .int (v5_18 + 1)), (0, .ref (a 2)), (1, .ref (a 1)), (2, .int v2), (3, .int (g_greatestNow (Int32.toNatClampNeg v2))), (4, .int (g_leastNow (Int32.toNatClampNeg v2)))]) hx hb dX0_use_112 hl (k := 5) rfl rfl (by decide) rfl (fun ls hl => ?_)
            refine lv_goto (tgt := 18) hx hb dX0_use_115 (by decide) ?_
            exact ih18 (v5_18 + 1) g_greatestNow_18 g_leastNow_18 h _ _ hP hD hS _ (lv_sub hl [1, 2, 3, 4, 5, 0] rfl)
          · replace h := h.2 hc
            refine lv_aload_n hx hb dX0_use_53 rfl (lv_at hl 0 rfl) ?_
            refine va_get (D := D) (ci := 0) (v := .ref (a 22)) (C := RX0) (T := TX0) (N := 13) hx hb hts hinX0 hown hK hP 2 rfl rfl 11 (by decide) (hts (.fieldLink RX0 34 "WorstPaths$Ages" "greatestNow" "[I") (by decide +kernel)) (fun _ h9 => h9) rfl dX0_use_54 ?_
            refine lv_iload hx hb dX0_use_57 (lv_at hl 5 rfl) ?_
            obtain ⟨hq, h⟩ := h
            refine va_iald (D := D) hx hb hK hP 22 0 rfl rfl hq dX0_use_59 ?_
            refine lv_iload_n hx hb dX0_use_60 rfl (lv_at hl 3 rfl) ?_
            have JP75 : ∀ (g_greatestNow_75 : Nat → Int32), jn_X0_use_75 v2 (g_greatestNow (Int32.toNatClampNeg v2)) (g_leastNow (Int32.toNatClampNeg v2)) v5_18 p_lines g_sets g_size p_lineOfSlot g_greatestNow_75 g_leastNow_18 (lp_X0_use_18 v2 (g_greatestNow (Int32.toNatClampNeg v2)) (g_leastNow (Int32.toNatClampNeg v2)) p_lines g_sets g_size p_lineOfSlot Q n18) Q → ∀ (H : Heap) (locs : List Loc), va_P D vwCl (wC a cI cZ cJ x_agesStand x_searchStands p_blocks p_lines p_edges p_pairs g_sets g_size g_penalty g_comeCount s_answered s_codes s_ordered p_times p_touchCounts p_touchSlots p_lineOfSlot p_from p_to p_bounds p_pairA p_pairB p_leaving p_firstLeaving g_come g_outcomes g_greatestTimes g_leastTimes g_changed g_greatest g_least g_greatestNow_75 g_leastNow_18 s_order s_arriving s_unit s_flag s_forbidding s_most s_fewest) H → va_D A (wC a cI cZ cJ x_agesStand x_searchStands p_blocks p_lines p_edges p_pairs g_sets g_size g_penalty g_comeCount s_answered s_codes s_ordered p_times p_touchCounts p_touchSlots p_lineOfSlot p_from p_to p_bounds p_pairA p_pairB p_leaving p_firstLeaving g_come g_outcomes g_greatestTimes g_leastTimes g_changed g_greatest g_least g_greatestNow_75 g_leastNow_18 s_order s_arriving s_unit s_flag s_forbidding s_most s_fewest) → va_S A s.heap H locs → ∀ (ls : Array Slot), lv_has ls 6 [(0, .ref (a 2)), (1, .ref (a 1)), (2, .int v2), (3, .int (g_greatestNow (Int32.toNatClampNeg v2))), (4, .int (g_leastNow (Int32.toNatClampNeg v2))), (5, .int v5_18)] → W p l e (headSpec wsX0_use rm_X0_use).room s m ([Value.ref (a 2), Value.ref (a 1), Value.int v2] : List Value).toArray below meth c H locs 0 0 Qz (F0 m 75 ls []) := by
              intro g_greatestNow_75 h H locs hP hD hS ls hl
              unfold jn_X0_use_75 at h
              refine lv_aload_n hx hb dX0_use_75 rfl (lv_at hl 0 rfl) ?_
              refine va_get (D := D) (ci := 0) (v := .ref (a 23)) (C := RX0) (T := TX0) (N := 13) hx hb hts hinX0 hown hK hP 2 rfl rfl 12 (by decide) (hts (.fieldLink RX0 37 "WorstPaths$Ages" "leastNow" "[I") (by decide +kernel)) (fun _ h9 => h9) rfl dX0_use_76 ?_
              refine lv_iload hx hb dX0_use_79 (lv_at hl 5 rfl) ?_
              obtain ⟨hq, h⟩ := h
              refine va_iald (D := D) hx hb hK hP 23 0 rfl rfl hq dX0_use_81 ?_
              refine lv_iload hx hb dX0_use_82 (lv_at hl 4 rfl) ?_
              refine lv_icmp_gt (tgt := 112) hx hb dX0_use_84 (by decide) (fun hc => ?_) (fun hc => ?_)
              · replace h := h.1 hc
                refine lv_iinc (v := (v5_18 + 1)) (lv' := [(5, .int (v5_18 + 1)), (0, .ref (a 2)), (1, .ref (a 1)), (2, .int v2), (3, .int (g_greatestNow (Int32.toNatClampNeg v2))), (4, .int (g_leastNow (Int32.toNatClampNeg v2)))]) hx hb dX0_use_112 hl (k := 5) rfl rfl (by decide) rfl (fun ls hl => ?_)
                refine lv_goto (tgt := 18) hx hb dX0_use_115 (by decide) ?_
                exact ih18 (v5_18 + 1) g_greatestNow_75 g_leastNow_18 h _ _ hP hD hS _ (lv_sub hl [1, 2, 3, 4, 5, 0] rfl)
              · replace h := h.2 hc
                refine lv_aload_n hx hb dX0_use_87 rfl (lv_at hl 0 rfl) ?_
                refine va_get (D := D) (ci := 0) (v := .ref (a 23)) (C := RX0) (T := TX0) (N := 13) hx hb hts hinX0 hown hK hP 2 rfl rfl 12 (by decide) (hts (.fieldLink RX0 37 "WorstPaths$Ages" "leastNow" "[I") (by decide +kernel)) (fun _ h9 => h9) rfl dX0_use_88 ?_
                refine lv_iload hx hb dX0_use_91 (lv_at hl 5 rfl) ?_
                obtain ⟨hq, h⟩ := h
                refine va_iald (D := D) hx hb hK hP 23 0 rfl rfl hq dX0_use_93 ?_
                refine lv_aload_n hx hb dX0_use_94 rfl (lv_at hl 0 rfl) ?_
                refine va_get (D := D) (ci := 0) (v := .int g_size) (C := RX0) (T := TX0) (N := 13) hx hb hts hinX0 hown hK hP 2 rfl rfl 1 (by decide) (hts (.fieldLink RX0 44 "WorstPaths$Ages" "size" "I") (by decide +kernel)) (fun _ h9 => h9) rfl dX0_use_95 ?_
                refine lv_icmp_ge (tgt := 112) hx hb dX0_use_98 (by decide) (fun hc => ?_) (fun hc => ?_)
                · replace h := h.1 hc
                  refine lv_iinc (v := (v5_18 + 1)) (lv' := [(5, .int (v5_18 + 1)), (0, .ref (a 2)), (1, .ref (a 1)), (2, .int v2), (3, .int (g_greatestNow (Int32.toNatClampNeg v2))), (4, .int (g_leastNow (Int32.toNatClampNeg v2)))]) hx hb dX0_use_112 hl (k := 5) rfl rfl (by decide) rfl (fun ls hl => ?_)
                  refine lv_goto (tgt := 18) hx hb dX0_use_115 (by decide) ?_
                  exact ih18 (v5_18 + 1) g_greatestNow_75 g_leastNow_18 h _ _ hP hD hS _ (lv_sub hl [1, 2, 3, 4, 5, 0] rfl)
                · replace h := h.2 hc
                  refine lv_aload_n hx hb dX0_use_101 rfl (lv_at hl 0 rfl) ?_
                  refine va_get (D := D) (ci := 0) (v := .ref (a 23)) (C := RX0) (T := TX0) (N := 13) hx hb hts hinX0 hown hK hP 2 rfl rfl 12 (by decide) (hts (.fieldLink RX0 37 "WorstPaths$Ages" "leastNow" "[I") (by decide +kernel)) (fun _ h9 => h9) rfl dX0_use_102 ?_
                  refine lv_iload hx hb dX0_use_105 (lv_at hl 5 rfl) ?_
                  refine lv_dup2_11 hx hb dX0_use_107 rfl rfl ?_
                  obtain ⟨hq, h⟩ := h
                  refine va_iald (D := D) hx hb hK hP 23 0 rfl rfl hq dX0_use_108 ?_
                  refine lv_iconst (v := 1) hx hb dX0_use_109 (by decide) ?_
                  refine lv_iadd hx hb dX0_use_110 ?_
                  obtain ⟨hq, h⟩ := h
                  refine va_iast (D := D) hx hb hK hP hD hS 23 0 rfl rfl hq dX0_use_111 (fun H locs hP hD hS => ?_)
                  have hP : va_P D vwCl (wC a cI cZ cJ x_agesStand x_searchStands p_blocks p_lines p_edges p_pairs g_sets g_size g_penalty g_comeCount s_answered s_codes s_ordered p_times p_touchCounts p_touchSlots p_lineOfSlot p_from p_to p_bounds p_pairA p_pairB p_leaving p_firstLeaving g_come g_outcomes g_greatestTimes g_leastTimes g_changed g_greatest g_least g_greatestNow_75 (upd g_leastNow_18 (Int32.toNatClampNeg v5_18) ((g_leastNow_18 (Int32.toNatClampNeg v5_18)) + 1)) s_order s_arriving s_unit s_flag s_forbidding s_most s_fewest) H := hP
                  have hD : va_D A (wC a cI cZ cJ x_agesStand x_searchStands p_blocks p_lines p_edges p_pairs g_sets g_size g_penalty g_comeCount s_answered s_codes s_ordered p_times p_touchCounts p_touchSlots p_lineOfSlot p_from p_to p_bounds p_pairA p_pairB p_leaving p_firstLeaving g_come g_outcomes g_greatestTimes g_leastTimes g_changed g_greatest g_least g_greatestNow_75 (upd g_leastNow_18 (Int32.toNatClampNeg v5_18) ((g_leastNow_18 (Int32.toNatClampNeg v5_18)) + 1)) s_order s_arriving s_unit s_flag s_forbidding s_most s_fewest) := hD
                  refine lv_iinc (v := (v5_18 + 1)) (lv' := [(5, .int (v5_18 + 1)), (0, .ref (a 2)), (1, .ref (a 1)), (2, .int v2), (3, .int (g_greatestNow (Int32.toNatClampNeg v2))), (4, .int (g_leastNow (Int32.toNatClampNeg v2)))]) hx hb dX0_use_112 hl (k := 5) rfl rfl (by decide) rfl (fun ls hl => ?_)
                  refine lv_goto (tgt := 18) hx hb dX0_use_115 (by decide) ?_
                  exact ih18 (v5_18 + 1) g_greatestNow_75 (upd g_leastNow_18 (Int32.toNatClampNeg v5_18) ((g_leastNow_18 (Int32.toNatClampNeg v5_18)) + 1)) h _ _ hP hD hS _ (lv_sub hl [1, 2, 3, 4, 5, 0] rfl)
            refine lv_icmp_ge (tgt := 75) hx hb dX0_use_61 (by decide) (fun hc => ?_) (fun hc => ?_)
            · replace h := h.1 hc
              exact JP75 g_greatestNow_18 h _ _ hP hD hS _ (lv_sub hl [0, 1, 2, 3, 4, 5] rfl)
            · replace h := h.2 hc
              refine lv_aload_n hx hb dX0_use_64 rfl (lv_at hl 0 rfl) ?_
              refine va_get (D := D) (ci := 0) (v := .ref (a 22)) (C := RX0) (T := TX0) (N := 13) hx hb hts hinX0 hown hK hP 2 rfl rfl 11 (by decide) (hts (.fieldLink RX0 34 "WorstPaths$Ages" "greatestNow" "[I") (by decide +kernel)) (fun _ h9 => h9) rfl dX0_use_65 ?_
              refine lv_iload hx hb dX0_use_68 (lv_at hl 5 rfl) ?_
              refine lv_dup2_11 hx hb dX0_use_70 rfl rfl ?_
              obtain ⟨hq, h⟩ := h
              refine va_iald (D := D) hx hb hK hP 22 0 rfl rfl hq dX0_use_71 ?_
              refine lv_iconst (v := 1) hx hb dX0_use_72 (by decide) ?_
              refine lv_iadd hx hb dX0_use_73 ?_
              obtain ⟨hq, h⟩ := h
              refine va_iast (D := D) hx hb hK hP hD hS 22 0 rfl rfl hq dX0_use_74 (fun H locs hP hD hS => ?_)
              have hP : va_P D vwCl (wC a cI cZ cJ x_agesStand x_searchStands p_blocks p_lines p_edges p_pairs g_sets g_size g_penalty g_comeCount s_answered s_codes s_ordered p_times p_touchCounts p_touchSlots p_lineOfSlot p_from p_to p_bounds p_pairA p_pairB p_leaving p_firstLeaving g_come g_outcomes g_greatestTimes g_leastTimes g_changed g_greatest g_least (upd g_greatestNow_18 (Int32.toNatClampNeg v5_18) ((g_greatestNow_18 (Int32.toNatClampNeg v5_18)) + 1)) g_leastNow_18 s_order s_arriving s_unit s_flag s_forbidding s_most s_fewest) H := hP
              have hD : va_D A (wC a cI cZ cJ x_agesStand x_searchStands p_blocks p_lines p_edges p_pairs g_sets g_size g_penalty g_comeCount s_answered s_codes s_ordered p_times p_touchCounts p_touchSlots p_lineOfSlot p_from p_to p_bounds p_pairA p_pairB p_leaving p_firstLeaving g_come g_outcomes g_greatestTimes g_leastTimes g_changed g_greatest g_least (upd g_greatestNow_18 (Int32.toNatClampNeg v5_18) ((g_greatestNow_18 (Int32.toNatClampNeg v5_18)) + 1)) g_leastNow_18 s_order s_arriving s_unit s_flag s_forbidding s_most s_fewest) := hD
              exact JP75 (upd g_greatestNow_18 (Int32.toNatClampNeg v5_18) ((g_greatestNow_18 (Int32.toNatClampNeg v5_18)) + 1)) h _ _ hP hD hS _ (lv_sub hl [0, 1, 2, 3, 4, 5] rfl)
  obtain ⟨k9, h⟩ := h
  exact LP18 k9 0 g_greatestNow g_leastNow h _ _ hP hD hS _ (lv_sub hl [3, 4, 5, 2, 1, 0] rfl)
def lp_X0_goThrough_58 (v2 : Int32) (p_lines : Int32) (g_sets : Int32) (g_size : Int32) (p_touchCounts : Nat → Int32) (p_touchSlots : Nat → Int32) (p_lineOfSlot : Nat → Int32) (g_greatest : Nat → Int32) (g_least : Nat → Int32) (Q : (Nat → Int32) → (Nat → Int32) → (Nat → Int32) → Prop) : Nat → Int32 → (Nat → Int32) → (Nat → Int32) → (Nat → Int32) → Prop
  | 0, _, _, _, _ => False
  | n + 1, v4, g_outcomes, g_greatestNow, g_leastNow => vp_in v2 40 ∧ (((p_touchCounts (Int32.toNatClampNeg v2)) ≤ v4 → Q g_outcomes g_greatestNow g_leastNow) ∧ (¬ (p_touchCounts (Int32.toNatClampNeg v2)) ≤ v4 → vp_in ((v2 * 6) + v4) 240 ∧ (wp_X0_outcomeNow (p_touchSlots (Int32.toNatClampNeg ((v2 * 6) + v4))) g_size g_greatestNow g_leastNow (fun r_96 => vp_in ((v2 * 6) + v4) 240 ∧ (wp_X0_use (p_touchSlots (Int32.toNatClampNeg ((v2 * 6) + v4))) p_lines g_sets g_size p_lineOfSlot g_greatestNow g_leastNow (fun g_greatestNow_104 g_leastNow_104 => (lp_X0_goThrough_58 v2 p_lines g_sets g_size p_touchCounts p_touchSlots p_lineOfSlot g_greatest g_least Q n) (v4 + 1) (upd g_outcomes (Int32.toNatClampNeg ((v2 * 6) + v4)) r_96) g_greatestNow_104 g_leastNow_104))))))
def lp_X0_goThrough_8 (v2 : Int32) (v3 : Int32) (p_lines : Int32) (g_sets : Int32) (g_size : Int32) (p_touchCounts : Nat → Int32) (p_touchSlots : Nat → Int32) (p_lineOfSlot : Nat → Int32) (g_outcomes : Nat → Int32) (g_greatest : Nat → Int32) (g_least : Nat → Int32) (Q : (Nat → Int32) → (Nat → Int32) → (Nat → Int32) → Prop) : Nat → Int32 → (Nat → Int32) → (Nat → Int32) → Prop
  | 0, _, _, _ => False
  | n + 1, v4, g_greatestNow, g_leastNow => (p_lines ≤ v4 → ∃ k58, lp_X0_goThrough_58 v2 p_lines g_sets g_size p_touchCounts p_touchSlots p_lineOfSlot g_greatest g_least Q k58 0 g_outcomes g_greatestNow g_leastNow) ∧ (¬ p_lines ≤ v4 → vp_in (v3 + v4) 1600 ∧ (vp_in v4 40 ∧ (vp_in (v3 + v4) 1600 ∧ (vp_in v4 40 ∧ ((lp_X0_goThrough_8 v2 v3 p_lines g_sets g_size p_touchCounts p_touchSlots p_lineOfSlot g_outcomes g_greatest g_least Q n) (v4 + 1) (upd g_greatestNow (Int32.toNatClampNeg v4) (g_greatest (Int32.toNatClampNeg (v3 + v4)))) (upd g_leastNow (Int32.toNatClampNeg v4) (g_least (Int32.toNatClampNeg (v3 + v4)))))))))
def wp_X0_goThrough (v2 : Int32) (p_lines : Int32) (g_sets : Int32) (g_size : Int32) (p_touchCounts : Nat → Int32) (p_touchSlots : Nat → Int32) (p_lineOfSlot : Nat → Int32) (g_outcomes : Nat → Int32) (g_greatest : Nat → Int32) (g_least : Nat → Int32) (g_greatestNow : Nat → Int32) (g_leastNow : Nat → Int32) (Q : (Nat → Int32) → (Nat → Int32) → (Nat → Int32) → Prop) : Prop := ∃ k8, lp_X0_goThrough_8 v2 (v2 * 40) p_lines g_sets g_size p_touchCounts p_touchSlots p_lineOfSlot g_outcomes g_greatest g_least Q k8 0 g_greatestNow g_leastNow
abbrev rm_X0_goThrough : Room := { frames := 2, cells := 0, slots := 0, locals := 47 }
set_option maxHeartbeats 4000000 in
set_option maxRecDepth 100000 in
theorem c_X0_goThrough (l : Launch) (D : va_G) (a : Nat → Nat) (cI : ClassId) (cZ : ClassId) (cJ : ClassId) (sz : Nat) (x_agesStand : Int32) (x_searchStands : Int32) (p_blocks : Int32) (p_lines : Int32) (p_edges : Int32) (p_pairs : Int32) (g_sets : Int32) (g_size : Int32) (g_penalty : Int32) (g_comeCount : Int32) (s_answered : Int32) (s_codes : Int32) (s_ordered : Int32) (p_times : Nat → Int32) (p_touchCounts : Nat → Int32) (p_touchSlots : Nat → Int32) (p_lineOfSlot : Nat → Int32) (p_from : Nat → Int32) (p_to : Nat → Int32) (p_bounds : Nat → Int32) (p_pairA : Nat → Int32) (p_pairB : Nat → Int32) (p_leaving : Nat → Int32) (p_firstLeaving : Nat → Int32) (g_come : Nat → Int32) (g_outcomes : Nat → Int32) (g_greatestTimes : Nat → Int32) (g_leastTimes : Nat → Int32) (g_changed : Nat → Int32) (g_greatest : Nat → Int32) (g_least : Nat → Int32) (g_greatestNow : Nat → Int32) (g_leastNow : Nat → Int32) (s_order : Nat → Int32) (s_arriving : Nat → Int32) (s_unit : Nat → Int32) (s_flag : Nat → Int32) (s_forbidding : Nat → Int32) (s_most : Nat → Int64) (s_fewest : Nat → Int64) (v2 : Int32) (Q : (Nat → Int32) → (Nat → Int32) → (Nat → Int32) → Prop) (h : wp_X0_goThrough v2 p_lines g_sets g_size p_touchCounts p_touchSlots p_lineOfSlot g_outcomes g_greatest g_least g_greatestNow g_leastNow Q) : Met l yX0_goThrough wsX0_goThrough rm_X0_goThrough (va_Pc [.ref (a 2), .ref (a 1), .int v2] (inW D cI cZ cJ sz (wC a cI cZ cJ x_agesStand x_searchStands p_blocks p_lines p_edges p_pairs g_sets g_size g_penalty g_comeCount s_answered s_codes s_ordered p_times p_touchCounts p_touchSlots p_lineOfSlot p_from p_to p_bounds p_pairA p_pairB p_leaving p_firstLeaving g_come g_outcomes g_greatestTimes g_leastTimes g_changed g_greatest g_least g_greatestNow g_leastNow s_order s_arriving s_unit s_flag s_forbidding s_most s_fewest))) (va_Qv (fun (u : (Nat → Int32) × (Nat → Int32) × (Nat → Int32)) => Q u.1 u.2.1 u.2.2) (fun (u : (Nat → Int32) × (Nat → Int32) × (Nat → Int32)) => outW D cI cZ cJ (va_A (wC a cI cZ cJ x_agesStand x_searchStands p_blocks p_lines p_edges p_pairs g_sets g_size g_penalty g_comeCount s_answered s_codes s_ordered p_times p_touchCounts p_touchSlots p_lineOfSlot p_from p_to p_bounds p_pairA p_pairB p_leaving p_firstLeaving g_come g_outcomes g_greatestTimes g_leastTimes g_changed g_greatest g_least g_greatestNow g_leastNow s_order s_arriving s_unit s_flag s_forbidding s_most s_fewest) sz) (wC a cI cZ cJ x_agesStand x_searchStands p_blocks p_lines p_edges p_pairs g_sets g_size g_penalty g_comeCount s_answered s_codes s_ordered p_times p_touchCounts p_touchSlots p_lineOfSlot p_from p_to p_bounds p_pairA p_pairB p_leaving p_firstLeaving g_come u.1 g_greatestTimes g_leastTimes g_changed g_greatest g_least u.2.1 u.2.2 s_order s_arriving s_unit s_flag s_forbidding s_most s_fewest)) (va_A (wC a cI cZ cJ x_agesStand x_searchStands p_blocks p_lines p_edges p_pairs g_sets g_size g_penalty g_comeCount s_answered s_codes s_ordered p_times p_touchCounts p_touchSlots p_lineOfSlot p_from p_to p_bounds p_pairA p_pairB p_leaving p_firstLeaving g_come g_outcomes g_greatestTimes g_leastTimes g_changed g_greatest g_least g_greatestNow g_leastNow s_order s_arriving s_unit s_flag s_forbidding s_most s_fewest) sz)) 0 0 (va_A (wC a cI cZ cJ x_agesStand x_searchStands p_blocks p_lines p_edges p_pairs g_sets g_size g_penalty g_comeCount s_answered s_codes s_ordered p_times p_touchCounts p_touchSlots p_lineOfSlot p_from p_to p_bounds p_pairA p_pairB p_leaving p_firstLeaving g_come g_outcomes g_greatestTimes g_leastTimes g_changed g_greatest g_least g_greatestNow g_leastNow s_order s_arriving s_unit s_flag s_forbidding s_most s_fewest) sz) := by
  refine Met.ofW (cc := cX0_goThrough) (maxL := 7) (ret := none) (by decide +kernel) rfl ?_
  intro p e s m args below meth c s₁ B hml hv
  obtain ⟨rfl, hsz, hP, hK, hD0⟩ := hv
  have hx := B.exec
  have hb := B.bytes
  have hr := B.returns
  have hts := atoms_spec (ws := wsX0_goThrough) B.pre
  have hown : s.vm.findClass RX0 = some m.cls := findClass_of_methodNamed B.named
  have hlocks := B.notSynchronized
  have hinX0 : ∀ w ∈ wsX00, w ∈ wsX0_goThrough := by decide +kernel
  have hinX1 : ∀ w ∈ wsX10, w ∈ wsX0_goThrough := by decide +kernel
  subst hsz
  have hD := hD0.self (sz := s.heap.size)
  generalize hAe : va_A (wC a cI cZ cJ x_agesStand x_searchStands p_blocks p_lines p_edges p_pairs g_sets g_size g_penalty g_comeCount s_answered s_codes s_ordered p_times p_touchCounts p_touchSlots p_lineOfSlot p_from p_to p_bounds p_pairA p_pairB p_leaving p_firstLeaving g_come g_outcomes g_greatestTimes g_leastTimes g_changed g_greatest g_least g_greatestNow g_leastNow s_order s_arriving s_unit s_flag s_forbidding s_most s_fewest) s.heap.size = A at hD ⊢
  have hA : ∀ q : Nat, s.heap.size ≤ q → A q := fun q h => by rw [← hAe]; exact Or.inr h
  have hS : va_S A s.heap s.heap [] := va_S.rf
  have hP : va_P D vwCl (wC a cI cZ cJ x_agesStand x_searchStands p_blocks p_lines p_edges p_pairs g_sets g_size g_penalty g_comeCount s_answered s_codes s_ordered p_times p_touchCounts p_touchSlots p_lineOfSlot p_from p_to p_bounds p_pairA p_pairB p_leaving p_firstLeaving g_come g_outcomes g_greatestTimes g_leastTimes g_changed g_greatest g_least g_greatestNow g_leastNow s_order s_arriving s_unit s_flag s_forbidding s_most s_fewest) s.heap := hP
  have hl := lv_entry ([.ref (a 2), .ref (a 1), .int v2]) (n := 7) (Nat.le_of_ble_eq_true rfl)
  rw [lg_entry_eq]
  generalize (lg_sl ([.ref (a 2), .ref (a 1), .int v2]) ++ List.replicate (7 - (lg_sl ([.ref (a 2), .ref (a 1), .int v2])).length) Slot.unset).toArray = ls at hl ⊢
  have hl : lv_has ls 7 [(0, .ref (a 2)), (1, .ref (a 1)), (2, .int v2)] := hl
  refine wz_abs (fun Qz hQz => ?_)
  unfold wp_X0_goThrough at h
  refine lv_iload_n hx hb dX0_goThrough_0 rfl (lv_at hl 2 rfl) ?_
  refine lv_bipush (v := 40) hx hb dX0_goThrough_1 (by decide) ?_
  refine lv_imul hx hb dX0_goThrough_3 ?_
  refine lv_istore_n (lv' := [(3, .int (v2 * 40)), (0, .ref (a 2)), (1, .ref (a 1)), (2, .int v2)]) hx hb dX0_goThrough_4 rfl hl (by decide) rfl (fun ls hl => ?_)
  refine lv_iconst (v := 0) hx hb dX0_goThrough_5 (by decide) ?_
  refine lv_istore (lv' := [(4, .int 0), (3, .int (v2 * 40)), (0, .ref (a 2)), (1, .ref (a 1)), (2, .int v2)]) hx hb dX0_goThrough_6 hl (by decide) rfl (fun ls hl => ?_)
  have LP8 : ∀ (n8 : Nat) (v4_8 : Int32) (g_greatestNow_8 : Nat → Int32) (g_leastNow_8 : Nat → Int32), lp_X0_goThrough_8 v2 (v2 * 40) p_lines g_sets g_size p_touchCounts p_touchSlots p_lineOfSlot g_outcomes g_greatest g_least Q n8 v4_8 g_greatestNow_8 g_leastNow_8 → ∀ (H : Heap) (locs : List Loc), va_P D vwCl (wC a cI cZ cJ x_agesStand x_searchStands p_blocks p_lines p_edges p_pairs g_sets g_size g_penalty g_comeCount s_answered s_codes s_ordered p_times p_touchCounts p_touchSlots p_lineOfSlot p_from p_to p_bounds p_pairA p_pairB p_leaving p_firstLeaving g_come g_outcomes g_greatestTimes g_leastTimes g_changed g_greatest g_least g_greatestNow_8 g_leastNow_8 s_order s_arriving s_unit s_flag s_forbidding s_most s_fewest) H → va_D A (wC a cI cZ cJ x_agesStand x_searchStands p_blocks p_lines p_edges p_pairs g_sets g_size g_penalty g_comeCount s_answered s_codes s_ordered p_times p_touchCounts p_touchSlots p_lineOfSlot p_from p_to p_bounds p_pairA p_pairB p_leaving p_firstLeaving g_come g_outcomes g_greatestTimes g_leastTimes g_changed g_greatest g_least g_greatestNow_8 g_leastNow_8 s_order s_arriving s_unit s_flag s_forbidding s_most s_fewest) → va_S A s.heap H locs → ∀ (ls : Array Slot), lv_has ls 7 [(0, .ref (a 2)), (1, .ref (a 1)), (2, .int v2), (3, .int (v2 * 40)), (4, .int v4_8)] → W p l e (headSpec wsX0_goThrough rm_X0_goThrough).room s m ([Value.ref (a 2), Value.ref (a 1), Value.int v2] : List Value).toArray below meth c H locs 0 0 Qz (F0 m 8 ls []) := by
    intro n8
    induction n8 with
    | zero => intro v4_8 g_greatestNow_8 g_leastNow_8 h; exact h.elim
    | succ n8 ih8 =>
      intro v4_8 g_greatestNow_8 g_leastNow_8 h H locs hP hD hS ls hl
      unfold lp_X0_goThrough_8 at h
      refine lv_iload hx hb dX0_goThrough_8 (lv_at hl 4 rfl) ?_
      refine lv_aload_n hx hb dX0_goThrough_10 rfl (lv_at hl 1 rfl) ?_
      refine va_get (D := D) (ci := 1) (v := .int p_lines) (C := RX1) (T := TX1) (N := 15) hx hb hts hinX1 hown hK hP 1 rfl rfl 1 (by decide) (hts (.fieldLink RX0 77 "WorstPaths$Program" "lines" "I") (by decide +kernel)) (fun _ h9 => h9) rfl dX0_goThrough_11 ?_
      refine lv_icmp_ge (tgt := 55) hx hb dX0_goThrough_14 (by decide) (fun hc => ?_) (fun hc => ?_)
      · replace h := h.1 hc
        refine lv_iconst (v := 0) hx hb dX0_goThrough_55 (by decide) ?_
        refine lv_istore (lv' := [(4, .int 0), (0, .ref (a 2)), (1, .ref (a 1)), (2, .int v2), (3, .int (v2 * 40))]) hx hb dX0_goThrough_56 hl (by decide) rfl (fun ls hl => ?_)
        have LP58 : ∀ (n58 : Nat) (v4_58 : Int32) (g_outcomes_58 : Nat → Int32) (g_greatestNow_58 : Nat → Int32) (g_leastNow_58 : Nat → Int32), lp_X0_goThrough_58 v2 p_lines g_sets g_size p_touchCounts p_touchSlots p_lineOfSlot g_greatest g_least Q n58 v4_58 g_outcomes_58 g_greatestNow_58 g_leastNow_58 → ∀ (H : Heap) (locs : List Loc), va_P D vwCl (wC a cI cZ cJ x_agesStand x_searchStands p_blocks p_lines p_edges p_pairs g_sets g_size g_penalty g_comeCount s_answered s_codes s_ordered p_times p_touchCounts p_touchSlots p_lineOfSlot p_from p_to p_bounds p_pairA p_pairB p_leaving p_firstLeaving g_come g_outcomes_58 g_greatestTimes g_leastTimes g_changed g_greatest g_least g_greatestNow_58 g_leastNow_58 s_order s_arriving s_unit s_flag s_forbidding s_most s_fewest) H → va_D A (wC a cI cZ cJ x_agesStand x_searchStands p_blocks p_lines p_edges p_pairs g_sets g_size g_penalty g_comeCount s_answered s_codes s_ordered p_times p_touchCounts p_touchSlots p_lineOfSlot p_from p_to p_bounds p_pairA p_pairB p_leaving p_firstLeaving g_come g_outcomes_58 g_greatestTimes g_leastTimes g_changed g_greatest g_least g_greatestNow_58 g_leastNow_58 s_order s_arriving s_unit s_flag s_forbidding s_most s_fewest) → va_S A s.heap H locs → ∀ (ls : Array Slot), lv_has ls 7 [(0, .ref (a 2)), (1, .ref (a 1)), (2, .int v2), (4, .int v4_58)] → W p l e (headSpec wsX0_goThrough rm_X0_goThrough).room s m ([Value.ref (a 2), Value.ref (a 1), Value.int v2] : List Value).toArray below meth c H locs 0 0 Qz (F0 m 58 ls []) := by
          intro n58
          induction n58 with
          | zero => intro v4_58 g_outcomes_58 g_greatestNow_58 g_leastNow_58 h; exact h.elim
          | succ n58 ih58 =>
            intro v4_58 g_outcomes_58 g_greatestNow_58 g_leastNow_58 h H locs hP hD hS ls hl
            unfold lp_X0_goThrough_58 at h
            refine lv_iload hx hb dX0_goThrough_58 (lv_at hl 3 rfl) ?_
            refine lv_aload_n hx hb dX0_goThrough_60 rfl (lv_at hl 1 rfl) ?_
            refine va_get (D := D) (ci := 1) (v := .ref (a 5)) (C := RX1) (T := TX1) (N := 15) hx hb hts hinX1 hown hK hP 1 rfl rfl 5 (by decide) (hts (.fieldLink RX0 96 "WorstPaths$Program" "touchCounts" "[I") (by decide +kernel)) (fun _ h9 => h9) rfl dX0_goThrough_61 ?_
            refine lv_iload_n hx hb dX0_goThrough_64 rfl (lv_at hl 2 rfl) ?_
            obtain ⟨hq, h⟩ := h
            refine va_iald (D := D) hx hb hK hP 5 0 rfl rfl hq dX0_goThrough_65 ?_
            refine lv_icmp_ge (tgt := 113) hx hb dX0_goThrough_66 (by decide) (fun hc => ?_) (fun hc => ?_)
            · replace h := h.1 hc
              refine wz_mono hQz ?_
              exact W.vret hx hb hr (fun t ht hW => ⟨⟨(g_outcomes_58, g_greatestNow_58, g_leastNow_58), rfl, h, by rw [ht]; exact hP, va_K.moved hW.alike hK, hD⟩, hS.F ht⟩) hS.2.2 dX0_goThrough_113
            · replace h := h.2 hc
              refine lv_iload_n hx hb dX0_goThrough_69 rfl (lv_at hl 2 rfl) ?_
              refine lv_bipush (v := 6) hx hb dX0_goThrough_70 (by decide) ?_
              refine lv_imul hx hb dX0_goThrough_72 ?_
              refine lv_iload hx hb dX0_goThrough_73 (lv_at hl 3 rfl) ?_
              refine lv_iadd hx hb dX0_goThrough_75 ?_
              refine lv_istore (lv' := [(5, .int ((v2 * 6) + v4_58)), (0, .ref (a 2)), (1, .ref (a 1)), (2, .int v2), (4, .int v4_58)]) hx hb dX0_goThrough_76 hl (by decide) rfl (fun ls hl => ?_)
              refine lv_aload_n hx hb dX0_goThrough_78 rfl (lv_at hl 2 rfl) ?_
              refine va_get (D := D) (ci := 1) (v := .ref (a 6)) (C := RX1) (T := TX1) (N := 15) hx hb hts hinX1 hown hK hP 1 rfl rfl 6 (by decide) (hts (.fieldLink RX0 99 "WorstPaths$Program" "touchSlots" "[I") (by decide +kernel)) (fun _ h9 => h9) rfl dX0_goThrough_79 ?_
              refine lv_iload hx hb dX0_goThrough_82 (lv_at hl 0 rfl) ?_
              obtain ⟨hq, h⟩ := h
              refine va_iald (D := D) hx hb hK hP 6 0 rfl rfl hq dX0_goThrough_84 ?_
              refine lv_istore (lv' := [(6, .int (p_touchSlots (Int32.toNatClampNeg ((v2 * 6) + v4_58)))), (5, .int ((v2 * 6) + v4_58)), (0, .ref (a 2)), (1, .ref (a 1)), (2, .int v2), (4, .int v4_58)]) hx hb dX0_goThrough_85 hl (by decide) rfl (fun ls hl => ?_)
              refine lv_aload_n hx hb dX0_goThrough_87 rfl (lv_at hl 2 rfl) ?_
              refine va_get (D := D) (ci := 0) (v := .ref (a 16)) (C := RX0) (T := TX0) (N := 13) hx hb hts hinX0 hown hK hP 2 rfl rfl 5 (by decide) (hts (.fieldLink RX0 15 "WorstPaths$Ages" "outcomes" "[I") (by decide +kernel)) (fun _ h9 => h9) rfl dX0_goThrough_88 ?_
              refine lv_iload hx hb dX0_goThrough_91 (lv_at hl 1 rfl) ?_
              refine lv_aload_n hx hb dX0_goThrough_93 rfl (lv_at hl 2 rfl) ?_
              refine lv_iload hx hb dX0_goThrough_94 (lv_at hl 0 rfl) ?_
              have hF := wz_free hD hS hA
              refine va_calli (va_runV (As := [.int (p_touchSlots (Int32.toNatClampNeg ((v2 * 6) + v4_58)))]) (rest := [.int ((v2 * 6) + v4_58), .ref (a 16)]) ⟨hx, hb, hml, hown, hts⟩ (c_X0_outcomeNow l D a cI cZ cJ _ x_agesStand x_searchStands p_blocks p_lines p_edges p_pairs g_sets g_size g_penalty g_comeCount s_answered s_codes s_ordered p_times p_touchCounts p_touchSlots p_lineOfSlot p_from p_to p_bounds p_pairA p_pairB p_leaving p_firstLeaving g_come g_outcomes_58 g_greatestTimes g_leastTimes g_changed g_greatest g_least g_greatestNow_58 g_leastNow_58 s_order s_arriving s_unit s_flag s_forbidding s_most s_fewest (p_touchSlots (Int32.toNatClampNeg ((v2 * 6) + v4_58))) _ h) (cwV 1 hts gX0_goThrough_X0_outcomeNow rfl rfl rfl (by decide +kernel) ⟨Nat.le_of_ble_eq_true rfl, Nat.le_of_ble_eq_true rfl⟩) ⟨wz_blind, va_recv hK hP (ci := 0) (q0 := 2) rfl rfl, fun U hU hW => wz_at hU hW hP hK hD⟩ rfl rfl hl.1 rfl (lv_room (Nat.le_of_ble_eq_true rfl)) dX0_goThrough_96 ⟨Nat.zero_le _, Nat.zero_le _⟩) hS (fun q _ hq => hF q hq) hF (fun r_96 u t H locs ht hvm h hB hz1 hk1 hS => ?_)
              obtain ⟨hP, -, hD⟩ := wz_back ht hF hB
              have hP : va_P D vwCl (wC a cI cZ cJ x_agesStand x_searchStands p_blocks p_lines p_edges p_pairs g_sets g_size g_penalty g_comeCount s_answered s_codes s_ordered p_times p_touchCounts p_touchSlots p_lineOfSlot p_from p_to p_bounds p_pairA p_pairB p_leaving p_firstLeaving g_come g_outcomes_58 g_greatestTimes g_leastTimes g_changed g_greatest g_least g_greatestNow_58 g_leastNow_58 s_order s_arriving s_unit s_flag s_forbidding s_most s_fewest) H := hP
              have hD : va_D A (wC a cI cZ cJ x_agesStand x_searchStands p_blocks p_lines p_edges p_pairs g_sets g_size g_penalty g_comeCount s_answered s_codes s_ordered p_times p_touchCounts p_touchSlots p_lineOfSlot p_from p_to p_bounds p_pairA p_pairB p_leaving p_firstLeaving g_come g_outcomes_58 g_greatestTimes g_leastTimes g_changed g_greatest g_least g_greatestNow_58 g_leastNow_58 s_order s_arriving s_unit s_flag s_forbidding s_most s_fewest) := hD
              obtain ⟨hq, h⟩ := h
              refine va_iast (D := D) hx hb hK hP hD hS 16 0 rfl rfl hq dX0_goThrough_99 (fun H locs hP hD hS => ?_)
              have hP : va_P D vwCl (wC a cI cZ cJ x_agesStand x_searchStands p_blocks p_lines p_edges p_pairs g_sets g_size g_penalty g_comeCount s_answered s_codes s_ordered p_times p_touchCounts p_touchSlots p_lineOfSlot p_from p_to p_bounds p_pairA p_pairB p_leaving p_firstLeaving g_come (upd g_outcomes_58 (Int32.toNatClampNeg ((v2 * 6) + v4_58)) r_96) g_greatestTimes g_leastTimes g_changed g_greatest g_least g_greatestNow_58 g_leastNow_58 s_order s_arriving s_unit s_flag s_forbidding s_most s_fewest) H := hP
              have hD : va_D A (wC a cI cZ cJ x_agesStand x_searchStands p_blocks p_lines p_edges p_pairs g_sets g_size g_penalty g_comeCount s_answered s_codes s_ordered p_times p_touchCounts p_touchSlots p_lineOfSlot p_from p_to p_bounds p_pairA p_pairB p_leaving p_firstLeaving g_come (upd g_outcomes_58 (Int32.toNatClampNeg ((v2 * 6) + v4_58)) r_96) g_greatestTimes g_leastTimes g_changed g_greatest g_least g_greatestNow_58 g_leastNow_58 s_order s_arriving s_unit s_flag s_forbidding s_most s_fewest) := hD
              refine lv_aload_n hx hb dX0_goThrough_100 rfl (lv_at hl 2 rfl) ?_
              refine lv_aload_n hx hb dX0_goThrough_101 rfl (lv_at hl 3 rfl) ?_
              refine lv_iload hx hb dX0_goThrough_102 (lv_at hl 0 rfl) ?_
              have hF := wz_free hD hS hA
              refine va_callv (va_runV (As := [.ref (a 1), .int (p_touchSlots (Int32.toNatClampNeg ((v2 * 6) + v4_58)))]) (rest := []) ⟨hx, hb, hml, hown, hts⟩ (c_X0_use l D a cI cZ cJ _ x_agesStand x_searchStands p_blocks p_lines p_edges p_pairs g_sets g_size g_penalty g_comeCount s_answered s_codes s_ordered p_times p_touchCounts p_touchSlots p_lineOfSlot p_from p_to p_bounds p_pairA p_pairB p_leaving p_firstLeaving g_come (upd g_outcomes_58 (Int32.toNatClampNeg ((v2 * 6) + v4_58)) r_96) g_greatestTimes g_leastTimes g_changed g_greatest g_least g_greatestNow_58 g_leastNow_58 s_order s_arriving s_unit s_flag s_forbidding s_most s_fewest (p_touchSlots (Int32.toNatClampNeg ((v2 * 6) + v4_58))) _ h) (cwV 2 hts gX0_goThrough_X0_use rfl rfl rfl (by decide +kernel) ⟨Nat.le_of_ble_eq_true rfl, Nat.le_of_ble_eq_true rfl⟩) ⟨wz_blind, va_recv hK hP (ci := 0) (q0 := 2) rfl rfl, fun U hU hW => wz_at hU hW hP hK hD⟩ rfl rfl hl.1 rfl (lv_room (Nat.le_of_ble_eq_true rfl)) dX0_goThrough_104 ⟨Nat.zero_le _, Nat.zero_le _⟩) hS (fun q _ hq => hF q hq) hF (fun u t H locs ht hvm h hB hz1 hk1 hS => ?_)
              obtain ⟨g_greatestNow_104, g_leastNow_104⟩ := u
              dsimp only at h hB
              obtain ⟨hP, -, hD⟩ := wz_back ht hF hB
              have hP : va_P D vwCl (wC a cI cZ cJ x_agesStand x_searchStands p_blocks p_lines p_edges p_pairs g_sets g_size g_penalty g_comeCount s_answered s_codes s_ordered p_times p_touchCounts p_touchSlots p_lineOfSlot p_from p_to p_bounds p_pairA p_pairB p_leaving p_firstLeaving g_come (upd g_outcomes_58 (Int32.toNatClampNeg ((v2 * 6) + v4_58)) r_96) g_greatestTimes g_leastTimes g_changed g_greatest g_least g_greatestNow_104 g_leastNow_104 s_order s_arriving s_unit s_flag s_forbidding s_most s_fewest) H := hP
              have hD : va_D A (wC a cI cZ cJ x_agesStand x_searchStands p_blocks p_lines p_edges p_pairs g_sets g_size g_penalty g_comeCount s_answered s_codes s_ordered p_times p_touchCounts p_touchSlots p_lineOfSlot p_from p_to p_bounds p_pairA p_pairB p_leaving p_firstLeaving g_come (upd g_outcomes_58 (Int32.toNatClampNeg ((v2 * 6) + v4_58)) r_96) g_greatestTimes g_leastTimes g_changed g_greatest g_least g_greatestNow_104 g_leastNow_104 s_order s_arriving s_unit s_flag s_forbidding s_most s_fewest) := hD
              refine lv_iinc (v := (v4_58 + 1)) (lv' := [(4, .int (v4_58 + 1)), (6, .int (p_touchSlots (Int32.toNatClampNeg ((v2 * 6) + v4_58)))), (5, .int ((v2 * 6) + v4_58)), (0, .ref (a 2)), (1, .ref (a 1)), (2, .int v2)]) hx hb dX0_goThrough_107 hl (k := 5) rfl rfl (by decide) rfl (fun ls hl => ?_)
              refine lv_goto (tgt := 58) hx hb dX0_goThrough_110 (by decide) ?_
              exact ih58 (v4_58 + 1) (upd g_outcomes_58 (Int32.toNatClampNeg ((v2 * 6) + v4_58)) r_96) g_greatestNow_104 g_leastNow_104 h _ _ hP hD hS _ (lv_sub hl [3, 4, 5, 0] rfl)
        obtain ⟨k9, h⟩ := h
        exact LP58 k9 0 g_outcomes g_greatestNow_8 g_leastNow_8 h _ _ hP hD hS _ (lv_sub hl [1, 2, 3, 0] rfl)
      · replace h := h.2 hc
        refine lv_aload_n hx hb dX0_goThrough_17 rfl (lv_at hl 0 rfl) ?_
        refine va_get (D := D) (ci := 0) (v := .ref (a 22)) (C := RX0) (T := TX0) (N := 13) hx hb hts hinX0 hown hK hP 2 rfl rfl 11 (by decide) (hts (.fieldLink RX0 34 "WorstPaths$Ages" "greatestNow" "[I") (by decide +kernel)) (fun _ h9 => h9) rfl dX0_goThrough_18 ?_
        refine lv_iload hx hb dX0_goThrough_21 (lv_at hl 4 rfl) ?_
        refine lv_aload_n hx hb dX0_goThrough_23 rfl (lv_at hl 0 rfl) ?_
        refine va_get (D := D) (ci := 0) (v := .ref (a 20)) (C := RX0) (T := TX0) (N := 13) hx hb hts hinX0 hown hK hP 2 rfl rfl 9 (by decide) (hts (.fieldLink RX0 28 "WorstPaths$Ages" "greatest" "[I") (by decide +kernel)) (fun _ h9 => h9) rfl dX0_goThrough_24 ?_
        refine lv_iload_n hx hb dX0_goThrough_27 rfl (lv_at hl 3 rfl) ?_
        refine lv_iload hx hb dX0_goThrough_28 (lv_at hl 4 rfl) ?_
        refine lv_iadd hx hb dX0_goThrough_30 ?_
        obtain ⟨hq, h⟩ := h
        refine va_iald (D := D) hx hb hK hP 20 0 rfl rfl hq dX0_goThrough_31 ?_
        obtain ⟨hq, h⟩ := h
        refine va_iast (D := D) hx hb hK hP hD hS 22 0 rfl rfl hq dX0_goThrough_32 (fun H locs hP hD hS => ?_)
        have hP : va_P D vwCl (wC a cI cZ cJ x_agesStand x_searchStands p_blocks p_lines p_edges p_pairs g_sets g_size g_penalty g_comeCount s_answered s_codes s_ordered p_times p_touchCounts p_touchSlots p_lineOfSlot p_from p_to p_bounds p_pairA p_pairB p_leaving p_firstLeaving g_come g_outcomes g_greatestTimes g_leastTimes g_changed g_greatest g_least (upd g_greatestNow_8 (Int32.toNatClampNeg v4_8) (g_greatest (Int32.toNatClampNeg ((v2 * 40) + v4_8)))) g_leastNow_8 s_order s_arriving s_unit s_flag s_forbidding s_most s_fewest) H := hP
        have hD : va_D A (wC a cI cZ cJ x_agesStand x_searchStands p_blocks p_lines p_edges p_pairs g_sets g_size g_penalty g_comeCount s_answered s_codes s_ordered p_times p_touchCounts p_touchSlots p_lineOfSlot p_from p_to p_bounds p_pairA p_pairB p_leaving p_firstLeaving g_come g_outcomes g_greatestTimes g_leastTimes g_changed g_greatest g_least (upd g_greatestNow_8 (Int32.toNatClampNeg v4_8) (g_greatest (Int32.toNatClampNeg ((v2 * 40) + v4_8)))) g_leastNow_8 s_order s_arriving s_unit s_flag s_forbidding s_most s_fewest) := hD
        refine lv_aload_n hx hb dX0_goThrough_33 rfl (lv_at hl 0 rfl) ?_
        refine va_get (D := D) (ci := 0) (v := .ref (a 23)) (C := RX0) (T := TX0) (N := 13) hx hb hts hinX0 hown hK hP 2 rfl rfl 12 (by decide) (hts (.fieldLink RX0 37 "WorstPaths$Ages" "leastNow" "[I") (by decide +kernel)) (fun _ h9 => h9) rfl dX0_goThrough_34 ?_
        refine lv_iload hx hb dX0_goThrough_37 (lv_at hl 4 rfl) ?_
        refine lv_aload_n hx hb dX0_goThrough_39 rfl (lv_at hl 0 rfl) ?_
        refine va_get (D := D) (ci := 0) (v := .ref (a 21)) (C := RX0) (T := TX0) (N := 13) hx hb hts hinX0 hown hK hP 2 rfl rfl 10 (by decide) (hts (.fieldLink RX0 31 "WorstPaths$Ages" "least" "[I") (by decide +kernel)) (fun _ h9 => h9) rfl dX0_goThrough_40 ?_
        refine lv_iload_n hx hb dX0_goThrough_43 rfl (lv_at hl 3 rfl) ?_
        refine lv_iload hx hb dX0_goThrough_44 (lv_at hl 4 rfl) ?_
        refine lv_iadd hx hb dX0_goThrough_46 ?_
        obtain ⟨hq, h⟩ := h
        refine va_iald (D := D) hx hb hK hP 21 0 rfl rfl hq dX0_goThrough_47 ?_
        obtain ⟨hq, h⟩ := h
        refine va_iast (D := D) hx hb hK hP hD hS 23 0 rfl rfl hq dX0_goThrough_48 (fun H locs hP hD hS => ?_)
        have hP : va_P D vwCl (wC a cI cZ cJ x_agesStand x_searchStands p_blocks p_lines p_edges p_pairs g_sets g_size g_penalty g_comeCount s_answered s_codes s_ordered p_times p_touchCounts p_touchSlots p_lineOfSlot p_from p_to p_bounds p_pairA p_pairB p_leaving p_firstLeaving g_come g_outcomes g_greatestTimes g_leastTimes g_changed g_greatest g_least (upd g_greatestNow_8 (Int32.toNatClampNeg v4_8) (g_greatest (Int32.toNatClampNeg ((v2 * 40) + v4_8)))) (upd g_leastNow_8 (Int32.toNatClampNeg v4_8) (g_least (Int32.toNatClampNeg ((v2 * 40) + v4_8)))) s_order s_arriving s_unit s_flag s_forbidding s_most s_fewest) H := hP
        have hD : va_D A (wC a cI cZ cJ x_agesStand x_searchStands p_blocks p_lines p_edges p_pairs g_sets g_size g_penalty g_comeCount s_answered s_codes s_ordered p_times p_touchCounts p_touchSlots p_lineOfSlot p_from p_to p_bounds p_pairA p_pairB p_leaving p_firstLeaving g_come g_outcomes g_greatestTimes g_leastTimes g_changed g_greatest g_least (upd g_greatestNow_8 (Int32.toNatClampNeg v4_8) (g_greatest (Int32.toNatClampNeg ((v2 * 40) + v4_8)))) (upd g_leastNow_8 (Int32.toNatClampNeg v4_8) (g_least (Int32.toNatClampNeg ((v2 * 40) + v4_8)))) s_order s_arriving s_unit s_flag s_forbidding s_most s_fewest) := hD
        refine lv_iinc (v := (v4_8 + 1)) (lv' := [(4, .int (v4_8 + 1)), (0, .ref (a 2)), (1, .ref (a 1)), (2, .int v2), (3, .int (v2 * 40))]) hx hb dX0_goThrough_49 hl (k := 4) rfl rfl (by decide) rfl (fun ls hl => ?_)
        refine lv_goto (tgt := 8) hx hb dX0_goThrough_52 (by decide) ?_
        exact ih8 (v4_8 + 1) (upd g_greatestNow_8 (Int32.toNatClampNeg v4_8) (g_greatest (Int32.toNatClampNeg ((v2 * 40) + v4_8)))) (upd g_leastNow_8 (Int32.toNatClampNeg v4_8) (g_least (Int32.toNatClampNeg ((v2 * 40) + v4_8)))) h _ _ hP hD hS _ (lv_sub hl [1, 2, 3, 4, 0] rfl)
  obtain ⟨k9, h⟩ := h
  exact LP8 k9 0 g_greatestNow g_leastNow h _ _ hP hD hS _ (lv_sub hl [2, 3, 4, 1, 0] rfl)
