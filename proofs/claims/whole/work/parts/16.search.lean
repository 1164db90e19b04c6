def lp_X2_layOutCode_141 (p_edges : Int32) (p_pairs : Int32) (p_bounds : Nat → Int32) (p_pairA : Nat → Int32) (p_pairB : Nat → Int32) (s_flag : Nat → Int32) (s_forbidding : Nat → Int32) (Q : Int32 → (Nat → Int32) → (Nat → Int32) → (Nat → Int32) → Prop) : Nat → Int32 → Int32 → (Nat → Int32) → Prop
  | 0, _, _, _ => False
  | n + 1, v2, s_codes, s_unit => (p_edges ≤ v2 → Q s_codes s_unit s_flag s_forbidding) ∧ (¬ p_edges ≤ v2 → vp_in v2 80 ∧ (((p_bounds (Int32.toNatClampNeg v2)) ≤ 0 → (lp_X2_layOutCode_141 p_edges p_pairs p_bounds p_pairA p_pairB s_flag s_forbidding Q n) (v2 + 1) s_codes s_unit) ∧ (¬ (p_bounds (Int32.toNatClampNeg v2)) ≤ 0 → vp_in v2 80 ∧ (vp_in v2 80 ∧ ((lp_X2_layOutCode_141 p_edges p_pairs p_bounds p_pairA p_pairB s_flag s_forbidding Q n) (v2 + 1) (s_codes * ((p_bounds (Int32.toNatClampNeg v2)) + 1)) (upd s_unit (Int32.toNatClampNeg v2) s_codes))))))
def lp_X2_layOutCode_75 (p_edges : Int32) (p_pairs : Int32) (s_codes : Int32) (p_bounds : Nat → Int32) (p_pairA : Nat → Int32) (p_pairB : Nat → Int32) (s_unit : Nat → Int32) (s_flag : Nat → Int32) (Q : Int32 → (Nat → Int32) → (Nat → Int32) → (Nat → Int32) → Prop) : Nat → Int32 → (Nat → Int32) → Prop
  | 0, _, _ => False
  | n + 1, v2, s_forbidding => (p_pairs ≤ v2 → ∃ k141, lp_X2_layOutCode_141 p_edges p_pairs p_bounds p_pairA p_pairB s_flag s_forbidding Q k141 0 s_codes s_unit) ∧ (¬ p_pairs ≤ v2 → vp_in v2 3 ∧ (vp_in (p_pairA (Int32.toNatClampNeg v2)) 80 ∧ (vp_in v2 3 ∧ (vp_in (p_pairB (Int32.toNatClampNeg v2)) 80 ∧ (vp_in (p_pairA (Int32.toNatClampNeg v2)) 80 ∧ (vp_in v2 3 ∧ (vp_in (p_pairB (Int32.toNatClampNeg v2)) 80 ∧ (vp_in v2 3 ∧ (vp_in (p_pairA (Int32.toNatClampNeg v2)) 80 ∧ (vp_in (p_pairB (Int32.toNatClampNeg v2)) 80 ∧ ((lp_X2_layOutCode_75 p_edges p_pairs s_codes p_bounds p_pairA p_pairB s_unit s_flag Q n) (v2 + 1) (upd (upd s_forbidding (Int32.toNatClampNeg (p_pairA (Int32.toNatClampNeg v2))) ((s_forbidding (Int32.toNatClampNeg (p_pairA (Int32.toNatClampNeg v2)))) ||| (s_flag (Int32.toNatClampNeg (p_pairB (Int32.toNatClampNeg v2)))))) (Int32.toNatClampNeg (p_pairB (Int32.toNatClampNeg v2))) (((upd s_forbidding (Int32.toNatClampNeg (p_pairA (Int32.toNatClampNeg v2))) ((s_forbidding (Int32.toNatClampNeg (p_pairA (Int32.toNatClampNeg v2)))) ||| (s_flag (Int32.toNatClampNeg (p_pairB (Int32.toNatClampNeg v2)))))) (Int32.toNatClampNeg (p_pairB (Int32.toNatClampNeg v2)))) ||| (s_flag (Int32.toNatClampNeg (p_pairA (Int32.toNatClampNeg v2)))))))))))))))))
def lp_X2_layOutCode_31 (p_edges : Int32) (p_pairs : Int32) (p_bounds : Nat → Int32) (p_pairA : Nat → Int32) (p_pairB : Nat → Int32) (s_unit : Nat → Int32) (s_forbidding : Nat → Int32) (Q : Int32 → (Nat → Int32) → (Nat → Int32) → (Nat → Int32) → Prop) : Nat → Int32 → Int32 → (Nat → Int32) → Prop
  | 0, _, _, _ => False
  | n + 1, v2, s_codes, s_flag => (p_edges ≤ v2 → ∃ k75, lp_X2_layOutCode_75 p_edges p_pairs s_codes p_bounds p_pairA p_pairB s_unit s_flag Q k75 0 s_forbidding) ∧ (¬ p_edges ≤ v2 → wp_X2_isInPair v2 p_pairs p_pairA p_pairB (fun r_41 => (r_41 = 0 → (lp_X2_layOutCode_31 p_edges p_pairs p_bounds p_pairA p_pairB s_unit s_forbidding Q n) (v2 + 1) s_codes s_flag) ∧ (¬ r_41 = 0 → vp_in v2 80 ∧ ((lp_X2_layOutCode_31 p_edges p_pairs p_bounds p_pairA p_pairB s_unit s_forbidding Q n) (v2 + 1) (s_codes * 2) (upd s_flag (Int32.toNatClampNeg v2) s_codes)))))
def wp_X2_layOutCode (p_edges : Int32) (p_pairs : Int32) (s_codes : Int32) (p_bounds : Nat → Int32) (p_pairA : Nat → Int32) (p_pairB : Nat → Int32) (s_unit : Nat → Int32) (s_flag : Nat → Int32) (s_forbidding : Nat → Int32) (Q : Int32 → (Nat → Int32) → (Nat → Int32) → (Nat → Int32) → Prop) : Prop := ∃ k31, lp_X2_layOutCode_31 p_edges p_pairs p_bounds p_pairA p_pairB (filled s_unit 80 0) (filled s_forbidding 80 0) Q k31 0 1 (filled s_flag 80 0)
abbrev rm_X2_layOutCode : Room := { frames := 1, cells := 0, slots := 0, locals := 23 }
set_option maxHeartbeats 4000000 in
set_option maxRecDepth 100000 in
theorem c_X2_layOutCode (l : Launch) (D : va_G) (a : Nat → Nat) (cI : ClassId) (cZ : ClassId) (cJ : ClassId) (sz : Nat) (x_agesStand : Int32) (x_searchStands : Int32) (p_blocks : Int32) (p_lines : Int32) (p_edges : Int32) (p_pairs : Int32) (g_sets : Int32) (g_size : Int32) (g_penalty : Int32) (g_comeCount : Int32) (s_answered : Int32) (s_codes : Int32) (s_ordered : Int32) (p_times : Nat → Int32) (p_touchCounts : Nat → Int32) (p_touchSlots : Nat → Int32) (p_lineOfSlot : Nat → Int32) (p_from : Nat → Int32) (p_to : Nat → Int32) (p_bounds : Nat → Int32) (p_pairA : Nat → Int32) (p_pairB : Nat → Int32) (p_leaving : Nat → Int32) (p_firstLeaving : Nat → Int32) (g_come : Nat → Int32) (g_outcomes : Nat → Int32) (g_greatestTimes : Nat → Int32) (g_leastTimes : Nat → Int32) (g_changed : Nat → Int32) (g_greatest : Nat → Int32) (g_least : Nat → Int32) (g_greatestNow : Nat → Int32) (g_leastNow : Nat → Int32) (s_order : Nat → Int32) (s_arriving : Nat → Int32) (s_unit : Nat → Int32) (s_flag : Nat → Int32) (s_forbidding : Nat → Int32) (s_most : Nat → Int64) (s_fewest : Nat → Int64) (Q : Int32 → (Nat → Int32) → (Nat → Int32) → (Nat → Int32) → Prop) (h : wp_X2_layOutCode p_edges p_pairs s_codes p_bounds p_pairA p_pairB s_unit s_flag s_forbidding Q) : Met l yX2_layOutCode wsX2_layOutCode rm_X2_layOutCode (va_Pc [.ref (a 3), .ref (a 1)] (inW D cI cZ cJ sz (wC a cI cZ cJ x_agesStand x_searchStands p_blocks p_lines p_edges p_pairs g_sets g_size g_penalty g_comeCount s_answered s_codes s_ordered p_times p_touchCounts p_touchSlots p_lineOfSlot p_from p_to p_bounds p_pairA p_pairB p_leaving p_firstLeaving g_come g_outcomes g_greatestTimes g_leastTimes g_changed g_greatest g_least g_greatestNow g_leastNow s_order s_arriving s_unit s_flag s_forbidding s_most s_fewest))) (va_Qv (fun (u : Int32 × (Nat → Int32) × (Nat → Int32) × (Nat → Int32)) => Q u.1 u.2.1 u.2.2.1 u.2.2.2) (fun (u : Int32 × (Nat → Int32) × (Nat → Int32) × (Nat → Int32)) => outW D cI cZ cJ (va_A (wC a cI cZ cJ x_agesStand x_searchStands p_blocks p_lines p_edges p_pairs g_sets g_size g_penalty g_comeCount s_answered s_codes s_ordered p_times p_touchCounts p_touchSlots p_lineOfSlot p_from p_to p_bounds p_pairA p_pairB p_leaving p_firstLeaving g_come g_outcomes g_greatestTimes g_leastTimes g_changed g_greatest g_least g_greatestNow g_leastNow s_order s_arriving s_unit s_flag s_forbidding s_most s_fewest) sz) (wC a cI cZ cJ x_agesStand x_searchStands p_blocks p_lines p_edges p_pairs g_sets g_size g_penalty g_comeCount s_answered u.1 s_ordered p_times p_touchCounts p_touchSlots p_lineOfSlot p_from p_to p_bounds p_pairA p_pairB p_leaving p_firstLeaving g_come g_outcomes g_greatestTimes g_leastTimes g_changed g_greatest g_least g_greatestNow g_leastNow s_order s_arriving u.2.1 u.2.2.1 u.2.2.2 s_most s_fewest)) (va_A (wC a cI cZ cJ x_agesStand x_searchStands p_blocks p_lines p_edges p_pairs g_sets g_size g_penalty g_comeCount s_answered s_codes s_ordered p_times p_touchCounts p_touchSlots p_lineOfSlot p_from p_to p_bounds p_pairA p_pairB p_leaving p_firstLeaving g_come g_outcomes g_greatestTimes g_leastTimes g_changed g_greatest g_least g_greatestNow g_leastNow s_order s_arriving s_unit s_flag s_forbidding s_most s_fewest) sz)) 0 0 (va_A (wC a cI cZ cJ x_agesStand x_searchStands p_blocks p_lines p_edges p_pairs g_sets g_size g_penalty g_comeCount s_answered s_codes s_ordered p_times p_touchCounts p_touchSlots p_lineOfSlot p_from p_to p_bounds p_pairA p_pairB p_leaving p_firstLeaving g_come g_outcomes g_greatestTimes g_leastTimes g_changed g_greatest g_least g_greatestNow g_leastNow s_order s_arriving s_unit s_flag s_forbidding s_most s_fewest) sz) := by
  refine Met.ofW (cc := cX2_layOutCode) (maxL := 3) (ret := none) (by decide +kernel) rfl ?_
  intro p e s m args below meth c s₁ B hml hv
  obtain ⟨rfl, hsz, hP, hK, hD0⟩ := hv
  have hx := B.exec
  have hb := B.bytes
  have hr := B.returns
  have hts := atoms_spec (ws := wsX2_layOutCode) B.pre
  have hown : s.vm.findClass RX2 = some m.cls := findClass_of_methodNamed B.named
  have hlocks := B.notSynchronized
  have hinX1 : ∀ w ∈ wsX10, w ∈ wsX2_layOutCode := by decide +kernel
  have hinX2 : ∀ w ∈ wsX20, w ∈ wsX2_layOutCode := by decide +kernel
  subst hsz
  have hD := hD0.self (sz := s.heap.size)
  generalize hAe : va_A (wC a cI cZ cJ x_agesStand x_searchStands p_blocks p_lines p_edges p_pairs g_sets g_size g_penalty g_comeCount s_answered s_codes s_ordered p_times p_touchCounts p_touchSlots p_lineOfSlot p_from p_to p_bounds p_pairA p_pairB p_leaving p_firstLeaving g_come g_outcomes g_greatestTimes g_leastTimes g_changed g_greatest g_least g_greatestNow g_leastNow s_order s_arriving s_unit s_flag s_forbidding s_most s_fewest) s.heap.size = A at hD ⊢
  have hA : ∀ q : Nat, s.heap.size ≤ q → A q := fun q h => by rw [← hAe]; exact Or.inr h
  have hS : va_S A s.heap s.heap [] := va_S.rf
  have hP : va_P D vwCl (wC a cI cZ cJ x_agesStand x_searchStands p_blocks p_lines p_edges p_pairs g_sets g_size g_penalty g_comeCount s_answered s_codes s_ordered p_times p_touchCounts p_touchSlots p_lineOfSlot p_from p_to p_bounds p_pairA p_pairB p_leaving p_firstLeaving g_come g_outcomes g_greatestTimes g_leastTimes g_changed g_greatest g_least g_greatestNow g_leastNow s_order s_arriving s_unit s_flag s_forbidding s_most s_fewest) s.heap := hP
  have hl := lv_entry ([.ref (a 3), .ref (a 1)]) (n := 3) (Nat.le_of_ble_eq_true rfl)
  rw [lg_entry_eq]
  generalize (lg_sl ([.ref (a 3), .ref (a 1)]) ++ List.replicate (3 - (lg_sl ([.ref (a 3), .ref (a 1)])).length) Slot.unset).toArray = ls at hl ⊢
  have hl : lv_has ls 3 [(0, .ref (a 3)), (1, .ref (a 1))] := hl
  refine wz_abs (fun Qz hQz => ?_)
  unfold wp_X2_layOutCode at h
  refine lv_aload_n hx hb dX2_layOutCode_0 rfl (lv_at hl 0 rfl) ?_
  refine va_get (D := D) (ci := 2) (v := .ref (a 26)) (C := RX2) (T := TX2) (N := 10) hx hb hts hinX2 hown hK hP 3 rfl rfl 5 (by decide) (hts (.fieldLink RX2 18 "WorstPaths$Search" "unit" "[I") (by decide +kernel)) (fun _ h9 => h9) rfl dX2_layOutCode_1 ?_
  refine lv_iconst (v := 0) hx hb dX2_layOutCode_4 (by decide) ?_
  have hF := wz_free hD hS hA
  refine va_callv (va_runS (As := [.ref (a 26), .int 0]) (rest := []) ⟨hx, hb, hml, hown, hts⟩ (c_fill l D cI cZ cJ _ (wC a cI cZ cJ x_agesStand x_searchStands p_blocks p_lines p_edges p_pairs g_sets g_size g_penalty g_comeCount s_answered s_codes s_ordered p_times p_touchCounts p_touchSlots p_lineOfSlot p_from p_to p_bounds p_pairA p_pairB p_leaving p_firstLeaving g_come g_outcomes g_greatestTimes g_leastTimes g_changed g_greatest g_least g_greatestNow g_leastNow s_order s_arriving s_unit s_flag s_forbidding s_most s_fewest) 26 (a 26) 80 s_unit 0 (by decide) rfl) (va_cwS 2 hts gX2_layOutCode_J7_fill_53178 rfl rfl rfl (by decide +kernel) ⟨Nat.le_of_ble_eq_true rfl, Nat.le_of_ble_eq_true rfl⟩) ⟨wz_blind, fun U hU hW => wz_at hU hW hP hK hD⟩ rfl rfl hl.1 rfl (lv_room (Nat.le_of_ble_eq_true rfl)) dX2_layOutCode_5 ⟨Nat.zero_le _, Nat.zero_le _⟩) hS (fun q _ hq => hF q hq) hF (fun u t H locs ht hvm hw hB hz1 hk1 hS => ?_)
  obtain ⟨hP, -, hD⟩ := wz_back ht hF hB
  have hP : va_P D vwCl (wC a cI cZ cJ x_agesStand x_searchStands p_blocks p_lines p_edges p_pairs g_sets g_size g_penalty g_comeCount s_answered s_codes s_ordered p_times p_touchCounts p_touchSlots p_lineOfSlot p_from p_to p_bounds p_pairA p_pairB p_leaving p_firstLeaving g_come g_outcomes g_greatestTimes g_leastTimes g_changed g_greatest g_least g_greatestNow g_leastNow s_order s_arriving (filled s_unit 80 0) s_flag s_forbidding s_most s_fewest) H := hP
  have hD : va_D A (wC a cI cZ cJ x_agesStand x_searchStands p_blocks p_lines p_edges p_pairs g_sets g_size g_penalty g_comeCount s_answered s_codes s_ordered p_times p_touchCounts p_touchSlots p_lineOfSlot p_from p_to p_bounds p_pairA p_pairB p_leaving p_firstLeaving g_come g_outcomes g_greatestTimes g_leastTimes g_changed g_greatest g_least g_greatestNow g_leastNow s_order s_arriving (filled s_unit 80 0) s_flag s_forbidding s_most s_fewest) := hD
  refine lv_aload_n hx hb dX2_layOutCode_8 rfl (lv_at hl 0 rfl) ?_
  refine va_get (D := D) (ci := 2) (v := .ref (a 27)) (C := RX2) (T := TX2) (N := 10) hx hb hts hinX2 hown hK hP 3 rfl rfl 6 (by decide) (hts (.fieldLink RX2 21 "WorstPaths$Search" "flag" "[I") (by decide +kernel)) (fun _ h9 => h9) rfl dX2_layOutCode_9 ?_
  refine lv_iconst (v := 0) hx hb dX2_layOutCode_12 (by decide) ?_
  have hF := wz_free hD hS hA
  refine va_callv (va_runS (As := [.ref (a 27), .int 0]) (rest := []) ⟨hx, hb, hml, hown, hts⟩ (c_fill l D cI cZ cJ _ (wC a cI cZ cJ x_agesStand x_searchStands p_blocks p_lines p_edges p_pairs g_sets g_size g_penalty g_comeCount s_answered s_codes s_ordered p_times p_touchCounts p_touchSlots p_lineOfSlot p_from p_to p_bounds p_pairA p_pairB p_leaving p_firstLeaving g_come g_outcomes g_greatestTimes g_leastTimes g_changed g_greatest g_least g_greatestNow g_leastNow s_order s_arriving (filled s_unit 80 0) s_flag s_forbidding s_most s_fewest) 27 (a 27) 80 s_flag 0 (by decide) rfl) (va_cwS 2 hts gX2_layOutCode_J7_fill_53178 rfl rfl rfl (by decide +kernel) ⟨Nat.le_of_ble_eq_true rfl, Nat.le_of_ble_eq_true rfl⟩) ⟨wz_blind, fun U hU hW => wz_at hU hW hP hK hD⟩ rfl rfl hl.1 rfl (lv_room (Nat.le_of_ble_eq_true rfl)) dX2_layOutCode_13 ⟨Nat.zero_le _, Nat.zero_le _⟩) hS (fun q _ hq => hF q hq) hF (fun u t H locs ht hvm hw hB hz1 hk1 hS => ?_)
  obtain ⟨hP, -, hD⟩ := wz_back ht hF hB
  have hP : va_P D vwCl (wC a cI cZ cJ x_agesStand x_searchStands p_blocks p_lines p_edges p_pairs g_sets g_size g_penalty g_comeCount s_answered s_codes s_ordered p_times p_touchCounts p_touchSlots p_lineOfSlot p_from p_to p_bounds p_pairA p_pairB p_leaving p_firstLeaving g_come g_outcomes g_greatestTimes g_leastTimes g_changed g_greatest g_least g_greatestNow g_leastNow s_order s_arriving (filled s_unit 80 0) (filled s_flag 80 0) s_forbidding s_most s_fewest) H := hP
  have hD : va_D A (wC a cI cZ cJ x_agesStand x_searchStands p_blocks p_lines p_edges p_pairs g_sets g_size g_penalty g_comeCount s_answered s_codes s_ordered p_times p_touchCounts p_touchSlots p_lineOfSlot p_from p_to p_bounds p_pairA p_pairB p_leaving p_firstLeaving g_come g_outcomes g_greatestTimes g_leastTimes g_changed g_greatest g_least g_greatestNow g_leastNow s_order s_arriving (filled s_unit 80 0) (filled s_flag 80 0) s_forbidding s_most s_fewest) := hD
  refine lv_aload_n hx hb dX2_layOutCode_16 rfl (lv_at hl 0 rfl) ?_
  refine va_get (D := D) (ci := 2) (v := .ref (a 28)) (C := RX2) (T := TX2) (N := 10) hx hb hts hinX2 hown hK hP 3 rfl rfl 7 (by decide) (hts (.fieldLink RX2 24 "WorstPaths$Search" "forbidding" "[I") (by decide +kernel)) (fun _ h9 => h9) rfl dX2_layOutCode_17 ?_
  refine lv_iconst (v := 0) hx hb dX2_layOutCode_20 (by decide) ?_
  have hF := wz_free hD hS hA
  refine va_callv (va_runS (As := [.ref (a 28), .int 0]) (rest := []) ⟨hx, hb, hml, hown, hts⟩ (c_fill l D cI cZ cJ _ (wC a cI cZ cJ x_agesStand x_searchStands p_blocks p_lines p_edges p_pairs g_sets g_size g_penalty g_comeCount s_answered s_codes s_ordered p_times p_touchCounts p_touchSlots p_lineOfSlot p_from p_to p_bounds p_pairA p_pairB p_leaving p_firstLeaving g_come g_outcomes g_greatestTimes g_leastTimes g_changed g_greatest g_least g_greatestNow g_leastNow s_order s_arriving (filled s_unit 80 0) (filled s_flag 80 0) s_forbidding s_most s_fewest) 28 (a 28) 80 s_forbidding 0 (by decide) rfl) (va_cwS 2 hts gX2_layOutCode_J7_fill_53178 rfl rfl rfl (by decide +kernel) ⟨Nat.le_of_ble_eq_true rfl, Nat.le_of_ble_eq_true rfl⟩) ⟨wz_blind, fun U hU hW => wz_at hU hW hP hK hD⟩ rfl rfl hl.1 rfl (lv_room (Nat.le_of_ble_eq_true rfl)) dX2_layOutCode_21 ⟨Nat.zero_le _, Nat.zero_le _⟩) hS (fun q _ hq => hF q hq) hF (fun u t H locs ht hvm hw hB hz1 hk1 hS => ?_)
  obtain ⟨hP, -, hD⟩ := wz_back ht hF hB
  have hP : va_P D vwCl (wC a cI cZ cJ x_agesStand x_searchStands p_blocks p_lines p_edges p_pairs g_sets g_size g_penalty g_comeCount s_answered s_codes s_ordered p_times p_touchCounts p_touchSlots p_lineOfSlot p_from p_to p_bounds p_pairA p_pairB p_leaving p_firstLeaving g_come g_outcomes g_greatestTimes g_leastTimes g_changed g_greatest g_least g_greatestNow g_leastNow s_order s_arriving (filled s_unit 80 0) (filled s_flag 80 0) (filled s_forbidding 80 0) s_most s_fewest) H := hP
  have hD : va_D A (wC a cI cZ cJ x_agesStand x_searchStands p_blocks p_lines p_edges p_pairs g_sets g_size g_penalty g_comeCount s_answered s_codes s_ordered p_times p_touchCounts p_touchSlots p_lineOfSlot p_from p_to p_bounds p_pairA p_pairB p_leaving p_firstLeaving g_come g_outcomes g_greatestTimes g_leastTimes g_changed g_greatest g_least g_greatestNow g_leastNow s_order s_arriving (filled s_unit 80 0) (filled s_flag 80 0) (filled s_forbidding 80 0) s_most s_fewest) := hD
  refine lv_aload_n hx hb dX2_layOutCode_24 rfl (lv_at hl 0 rfl) ?_
  refine lv_iconst (v := 1) hx hb dX2_layOutCode_25 (by decide) ?_
  refine va_put (D := D) (ci := 2) (v := .int 1) (ty := .int) (C := RX2) (T := TX2) (N := 10) hx hb hts hinX2 tyX2 tyX2_ok nmX2 hown hK hP hD hS 3 rfl rfl 1 (by decide) (hts (.fieldLink RX2 119 "WorstPaths$Search" "codes" "I") (by decide +kernel)) (fun _ h9 => h9) rfl (by decide +kernel) rfl rfl (Nat.le_of_ble_eq_true rfl) dX2_layOutCode_26 (fun H locs hP hD hS => ?_)
  have hP : va_P D vwCl (wC a cI cZ cJ x_agesStand x_searchStands p_blocks p_lines p_edges p_pairs g_sets g_size g_penalty g_comeCount s_answered 1 s_ordered p_times p_touchCounts p_touchSlots p_lineOfSlot p_from p_to p_bounds p_pairA p_pairB p_leaving p_firstLeaving g_come g_outcomes g_greatestTimes g_leastTimes g_changed g_greatest g_least g_greatestNow g_leastNow s_order s_arriving (filled s_unit 80 0) (filled s_flag 80 0) (filled s_forbidding 80 0) s_most s_fewest) H := hP
  have hD : va_D A (wC a cI cZ cJ x_agesStand x_searchStands p_blocks p_lines p_edges p_pairs g_sets g_size g_penalty g_comeCount s_answered 1 s_ordered p_times p_touchCounts p_touchSlots p_lineOfSlot p_from p_to p_bounds p_pairA p_pairB p_leaving p_firstLeaving g_come g_outcomes g_greatestTimes g_leastTimes g_changed g_greatest g_least g_greatestNow g_leastNow s_order s_arriving (filled s_unit 80 0) (filled s_flag 80 0) (filled s_forbidding 80 0) s_most s_fewest) := hD
  refine lv_iconst (v := 0) hx hb dX2_layOutCode_29 (by decide) ?_
  refine lv_istore_n (lv' := [(2, .int 0), (0, .ref (a 3)), (1, .ref (a 1))]) hx hb dX2_layOutCode_30 rfl hl (by decide) rfl (fun ls hl => ?_)
  have LP31 : ∀ (n31 : Nat) (v2_31 : Int32) (s_codes_31 : Int32) (s_flag_31 : Nat → Int32), lp_X2_layOutCode_31 p_edges p_pairs p_bounds p_pairA p_pairB (filled s_unit 80 0) (filled s_forbidding 80 0) Q n31 v2_31 s_codes_31 s_flag_31 → ∀ (H : Heap) (locs : List Loc), va_P D vwCl (wC a cI cZ cJ x_agesStand x_searchStands p_blocks p_lines p_edges p_pairs g_sets g_size g_penalty g_comeCount s_answered s_codes_31 s_ordered p_times p_touchCounts p_touchSlots p_lineOfSlot p_from p_to p_bounds p_pairA p_pairB p_leaving p_firstLeaving g_come g_outcomes g_greatestTimes g_leastTimes g_changed g_greatest g_least g_greatestNow g_leastNow s_order s_arriving (filled s_unit 80 0) s_flag_31 (filled s_forbidding 80 0) s_most s_fewest) H → va_D A (wC a cI cZ cJ x_agesStand x_searchStands p_blocks p_lines p_edges p_pairs g_sets g_size g_penalty g_comeCount s_answered s_codes_31 s_ordered p_times p_touchCounts p_touchSlots p_lineOfSlot p_from p_to p_bounds p_pairA p_pairB p_leaving p_firstLeaving g_come g_outcomes g_greatestTimes g_leastTimes g_changed g_greatest g_least g_greatestNow g_leastNow s_order s_arriving (filled s_unit 80 0) s_flag_31 (filled s_forbidding 80 0) s_most s_fewest) → va_S A s.heap H locs → ∀ (ls : Array Slot), lv_has ls 3 [(0, .ref (a 3)), (1, .ref (a 1)), (2, .int v2_31)] → W p l e (headSpec wsX2_layOutCode rm_X2_layOutCode).room s m ([Value.ref (a 3), Value.ref (a 1)] : List Value).toArray below meth c H locs 0 0 Qz (F0 m 31 ls []) := by
    intro n31
    induction n31 with
    | zero => intro v2_31 s_codes_31 s_flag_31 h; exact h.elim
    | succ n31 ih31 =>
      intro v2_31 s_codes_31 s_flag_31 h H locs hP hD hS ls hl
      unfold lp_X2_layOutCode_31 at h
      refine lv_iload_n hx hb dX2_layOutCode_31 rfl (lv_at hl 2 rfl) ?_
      refine lv_aload_n hx hb dX2_layOutCode_32 rfl (lv_at hl 1 rfl) ?_
      refine va_get (D := D) (ci := 1) (v := .int p_edges) (C := RX1) (T := TX1) (N := 15) hx hb hts hinX1 hown hK hP 1 rfl rfl 2 (by decide) (hts (.fieldLink RX2 63 "WorstPaths$Program" "edges" "I") (by decide +kernel)) (fun _ h9 => h9) rfl dX2_layOutCode_33 ?_
      refine lv_icmp_ge (tgt := 73) hx hb dX2_layOutCode_36 (by decide) (fun hc => ?_) (fun hc => ?_)
      · replace h := h.1 hc
        refine lv_iconst (v := 0) hx hb dX2_layOutCode_73 (by decide) ?_
        refine lv_istore_n (lv' := [(2, .int 0), (0, .ref (a 3)), (1, .ref (a 1))]) hx hb dX2_layOutCode_74 rfl hl (by decide) rfl (fun ls hl => ?_)
        have LP75 : ∀ (n75 : Nat) (v2_75 : Int32) (s_forbidding_75 : Nat → Int32), lp_X2_layOutCode_75 p_edges p_pairs s_codes_31 p_bounds p_pairA p_pairB (filled s_unit 80 0) s_flag_31 Q n75 v2_75 s_forbidding_75 → ∀ (H : Heap) (locs : List Loc), va_P D vwCl (wC a cI cZ cJ x_agesStand x_searchStands p_blocks p_lines p_edges p_pairs g_sets g_size g_penalty g_comeCount s_answered s_codes_31 s_ordered p_times p_touchCounts p_touchSlots p_lineOfSlot p_from p_to p_bounds p_pairA p_pairB p_leaving p_firstLeaving g_come g_outcomes g_greatestTimes g_leastTimes g_changed g_greatest g_least g_greatestNow g_leastNow s_order s_arriving (filled s_unit 80 0) s_flag_31 s_forbidding_75 s_most s_fewest) H → va_D A (wC a cI cZ cJ x_agesStand x_searchStands p_blocks p_lines p_edges p_pairs g_sets g_size g_penalty g_comeCount s_answered s_codes_31 s_ordered p_times p_touchCounts p_touchSlots p_lineOfSlot p_from p_to p_bounds p_pairA p_pairB p_leaving p_firstLeaving g_come g_outcomes g_greatestTimes g_leastTimes g_changed g_greatest g_least g_greatestNow g_leastNow s_order s_arriving (filled s_unit 80 0) s_flag_31 s_forbidding_75 s_most s_fewest) → va_S A s.heap H locs → ∀ (ls : Array Slot), lv_has ls 3 [(0, .ref (a 3)), (1, .ref (a 1)), (2, .int v2_75)] → W p l e (headSpec wsX2_layOutCode rm_X2_layOutCode).room s m ([Value.ref (a 3), Value.ref (a 1)] : List Value).toArray below meth c H locs 0 0 Qz (F0 m 75 ls []) := by
          intro n75
          induction n75 with
          | zero => intro v2_75 s_forbidding_75 h; exact h.elim
          | succ n75 ih75 =>
            intro v2_75 s_forbidding_75 h H locs hP hD hS ls hl
            unfold lp_X2_layOutCode_75 at h
            refine lv_iload_n hx hb dX2_layOutCode_75 rfl (lv_at hl 2 rfl) ?_
            refine lv_aload_n hx hb dX2_layOutCode_76 rfl (lv_at hl 1 rfl) ?_
            refine va_get (D := D) (ci := 1) (v := .int p_pairs) (C := RX1) (T := TX1) (N := 15) hx hb hts hinX1 hown hK hP 1 rfl rfl 3 (by decide) (hts (.fieldLink RX2 73 "WorstPaths$Program" "pairs" "I") (by decide +kernel)) (fun _ h9 => h9) rfl dX2_layOutCode_77 ?_
            refine lv_icmp_ge (tgt := 139) hx hb dX2_layOutCode_80 (by decide) (fun hc => ?_) (fun hc => ?_)
            · replace h := h.1 hc
              refine lv_iconst (v := 0) hx hb dX2_layOutCode_139 (by decide) ?_
              refine lv_istore_n (lv' := [(2, .int 0), (0, .ref (a 3)), (1, .ref (a 1))]) hx hb dX2_layOutCode_140 rfl hl (by decide) rfl (fun ls hl => ?_)
              have LP141 : ∀ (n141 : Nat) (v2_141 : Int32) (s_codes_141 : Int32) (s_unit_141 : Nat → Int32), lp_X2_layOutCode_141 p_edges p_pairs p_bounds p_pairA p_pairB s_flag_31 s_forbidding_75 Q n141 v2_141 s_codes_141 s_unit_141 → ∀ (H : Heap) (locs : List Loc), va_P D vwCl (wC a cI cZ cJ x_agesStand x_searchStands p_blocks p_lines p_edges p_pairs g_sets g_size g_penalty g_comeCount s_answered s_codes_141 s_ordered p_times p_touchCounts p_touchSlots p_lineOfSlot p_from p_to p_bounds p_pairA p_pairB p_leaving p_firstLeaving g_come g_outcomes g_greatestTimes g_leastTimes g_changed g_greatest g_least g_greatestNow g_leastNow s_order s_arriving s_unit_141 s_flag_31 s_forbidding_75 s_most s_fewest) H → va_D A (wC a cI cZ cJ x_agesStand x_searchStands p_blocks p_lines p_edges p_pairs g_sets g_size g_penalty g_comeCount s_answered s_codes_141 s_ordered p_times p_touchCounts p_touchSlots p_lineOfSlot p_from p_to p_bounds p_pairA p_pairB p_leaving p_firstLeaving g_come g_outcomes g_greatestTimes g_leastTimes g_changed g_greatest g_least g_greatestNow g_leastNow s_order s_arriving s_unit_141 s_flag_31 s_forbidding_75 s_most s_fewest) → va_S A s.heap H locs → ∀ (ls : Array Slot), lv_has ls 3 [(0, .ref (a 3)), (1, .ref (a 1)), (2, .int v2_141)] → W p l e (headSpec wsX2_layOutCode rm_X2_layOutCode).room s m ([Value.ref (a 3), Value.ref (a 1)] : List Value).toArray below meth c H locs 0 0 Qz (F0 m 141 ls []) := by
                intro n141
                induction n141 with
                | zero => intro v2_141 s_codes_141 s_unit_141 h; exact h.elim
                | succ n141 ih141 =>
                  intro v2_141 s_codes_141 s_unit_141 h H locs hP hD hS ls hl
                  unfold lp_X2_layOutCode_141 at h
                  refine lv_iload_n hx hb dX2_layOutCode_141 rfl (lv_at hl 2 rfl) ?_
                  refine lv_aload_n hx hb dX2_layOutCode_142 rfl (lv_at hl 1 rfl) ?_
                  refine va_get (D := D) (ci := 1) (v := .int p_edges) (C := RX1) (T := TX1) (N := 15) hx hb hts hinX1 hown hK hP 1 rfl rfl 2 (by decide) (hts (.fieldLink RX2 63 "WorstPaths$Program" "edges" "I") (by decide +kernel)) (fun _ h9 => h9) rfl dX2_layOutCode_143 ?_
                  refine lv_icmp_ge (tgt := 191) hx hb dX2_layOutCode_146 (by decide) (fun hc => ?_) (fun hc => ?_)
                  · replace h := h.1 hc
                    refine wz_mono hQz ?_
                    exact W.vret hx hb hr (fun t ht hW => ⟨⟨(s_codes_141, s_unit_141, s_flag_31, s_forbidding_75), rfl, h, by rw [ht]; exact hP, va_K.moved hW.alike hK, hD⟩, hS.F ht⟩) hS.2.2 dX2_layOutCode_191
                  · replace h := h.2 hc
                    refine lv_aload_n hx hb dX2_layOutCode_149 rfl (lv_at hl 1 rfl) ?_
                    refine va_get (D := D) (ci := 1) (v := .ref (a 10)) (C := RX1) (T := TX1) (N := 15) hx hb hts hinX1 hown hK hP 1 rfl rfl 10 (by decide) (hts (.fieldLink RX2 66 "WorstPaths$Program" "bounds" "[I") (by decide +kernel)) (fun _ h9 => h9) rfl dX2_layOutCode_150 ?_
                    refine lv_iload_n hx hb dX2_layOutCode_153 rfl (lv_at hl 2 rfl) ?_
                    obtain ⟨hq, h⟩ := h
                    refine va_iald (D := D) hx hb hK hP 10 0 rfl rfl hq dX2_layOutCode_154 ?_
                    refine lv_if_le (tgt := 185) hx hb dX2_layOutCode_155 (by decide) (fun hc => ?_) (fun hc => ?_)
                    · replace h := h.1 hc
                      refine lv_iinc (v := (v2_141 + 1)) (lv' := [(2, .int (v2_141 + 1)), (0, .ref (a 3)), (1, .ref (a 1))]) hx hb dX2_layOutCode_185 hl (k := 2) rfl rfl (by decide) rfl (fun ls hl => ?_)
                      refine lv_goto (tgt := 141) hx hb dX2_layOutCode_188 (by decide) ?_
                      exact ih141 (v2_141 + 1) s_codes_141 s_unit_141 h _ _ hP hD hS _ (lv_sub hl [1, 2, 0] rfl)
                    · replace h := h.2 hc
                      refine lv_aload_n hx hb dX2_layOutCode_158 rfl (lv_at hl 0 rfl) ?_
                      refine va_get (D := D) (ci := 2) (v := .ref (a 26)) (C := RX2) (T := TX2) (N := 10) hx hb hts hinX2 hown hK hP 3 rfl rfl 5 (by decide) (hts (.fieldLink RX2 18 "WorstPaths$Search" "unit" "[I") (by decide +kernel)) (fun _ h9 => h9) rfl dX2_layOutCode_159 ?_
                      refine lv_iload_n hx hb dX2_layOutCode_162 rfl (lv_at hl 2 rfl) ?_
                      refine lv_aload_n hx hb dX2_layOutCode_163 rfl (lv_at hl 0 rfl) ?_
                      refine va_get (D := D) (ci := 2) (v := .int s_codes_141) (C := RX2) (T := TX2) (N := 10) hx hb hts hinX2 hown hK hP 3 rfl rfl 1 (by decide) (hts (.fieldLink RX2 119 "WorstPaths$Search" "codes" "I") (by decide +kernel)) (fun _ h9 => h9) rfl dX2_layOutCode_164 ?_
                      obtain ⟨hq, h⟩ := h
                      refine va_iast (D := D) hx hb hK hP hD hS 26 0 rfl rfl hq dX2_layOutCode_167 (fun H locs hP hD hS => ?_)
                      have hP : va_P D vwCl (wC a cI cZ cJ x_agesStand x_searchStands p_blocks p_lines p_edges p_pairs g_sets g_size g_penalty g_comeCount s_answered s_codes_141 s_ordered p_times p_touchCounts p_touchSlots p_lineOfSlot p_from p_to p_bounds p_pairA p_pairB p_leaving p_firstLeaving g_come g_outcomes g_greatestTimes g_leastTimes g_changed g_greatest g_least g_greatestNow g_leastNow s_order s_arriving (upd s_unit_141 (Int32.toNatClampNeg v2_141) s_codes_141) s_flag_31 s_forbidding_75 s_most s_fewest) H := hP
                      have hD : va_D A (wC a cI cZ cJ x_agesStand x_searchStands p_blocks p_lines p_edges p_pairs g_sets g_size g_penalty g_comeCount s_answered s_codes_141 s_ordered p_times p_touchCounts p_touchSlots p_lineOfSlot p_from p_to p_bounds p_pairA p_pairB p_leaving p_firstLeaving g_come g_outcomes g_greatestTimes g_leastTimes g_changed g_greatest g_least g_greatestNow g_leastNow s_order s_arriving (upd s_unit_141 (Int32.toNatClampNeg v2_141) s_codes_141) s_flag_31 s_forbidding_75 s_most s_fewest) := hD
                      refine lv_aload_n hx hb dX2_layOutCode_168 rfl (lv_at hl 0 rfl) ?_
                      refine lv_dup hx hb dX2_layOutCode_169 rfl ?_
                      refine va_get (D := D) (ci := 2) (v := .int s_codes_141) (C := RX2) (T := TX2) (N := 10) hx hb hts hinX2 hown hK hP 3 rfl rfl 1 (by decide) (hts (.fieldLink RX2 119 "WorstPaths$Search" "codes" "I") (by decide +kernel)) (fun _ h9 => h9) rfl dX2_layOutCode_170 ?_
                      refine lv_aload_n hx hb dX2_layOutCode_173 rfl (lv_at hl 1 rfl) ?_
                      refine va_get (D := D) (ci := 1) (v := .ref (a 10)) (C := RX1) (T := TX1) (N := 15) hx hb hts hinX1 hown hK hP 1 rfl rfl 10 (by decide) (hts (.fieldLink RX2 66 "WorstPaths$Program" "bounds" "[I") (by decide +kernel)) (fun _ h9 => h9) rfl dX2_layOutCode_174 ?_
                      refine lv_iload_n hx hb dX2_layOutCode_177 rfl (lv_at hl 2 rfl) ?_
                      obtain ⟨hq, h⟩ := h
                      refine va_iald (D := D) hx hb hK hP 10 0 rfl rfl hq dX2_layOutCode_178 ?_
                      refine lv_iconst (v := 1) hx hb dX2_layOutCode_179 (by decide) ?_
                      refine lv_iadd hx hb dX2_layOutCode_180 ?_
                      refine lv_imul hx hb dX2_layOutCode_181 ?_
                      refine va_put (D := D) (ci := 2) (v := .int (s_codes_141 * ((p_bounds (Int32.toNatClampNeg v2_141)) + 1))) (ty := .int) (C := RX2) (T := TX2) (N := 10) hx hb hts hinX2 tyX2 tyX2_ok nmX2 hown hK hP hD hS 3 rfl rfl 1 (by decide) (hts (.fieldLink RX2 119 "WorstPaths$Search" "codes" "I") (by decide +kernel)) (fun _ h9 => h9) rfl (by decide +kernel) rfl rfl (Nat.le_of_ble_eq_true rfl) dX2_layOutCode_182 (fun H locs hP hD hS => ?_)
                      have hP : va_P D vwCl (wC a cI cZ cJ x_agesStand x_searchStands p_blocks p_lines p_edges p_pairs g_sets g_size g_penalty g_comeCount s_answered (s_codes_141 * ((p_bounds (Int32.toNatClampNeg v2_141)) + 1)) s_ordered p_times p_touchCounts p_touchSlots p_lineOfSlot p_from p_to p_bounds p_pairA p_pairB p_leaving p_firstLeaving g_come g_outcomes g_greatestTimes g_leastTimes g_changed g_greatest g_least g_greatestNow g_leastNow s_order s_arriving (upd s_unit_141 (Int32.toNatClampNeg v2_141) s_codes_141) s_flag_31 s_forbidding_75 s_most s_fewest) H := hP
                      have hD : va_D A (wC a cI cZ cJ x_agesStand x_searchStands p_blocks p_lines p_edges p_pairs g_sets g_size g_penalty g_comeCount s_answered (s_codes_141 * ((p_bounds (Int32.toNatClampNeg v2_141)) + 1)) s_ordered p_times p_touchCounts p_touchSlots p_lineOfSlot p_from p_to p_bounds p_pairA p_pairB p_leaving p_firstLeaving g_come g_outcomes g_greatestTimes g_leastTimes g_changed g_greatest g_least g_greatestNow g_leastNow s_order s_arriving (upd s_unit_141 (Int32.toNatClampNeg v2_141) s_codes_141) s_flag_31 s_forbidding_75 s_most s_fewest) := hD
                      refine lv_iinc (v := (v2_141 + 1)) (lv' := [(2, .int (v2_141 + 1)), (0, .ref (a 3)), (1, .ref (a 1))]) hx hb dX2_layOutCode_185 hl (k := 2) rfl rfl (by decide) rfl (fun ls hl => ?_)
                      refine lv_goto (tgt := 141) hx hb dX2_layOutCode_188 (by decide) ?_
                      exact ih141 (v2_141 + 1) (s_codes_141 * ((p_bounds (Int32.toNatClampNeg v2_141)) + 1)) (upd s_unit_141 (Int32.toNatClampNeg v2_141) s_codes_141) h _ _ hP hD hS _ (lv_sub hl [1, 2, 0] rfl)
              obtain ⟨k9, h⟩ := h
              exact LP141 k9 0 s_codes_31 (filled s_unit 80 0) h _ _ hP hD hS _ (lv_sub hl [1, 2, 0] rfl)
            · replace h := h.2 hc
              refine lv_aload_n hx hb dX2_layOutCode_83 rfl (lv_at hl 0 rfl) ?_
              refine va_get (D := D) (ci := 2) (v := .ref (a 28)) (C := RX2) (T := TX2) (N := 10) hx hb hts hinX2 hown hK hP 3 rfl rfl 7 (by decide) (hts (.fieldLink RX2 24 "WorstPaths$Search" "forbidding" "[I") (by decide +kernel)) (fun _ h9 => h9) rfl dX2_layOutCode_84 ?_
              refine lv_aload_n hx hb dX2_layOutCode_87 rfl (lv_at hl 1 rfl) ?_
              refine va_get (D := D) (ci := 1) (v := .ref (a 11)) (C := RX1) (T := TX1) (N := 15) hx hb hts hinX1 hown hK hP 1 rfl rfl 11 (by decide) (hts (.fieldLink RX2 76 "WorstPaths$Program" "pairA" "[I") (by decide +kernel)) (fun _ h9 => h9) rfl dX2_layOutCode_88 ?_
              refine lv_iload_n hx hb dX2_layOutCode_91 rfl (lv_at hl 2 rfl) ?_
              obtain ⟨hq, h⟩ := h
              refine va_iald (D := D) hx hb hK hP 11 0 rfl rfl hq dX2_layOutCode_92 ?_
              refine lv_dup2_11 hx hb dX2_layOutCode_93 rfl rfl ?_
              obtain ⟨hq, h⟩ := h
              refine va_iald (D := D) hx hb hK hP 28 0 rfl rfl hq dX2_layOutCode_94 ?_
              refine lv_aload_n hx hb dX2_layOutCode_95 rfl (lv_at hl 0 rfl) ?_
              refine va_get (D := D) (ci := 2) (v := .ref (a 27)) (C := RX2) (T := TX2) (N := 10) hx hb hts hinX2 hown hK hP 3 rfl rfl 6 (by decide) (hts (.fieldLink RX2 21 "WorstPaths$Search" "flag" "[I") (by decide +kernel)) (fun _ h9 => h9) rfl dX2_layOutCode_96 ?_
              refine lv_aload_n hx hb dX2_layOutCode_99 rfl (lv_at hl 1 rfl) ?_
              refine va_get (D := D) (ci := 1) (v := .ref (a 12)) (C := RX1) (T := TX1) (N := 15) hx hb hts hinX1 hown hK hP 1 rfl rfl 12 (by decide) (hts (.fieldLink RX2 79 "WorstPaths$Program" "pairB" "[I") (by decide +kernel)) (fun _ h9 => h9) rfl dX2_layOutCode_100 ?_
              refine lv_iload_n hx hb dX2_layOutCode_103 rfl (lv_at hl 2 rfl) ?_
              obtain ⟨hq, h⟩ := h
              refine va_iald (D := D) hx hb hK hP 12 0 rfl rfl hq dX2_layOutCode_104 ?_
              obtain ⟨hq, h⟩ := h
              refine va_iald (D := D) hx hb hK hP 27 0 rfl rfl hq dX2_layOutCode_105 ?_
              refine lv_ior hx hb dX2_layOutCode_106 ?_
              obtain ⟨hq, h⟩ := h
              refine va_iast (D := D) hx hb hK hP hD hS 28 0 rfl rfl hq dX2_layOutCode_107 (fun H locs hP hD hS => ?_)
              have hP : va_P D vwCl (wC a cI cZ cJ x_agesStand x_searchStands p_blocks p_lines p_edges p_pairs g_sets g_size g_penalty g_comeCount s_answered s_codes_31 s_ordered p_times p_touchCounts p_touchSlots p_lineOfSlot p_from p_to p_bounds p_pairA p_pairB p_leaving p_firstLeaving g_come g_outcomes g_greatestTimes g_leastTimes g_changed g_greatest g_least g_greatestNow g_leastNow s_order s_arriving (filled s_unit 80 0) s_flag_31 (upd s_forbidding_75 (Int32.toNatClampNeg (p_pairA (Int32.toNatClampNeg v2_75))) ((s_forbidding_75 (Int32.toNatClampNeg (p_pairA (Int32.toNatClampNeg v2_75)))) ||| (s_flag_31 (Int32.toNatClampNeg (p_pairB (Int32.toNatClampNeg v2_75)))))) s_most s_fewest) H := hP
              have hD : va_D A (wC a cI cZ cJ x_agesStand x_searchStands p_blocks p_lines p_edges p_pairs g_sets g_size g_penalty g_comeCount s_answered s_codes_31 s_ordered p_times p_touchCounts p_touchSlots p_lineOfSlot p_from p_to p_bounds p_pairA p_pairB p_leaving p_firstLeaving g_come g_outcomes g_greatestTimes g_leastTimes g_changed g_greatest g_least g_greatestNow g_leastNow s_order s_arriving (filled s_unit 80 0) s_flag_31 (upd s_forbidding_75 (Int32.toNatClampNeg (p_pairA (Int32.toNatClampNeg v2_75))) ((s_forbidding_75 (Int32.toNatClampNeg (p_pairA (Int32.toNatClampNeg v2_75)))) ||| (s_flag_31 (Int32.toNatClampNeg (p_pairB (Int32.toNatClampNeg v2_75)))))) s_most s_fewest) := hD
              refine lv_aload_n hx hb dX2_layOutCode_108 rfl (lv_at hl 0 rfl) ?_
              refine va_get (D := D) (ci := 2) (v := .ref (a 28)) (C := RX2) (T := TX2) (N := 10) hx hb hts hinX2 hown hK hP 3 rfl rfl 7 (by decide) (hts (.fieldLink RX2 24 "WorstPaths$Search" "forbidding" "[I") (by decide +kernel)) (fun _ h9 => h9) rfl dX2_layOutCode_109 ?_
              refine lv_aload_n hx hb dX2_layOutCode_112 rfl (lv_at hl 1 rfl) ?_
              refine va_get (D := D) (ci := 1) (v := .ref (a 12)) (C := RX1) (T := TX1) (N := 15) hx hb hts hinX1 hown hK hP 1 rfl rfl 12 (by decide) (hts (.fieldLink RX2 79 "WorstPaths$Program" "pairB" "[I") (by decide +kernel)) (fun _ h9 => h9) rfl dX2_layOutCode_113 ?_
              refine lv_iload_n hx hb dX2_layOutCode_116 rfl (lv_at hl 2 rfl) ?_
              obtain ⟨hq, h⟩ := h
              refine va_iald (D := D) hx hb hK hP 12 0 rfl rfl hq dX2_layOutCode_117 ?_
              refine lv_dup2_11 hx hb dX2_layOutCode_118 rfl rfl ?_
              obtain ⟨hq, h⟩ := h
              refine va_iald (D := D) hx hb hK hP 28 0 rfl rfl hq dX2_layOutCode_119 ?_
              refine lv_aload_n hx hb dX2_layOutCode_120 rfl (lv_at hl 0 rfl) ?_
              refine va_get (D := D) (ci := 2) (v := .ref (a 27)) (C := RX2) (T := TX2) (N := 10) hx hb hts hinX2 hown hK hP 3 rfl rfl 6 (by decide) (hts (.fieldLink RX2 21 "WorstPaths$Search" "flag" "[I") (by decide +kernel)) (fun _ h9 => h9) rfl dX2_layOutCode_121 ?_
              refine lv_aload_n hx hb dX2_layOutCode_124 rfl (lv_at hl 1 rfl) ?_
              refine va_get (D := D) (ci := 1) (v := .ref (a 11)) (C := RX1) (T := TX1) (N := 15) hx hb hts hinX1 hown hK hP 1 rfl rfl 11 (by decide) (hts (.fieldLink RX2 76 "WorstPaths$Program" "pairA" "[I") (by decide +kernel)) (fun _ h9 => h9) rfl dX2_layOutCode_125 ?_
              refine lv_iload_n hx hb dX2_layOutCode_128 rfl (lv_at hl 2 rfl) ?_
              obtain ⟨hq, h⟩ := h
              refine va_iald (D := D) hx hb hK hP 11 0 rfl rfl hq dX2_layOutCode_129 ?_
              obtain ⟨hq, h⟩ := h
              refine va_iald (D := D) hx hb hK hP 27 0 rfl rfl hq dX2_layOutCode_130 ?_
              refine lv_ior hx hb dX2_layOutCode_131 ?_
              obtain ⟨hq, h⟩ := h
              refine va_iast (D := D) hx hb hK hP hD hS 28 0 rfl rfl hq dX2_layOutCode_132 (fun H locs hP hD hS => ?_)
              have hP : va_P D vwCl (wC a cI cZ cJ x_agesStand x_searchStands p_blocks p_lines p_edges p_pairs g_sets g_size g_penalty g_comeCount s_answered s_codes_31 s_ordered p_times p_touchCounts p_touchSlots p_lineOfSlot p_from p_to p_bounds p_pairA p_pairB p_leaving p_firstLeaving g_come g_outcomes g_greatestTimes g_leastTimes g_changed g_greatest g_least g_greatestNow g_leastNow s_order s_arriving (filled s_unit 80 0) s_flag_31 (upd (upd s_forbidding_75 (Int32.toNatClampNeg (p_pairA (Int32.toNatClampNeg v2_75))) ((s_forbidding_75 (Int32.toNatClampNeg (p_pairA (Int32.toNatClampNeg v2_75)))) ||| (s_flag_31 (Int32.toNatClampNeg (p_pairB (Int32.toNatClampNeg v2_75)))))) (Int32.toNatClampNeg (p_pairB (Int32.toNatClampNeg v2_75))) (((upd s_forbidding_75 (Int32.toNatClampNeg (p_pairA (Int32.toNatClampNeg v2_75))) ((s_forbidding_75 (Int32.toNatClampNeg (p_pairA (Int32.toNatClampNeg v2_75)))) ||| (s_flag_31 (Int32.toNatClampNeg (p_pairB (Int32.toNatClampNeg v2_75)))))) (Int32.toNatClampNeg (p_pairB (Int32.toNatClampNeg v2_75)))) ||| (s_flag_31 (Int32.toNatClampNeg (p_pairA (Int32.toNatClampNeg v2_75)))))) s_most s_fewest) H := hP
              have hD : va_D A (wC a cI cZ cJ x_agesStand x_searchStands p_blocks p_lines p_edges p_pairs g_sets g_size g_penalty g_comeCount s_answered s_codes_31 s_ordered p_times p_touchCounts p_touchSlots p_lineOfSlot p_from p_to p_bounds p_pairA p_pairB p_leaving p_firstLeaving g_come g_outcomes g_greatestTimes g_leastTimes g_changed g_greatest g_least g_greatestNow g_leastNow s_order s_arriving (filled s_unit 80 0) s_flag_31 (upd (upd s_forbidding_75 (Int32.toNatClampNeg (p_pairA (Int32.toNatClampNeg v2_75))) ((s_forbidding_75 (Int32.toNatClampNeg (p_pairA (Int32.toNatClampNeg v2_75)))) ||| (s_flag_31 (Int32.toNatClampNeg (p_pairB (Int32.toNatClampNeg v2_75)))))) (Int32.toNatClampNeg (p_pairB (Int32.toNatClampNeg v2_75))) (((upd s_forbidding_75 (Int32.toNatClampNeg (p_pairA (Int32.toNatClampNeg v2_75))) ((s_forbidding_75 (Int32.toNatClampNeg (p_pairA (Int32.toNatClampNeg v2_75)))) ||| (s_flag_31 (Int32.toNatClampNeg (p_pairB (Int32.toNatClampNeg v2_75)))))) (Int32.toNatClampNeg (p_pairB (Int32.toNatClampNeg v2_75)))) ||| (s_flag_31 (Int32.toNatClampNeg (p_pairA (Int32.toNatClampNeg v2_75)))))) s_most s_fewest) := hD
              refine lv_iinc (v := (v2_75 + 1)) (lv' := [(2, .int (v2_75 + 1)), (0, .ref (a 3)), (1, .ref (a 1))]) hx hb dX2_layOutCode_133 hl (k := 2) rfl rfl (by decide) rfl (fun ls hl => ?_)
              refine lv_goto (tgt := 75) hx hb dX2_layOutCode_136 (by decide) ?_
              exact ih75 (v2_75 + 1) (upd (upd s_forbidding_75 (Int32.toNatClampNeg (p_pairA (Int32.toNatClampNeg v2_75))) ((s_forbidding_75 (Int32.toNatClampNeg (p_pairA (Int32.toNatClampNeg v2_75)))) ||| (s_flag_31 (Int32.toNatClampNeg (p_pairB (Int32.toNatClampNeg v2_75)))))) (Int32.toNatClampNeg (p_pairB (Int32.toNatClampNeg v2_75))) (((upd s_forbidding_75 (Int32.toNatClampNeg (p_pairA (Int32.toNatClampNeg v2_75))) ((s_forbidding_75 (Int32.toNatClampNeg (p_pairA (Int32.toNatClampNeg v2_75)))) ||| (s_flag_31 (Int32.toNatClampNeg (p_pairB (Int32.toNatClampNeg v2_75)))))) (Int32.toNatClampNeg (p_pairB (Int32.toNatClampNeg v2_75)))) ||| (s_flag_31 (Int32.toNatClampNeg (p_pairA (Int32.toNatClampNeg v2_75)))))) h _ _ hP hD hS _ (lv_sub hl [1, 2, 0] rfl)
        obtain ⟨k9, h⟩ := h
        exact LP75 k9 0 (filled s_forbidding 80 0) h _ _ hP hD hS _ (lv_sub hl [1, 2, 0] rfl)
      · replace h := h.2 hc
        refine lv_aload_n hx hb dX2_layOutCode_39 rfl (lv_at hl 1 rfl) ?_
        refine lv_iload_n hx hb dX2_layOutCode_40 rfl (lv_at hl 2 rfl) ?_
        have hF := wz_free hD hS hA
        refine va_calli (va_runS (As := [.ref (a 1), .int v2_31]) (rest := []) ⟨hx, hb, hml, hown, hts⟩ (c_X2_isInPair l D a cI cZ cJ _ x_agesStand x_searchStands p_blocks p_lines p_edges p_pairs g_sets g_size g_penalty g_comeCount s_answered s_codes_31 s_ordered p_times p_touchCounts p_touchSlots p_lineOfSlot p_from p_to p_bounds p_pairA p_pairB p_leaving p_firstLeaving g_come g_outcomes g_greatestTimes g_leastTimes g_changed g_greatest g_least g_greatestNow g_leastNow s_order s_arriving (filled s_unit 80 0) s_flag_31 (filled s_forbidding 80 0) s_most s_fewest v2_31 _ h) (va_cwS 2 hts gX2_layOutCode_X2_isInPair rfl rfl rfl (by decide +kernel) ⟨Nat.le_of_ble_eq_true rfl, Nat.le_of_ble_eq_true rfl⟩) ⟨wz_blind, fun U hU hW => wz_at hU hW hP hK hD⟩ rfl rfl hl.1 rfl (lv_room (Nat.le_of_ble_eq_true rfl)) dX2_layOutCode_41 ⟨Nat.zero_le _, Nat.zero_le _⟩) hS (fun q _ hq => hF q hq) hF (fun r_41 u t H locs ht hvm h hB hz1 hk1 hS => ?_)
        obtain ⟨hP, -, hD⟩ := wz_back ht hF hB
        have hP : va_P D vwCl (wC a cI cZ cJ x_agesStand x_searchStands p_blocks p_lines p_edges p_pairs g_sets g_size g_penalty g_comeCount s_answered s_codes_31 s_ordered p_times p_touchCounts p_touchSlots p_lineOfSlot p_from p_to p_bounds p_pairA p_pairB p_leaving p_firstLeaving g_come g_outcomes g_greatestTimes g_leastTimes g_changed g_greatest g_least g_greatestNow g_leastNow s_order s_arriving (filled s_unit 80 0) s_flag_31 (filled s_forbidding 80 0) s_most s_fewest) H := hP
        have hD : va_D A (wC a cI cZ cJ x_agesStand x_searchStands p_blocks p_lines p_edges p_pairs g_sets g_size g_penalty g_comeCount s_answered s_codes_31 s_ordered p_times p_touchCounts p_touchSlots p_lineOfSlot p_from p_to p_bounds p_pairA p_pairB p_leaving p_firstLeaving g_come g_outcomes g_greatestTimes g_leastTimes g_changed g_greatest g_least g_greatestNow g_leastNow s_order s_arriving (filled s_unit 80 0) s_flag_31 (filled s_forbidding 80 0) s_most s_fewest) := hD
        refine lv_if_eq (tgt := 67) hx hb dX2_layOutCode_44 (by decide) (fun hc => ?_) (fun hc => ?_)
        · replace h := h.1 hc
          refine lv_iinc (v := (v2_31 + 1)) (lv' := [(2, .int (v2_31 + 1)), (0, .ref (a 3)), (1, .ref (a 1))]) hx hb dX2_layOutCode_67 hl (k := 2) rfl rfl (by decide) rfl (fun ls hl => ?_)
          refine lv_goto (tgt := 31) hx hb dX2_layOutCode_70 (by decide) ?_
          exact ih31 (v2_31 + 1) s_codes_31 s_flag_31 h _ _ hP hD hS _ (lv_sub hl [1, 2, 0] rfl)
        · replace h := h.2 hc
          refine lv_aload_n hx hb dX2_layOutCode_47 rfl (lv_at hl 0 rfl) ?_
          refine va_get (D := D) (ci := 2) (v := .ref (a 27)) (C := RX2) (T := TX2) (N := 10) hx hb hts hinX2 hown hK hP 3 rfl rfl 6 (by decide) (hts (.fieldLink RX2 21 "WorstPaths$Search" "flag" "[I") (by decide +kernel)) (fun _ h9 => h9) rfl dX2_layOutCode_48 ?_
          refine lv_iload_n hx hb dX2_layOutCode_51 rfl (lv_at hl 2 rfl) ?_
          refine lv_aload_n hx hb dX2_layOutCode_52 rfl (lv_at hl 0 rfl) ?_
          refine va_get (D := D) (ci := 2) (v := .int s_codes_31) (C := RX2) (T := TX2) (N := 10) hx hb hts hinX2 hown hK hP 3 rfl rfl 1 (by decide) (hts (.fieldLink RX2 119 "WorstPaths$Search" "codes" "I") (by decide +kernel)) (fun _ h9 => h9) rfl dX2_layOutCode_53 ?_
          obtain ⟨hq, h⟩ := h
          refine va_iast (D := D) hx hb hK hP hD hS 27 0 rfl rfl hq dX2_layOutCode_56 (fun H locs hP hD hS => ?_)
          have hP : va_P D vwCl (wC a cI cZ cJ x_agesStand x_searchStands p_blocks p_lines p_edges p_pairs g_sets g_size g_penalty g_comeCount s_answered s_codes_31 s_ordered p_times p_touchCounts p_touchSlots p_lineOfSlot p_from p_to p_bounds p_pairA p_pairB p_leaving p_firstLeaving g_come g_outcomes g_greatestTimes g_leastTimes g_changed g_greatest g_least g_greatestNow g_leastNow s_order s_arriving (filled s_unit 80 0) (upd s_flag_31 (Int32.toNatClampNeg v2_31) s_codes_31) (filled s_forbidding 80 0) s_most s_fewest) H := hP
          have hD : va_D A (wC a cI cZ cJ x_agesStand x_searchStands p_blocks p_lines p_edges p_pairs g_sets g_size g_penalty g_comeCount s_answered s_codes_31 s_ordered p_times p_touchCounts p_touchSlots p_lineOfSlot p_from p_to p_bounds p_pairA p_pairB p_leaving p_firstLeaving g_come g_outcomes g_greatestTimes g_leastTimes g_changed g_greatest g_least g_greatestNow g_leastNow s_order s_arriving (filled s_unit 80 0) (upd s_flag_31 (Int32.toNatClampNeg v2_31) s_codes_31) (filled s_forbidding 80 0) s_most s_fewest) := hD
          refine lv_aload_n hx hb dX2_layOutCode_57 rfl (lv_at hl 0 rfl) ?_
          refine lv_dup hx hb dX2_layOutCode_58 rfl ?_
          refine va_get (D := D) (ci := 2) (v := .int s_codes_31) (C := RX2) (T := TX2) (N := 10) hx hb hts hinX2 hown hK hP 3 rfl rfl 1 (by decide) (hts (.fieldLink RX2 119 "WorstPaths$Search" "codes" "I") (by decide +kernel)) (fun _ h9 => h9) rfl dX2_layOutCode_59 ?_
          refine lv_iconst (v := 2) hx hb dX2_layOutCode_62 (by decide) ?_
          refine lv_imul hx hb dX2_layOutCode_63 ?_
          refine va_put (D := D) (ci := 2) (v := .int (s_codes_31 * 2)) (ty := .int) (C := RX2) (T := TX2) (N := 10) hx hb hts hinX2 tyX2 tyX2_ok nmX2 hown hK hP hD hS 3 rfl rfl 1 (by decide) (hts (.fieldLink RX2 119 "WorstPaths$Search" "codes" "I") (by decide +kernel)) (fun _ h9 => h9) rfl (by decide +kernel) rfl rfl (Nat.le_of_ble_eq_true rfl) dX2_layOutCode_64 (fun H locs hP hD hS => ?_)
          have hP : va_P D vwCl (wC a cI cZ cJ x_agesStand x_searchStands p_blocks p_lines p_edges p_pairs g_sets g_size g_penalty g_comeCount s_answered (s_codes_31 * 2) s_ordered p_times p_touchCounts p_touchSlots p_lineOfSlot p_from p_to p_bounds p_pairA p_pairB p_leaving p_firstLeaving g_come g_outcomes g_greatestTimes g_leastTimes g_changed g_greatest g_least g_greatestNow g_leastNow s_order s_arriving (filled s_unit 80 0) (upd s_flag_31 (Int32.toNatClampNeg v2_31) s_codes_31) (filled s_forbidding 80 0) s_most s_fewest) H := hP
          have hD : va_D A (wC a cI cZ cJ x_agesStand x_searchStands p_blocks p_lines p_edges p_pairs g_sets g_size g_penalty g_comeCount s_answered (s_codes_31 * 2) s_ordered p_times p_touchCounts p_touchSlots p_lineOfSlot p_from p_to p_bounds p_pairA p_pairB p_leaving p_firstLeaving g_come g_outcomes g_greatestTimes g_leastTimes g_changed g_greatest g_least g_greatestNow g_leastNow s_order s_arriving (filled s_unit 80 0) (upd s_flag_31 (Int32.toNatClampNeg v2_31) s_codes_31) (filled s_forbidding 80 0) s_most s_fewest) := hD
          refine lv_iinc (v := (v2_31 + 1)) (lv' := [(2, .int (v2_31 + 1)), (0, .ref (a 3)), (1, .ref (a 1))]) hx hb dX2_layOutCode_67 hl (k := 2) rfl rfl (by decide) rfl (fun ls hl => ?_)
          refine lv_goto (tgt := 31) hx hb dX2_layOutCode_70 (by decide) ?_
          exact ih31 (v2_31 + 1) (s_codes_31 * 2) (upd s_flag_31 (Int32.toNatClampNeg v2_31) s_codes_31) h _ _ hP hD hS _ (lv_sub hl [1, 2, 0] rfl)
  obtain ⟨k9, h⟩ := h
  exact LP31 k9 0 1 (filled s_flag 80 0) h _ _ hP hD hS _ (lv_sub hl [1, 2, 0] rfl)
def jn_X2_codeBehind_60 (v2 : Int32) (v3 : Int32) (p_bounds : Nat → Int32) (s_unit : Nat → Int32) (s_flag : Nat → Int32) (s_forbidding : Nat → Int32) (Q : Int32 → Prop) : Prop := vp_in v2 80 ∧ (vp_in v2 80 ∧ (Q ((v3 ||| (s_flag (Int32.toNatClampNeg v2))) + (s_unit (Int32.toNatClampNeg v2)))))
def wp_X2_codeBehind (v2 : Int32) (v3 : Int32) (p_bounds : Nat → Int32) (s_unit : Nat → Int32) (s_flag : Nat → Int32) (s_forbidding : Nat → Int32) (Q : Int32 → Prop) : Prop := vp_in v2 80 ∧ (((p_bounds (Int32.toNatClampNeg v2)) = 0 → Q (-1)) ∧ (¬ (p_bounds (Int32.toNatClampNeg v2)) = 0 → vp_in v2 80 ∧ (((v3 &&& (s_forbidding (Int32.toNatClampNeg v2))) = 0 → ((p_bounds (Int32.toNatClampNeg v2)) ≤ 0 → jn_X2_codeBehind_60 v2 v3 p_bounds s_unit s_flag s_forbidding Q) ∧ (¬ (p_bounds (Int32.toNatClampNeg v2)) ≤ 0 → vp_in v2 80 ∧ (((s_unit (Int32.toNatClampNeg v2)) ≤ 0 → jn_X2_codeBehind_60 v2 v3 p_bounds s_unit s_flag s_forbidding Q) ∧ (¬ (s_unit (Int32.toNatClampNeg v2)) ≤ 0 → vp_in v2 80 ∧ ((¬ ((s_unit (Int32.toNatClampNeg v2)) : Int32) = 0) ∧ ((¬ (((p_bounds (Int32.toNatClampNeg v2)) + 1) : Int32) = 0) ∧ ((((v3 / (s_unit (Int32.toNatClampNeg v2))) - (v3 / (s_unit (Int32.toNatClampNeg v2))) / ((p_bounds (Int32.toNatClampNeg v2)) + 1) * ((p_bounds (Int32.toNatClampNeg v2)) + 1)) < (p_bounds (Int32.toNatClampNeg v2)) → jn_X2_codeBehind_60 v2 v3 p_bounds s_unit s_flag s_forbidding Q) ∧ (¬ ((v3 / (s_unit (Int32.toNatClampNeg v2))) - (v3 / (s_unit (Int32.toNatClampNeg v2))) / ((p_bounds (Int32.toNatClampNeg v2)) + 1) * ((p_bounds (Int32.toNatClampNeg v2)) + 1)) < (p_bounds (Int32.toNatClampNeg v2)) → Q (-1))))))))) ∧ (¬ (v3 &&& (s_forbidding (Int32.toNatClampNeg v2))) = 0 → Q (-1)))))
abbrev rm_X2_codeBehind : Room := { frames := 0, cells := 0, slots := 0, locals := 0 }
set_option maxHeartbeats 4000000 in
set_option maxRecDepth 100000 in
theorem c_X2_codeBehind (l : Launch) (D : va_G) (a : Nat → Nat) (cI : ClassId) (cZ : ClassId) (cJ : ClassId) (sz : Nat) (x_agesStand : Int32) (x_searchStands : Int32) (p_blocks : Int32) (p_lines : Int32) (p_edges : Int32) (p_pairs : Int32) (g_sets : Int32) (g_size : Int32) (g_penalty : Int32) (g_comeCount : Int32) (s_answered : Int32) (s_codes : Int32) (s_ordered : Int32) (p_times : Nat → Int32) (p_touchCounts : Nat → Int32) (p_touchSlots : Nat → Int32) (p_lineOfSlot : Nat → Int32) (p_from : Nat → Int32) (p_to : Nat → Int32) (p_bounds : Nat → Int32) (p_pairA : Nat → Int32) (p_pairB : Nat → Int32) (p_leaving : Nat → Int32) (p_firstLeaving : Nat → Int32) (g_come : Nat → Int32) (g_outcomes : Nat → Int32) (g_greatestTimes : Nat → Int32) (g_leastTimes : Nat → Int32) (g_changed : Nat → Int32) (g_greatest : Nat → Int32) (g_least : Nat → Int32) (g_greatestNow : Nat → Int32) (g_leastNow : Nat → Int32) (s_order : Nat → Int32) (s_arriving : Nat → Int32) (s_unit : Nat → Int32) (s_flag : Nat → Int32) (s_forbidding : Nat → Int32) (s_most : Nat → Int64) (s_fewest : Nat → Int64) (v2 : Int32) (v3 : Int32) (Q : Int32 → Prop) (h : wp_X2_codeBehind v2 v3 p_bounds s_unit s_flag s_forbidding Q) : Met l yX2_codeBehind wsX2_codeBehind rm_X2_codeBehind (va_Pc [.ref (a 3), .ref (a 1), .int v2, .int v3] (inW D cI cZ cJ sz (wC a cI cZ cJ x_agesStand x_searchStands p_blocks p_lines p_edges p_pairs g_sets g_size g_penalty g_comeCount s_answered s_codes s_ordered p_times p_touchCounts p_touchSlots p_lineOfSlot p_from p_to p_bounds p_pairA p_pairB p_leaving p_firstLeaving g_come g_outcomes g_greatestTimes g_leastTimes g_changed g_greatest g_least g_greatestNow g_leastNow s_order s_arriving s_unit s_flag s_forbidding s_most s_fewest))) (va_Qi (fun (r : Int32) (u : Unit) => Q r) (fun (u : Unit) => outW D cI cZ cJ (va_A (wC a cI cZ cJ x_agesStand x_searchStands p_blocks p_lines p_edges p_pairs g_sets g_size g_penalty g_comeCount s_answered s_codes s_ordered p_times p_touchCounts p_touchSlots p_lineOfSlot p_from p_to p_bounds p_pairA p_pairB p_leaving p_firstLeaving g_come g_outcomes g_greatestTimes g_leastTimes g_changed g_greatest g_least g_greatestNow g_leastNow s_order s_arriving s_unit s_flag s_forbidding s_most s_fewest) sz) (wC a cI cZ cJ x_agesStand x_searchStands p_blocks p_lines p_edges p_pairs g_sets g_size g_penalty g_comeCount s_answered s_codes s_ordered p_times p_touchCounts p_touchSlots p_lineOfSlot p_from p_to p_bounds p_pairA p_pairB p_leaving p_firstLeaving g_come g_outcomes g_greatestTimes g_leastTimes g_changed g_greatest g_least g_greatestNow g_leastNow s_order s_arriving s_unit s_flag s_forbidding s_most s_fewest)) (va_A (wC a cI cZ cJ x_agesStand x_searchStands p_blocks p_lines p_edges p_pairs g_sets g_size g_penalty g_comeCount s_answered s_codes s_ordered p_times p_touchCounts p_touchSlots p_lineOfSlot p_from p_to p_bounds p_pairA p_pairB p_leaving p_firstLeaving g_come g_outcomes g_greatestTimes g_leastTimes g_changed g_greatest g_least g_greatestNow g_leastNow s_order s_arriving s_unit s_flag s_forbidding s_most s_fewest) sz)) 0 0 (va_A (wC a cI cZ cJ x_agesStand x_searchStands p_blocks p_lines p_edges p_pairs g_sets g_size g_penalty g_comeCount s_answered s_codes s_ordered p_times p_touchCounts p_touchSlots p_lineOfSlot p_from p_to p_bounds p_pairA p_pairB p_leaving p_firstLeaving g_come g_outcomes g_greatestTimes g_leastTimes g_changed g_greatest g_least g_greatestNow g_leastNow s_order s_arriving s_unit s_flag s_forbidding s_most s_fewest) sz) := by
  refine Met.ofW (cc := cX2_codeBehind) (maxL := 5) (ret := (some .int)) (by decide +kernel) rfl ?_
  intro p e s m args below meth c s₁ B hml hv
  obtain ⟨rfl, hsz, hP, hK, hD0⟩ := hv
  have hx := B.exec
  have hb := B.bytes
  have hr := B.returns
  have hts := atoms_spec (ws := wsX2_codeBehind) B.pre
  have hown : s.vm.findClass RX2 = some m.cls := findClass_of_methodNamed B.named
  have hlocks := B.notSynchronized
  have hinX1 : ∀ w ∈ wsX10, w ∈ wsX2_codeBehind := by decide +kernel
  have hinX2 : ∀ w ∈ wsX20, w ∈ wsX2_codeBehind := by decide +kernel
  subst hsz
  have hD := hD0.self (sz := s.heap.size)
  generalize hAe : va_A (wC a cI cZ cJ x_agesStand x_searchStands p_blocks p_lines p_edges p_pairs g_sets g_size g_penalty g_comeCount s_answered s_codes s_ordered p_times p_touchCounts p_touchSlots p_lineOfSlot p_from p_to p_bounds p_pairA p_pairB p_leaving p_firstLeaving g_come g_outcomes g_greatestTimes g_leastTimes g_changed g_greatest g_least g_greatestNow g_leastNow s_order s_arriving s_unit s_flag s_forbidding s_most s_fewest) s.heap.size = A at hD ⊢
  have hA : ∀ q : Nat, s.heap.size ≤ q → A q := fun q h => by rw [← hAe]; exact Or.inr h
  have hS : va_S A s.heap s.heap [] := va_S.rf
  have hP : va_P D vwCl (wC a cI cZ cJ x_agesStand x_searchStands p_blocks p_lines p_edges p_pairs g_sets g_size g_penalty g_comeCount s_answered s_codes s_ordered p_times p_touchCounts p_touchSlots p_lineOfSlot p_from p_to p_bounds p_pairA p_pairB p_leaving p_firstLeaving g_come g_outcomes g_greatestTimes g_leastTimes g_changed g_greatest g_least g_greatestNow g_leastNow s_order s_arriving s_unit s_flag s_forbidding s_most s_fewest) s.heap := hP
  have hl := lv_entry ([.ref (a 3), .ref (a 1), .int v2, .int v3]) (n := 5) (Nat.le_of_ble_eq_true rfl)
  rw [lg_entry_eq]
  generalize (lg_sl ([.ref (a 3), .ref (a 1), .int v2, .int v3]) ++ List.replicate (5 - (lg_sl ([.ref (a 3), .ref (a 1), .int v2, .int v3])).length) Slot.unset).toArray = ls at hl ⊢
  have hl : lv_has ls 5 [(0, .ref (a 3)), (1, .ref (a 1)), (2, .int v2), (3, .int v3)] := hl
  refine wz_abs (fun Qz hQz => ?_)
  unfold wp_X2_codeBehind at h
  refine lv_aload_n hx hb dX2_codeBehind_0 rfl (lv_at hl 1 rfl) ?_
  refine va_get (D := D) (ci := 1) (v := .ref (a 10)) (C := RX1) (T := TX1) (N := 15) hx hb hts hinX1 hown hK hP 1 rfl rfl 10 (by decide) (hts (.fieldLink RX2 66 "WorstPaths$Program" "bounds" "[I") (by decide +kernel)) (fun _ h9 => h9) rfl dX2_codeBehind_1 ?_
  refine lv_iload_n hx hb dX2_codeBehind_4 rfl (lv_at hl 2 rfl) ?_
  obtain ⟨hq, h⟩ := h
  refine va_iald (D := D) hx hb hK hP 10 0 rfl rfl hq dX2_codeBehind_5 ?_
  refine lv_istore (lv' := [(4, .int (p_bounds (Int32.toNatClampNeg v2))), (0, .ref (a 3)), (1, .ref (a 1)), (2, .int v2), (3, .int v3)]) hx hb dX2_codeBehind_6 hl (by decide) rfl (fun ls hl => ?_)
  refine lv_iload hx hb dX2_codeBehind_8 (lv_at hl 0 rfl) ?_
  refine lv_if_eq (tgt := 24) hx hb dX2_codeBehind_10 (by decide) (fun hc => ?_) (fun hc => ?_)
  · replace h := h.1 hc
    refine lv_iconst (v := (-1)) hx hb dX2_codeBehind_24 (by decide) ?_
    refine wz_mono hQz ?_
    exact W.iret (v := (-1)) hx hb hr (fun t ht hW => ⟨⟨(-1), (), rfl, h, by rw [ht]; exact hP, va_K.moved hW.alike hK, hD⟩, hS.F ht⟩) hS.2.2 dX2_codeBehind_25
  · replace h := h.2 hc
    refine lv_iload_n hx hb dX2_codeBehind_13 rfl (lv_at hl 4 rfl) ?_
    refine lv_aload_n hx hb dX2_codeBehind_14 rfl (lv_at hl 1 rfl) ?_
    refine va_get (D := D) (ci := 2) (v := .ref (a 28)) (C := RX2) (T := TX2) (N := 10) hx hb hts hinX2 hown hK hP 3 rfl rfl 7 (by decide) (hts (.fieldLink RX2 24 "WorstPaths$Search" "forbidding" "[I") (by decide +kernel)) (fun _ h9 => h9) rfl dX2_codeBehind_15 ?_
    refine lv_iload_n hx hb dX2_codeBehind_18 rfl (lv_at hl 3 rfl) ?_
    obtain ⟨hq, h⟩ := h
    refine va_iald (D := D) hx hb hK hP 28 0 rfl rfl hq dX2_codeBehind_19 ?_
    refine lv_iand hx hb dX2_codeBehind_20 ?_
    refine lv_if_eq (tgt := 26) hx hb dX2_codeBehind_21 (by decide) (fun hc => ?_) (fun hc => ?_)
    · replace h := h.1 hc
      refine lv_iload hx hb dX2_codeBehind_26 (lv_at hl 0 rfl) ?_
      have JP60 : jn_X2_codeBehind_60 v2 v3 p_bounds s_unit s_flag s_forbidding Q → ∀ (H : Heap) (locs : List Loc), va_P D vwCl (wC a cI cZ cJ x_agesStand x_searchStands p_blocks p_lines p_edges p_pairs g_sets g_size g_penalty g_comeCount s_answered s_codes s_ordered p_times p_touchCounts p_touchSlots p_lineOfSlot p_from p_to p_bounds p_pairA p_pairB p_leaving p_firstLeaving g_come g_outcomes g_greatestTimes g_leastTimes g_changed g_greatest g_least g_greatestNow g_leastNow s_order s_arriving s_unit s_flag s_forbidding s_most s_fewest) H → va_D A (wC a cI cZ cJ x_agesStand x_searchStands p_blocks p_lines p_edges p_pairs g_sets g_size g_penalty g_comeCount s_answered s_codes s_ordered p_times p_touchCounts p_touchSlots p_lineOfSlot p_from p_to p_bounds p_pairA p_pairB p_leaving p_firstLeaving g_come g_outcomes g_greatestTimes g_leastTimes g_changed g_greatest g_least g_greatestNow g_leastNow s_order s_arriving s_unit s_flag s_forbidding s_most s_fewest) → va_S A s.heap H locs → ∀ (ls : Array Slot), lv_has ls 5 [(0, .ref (a 3)), (2, .int v2), (3, .int v3)] → W p l e (headSpec wsX2_codeBehind rm_X2_codeBehind).room s m ([Value.ref (a 3), Value.ref (a 1), Value.int v2, Value.int v3] : List Value).toArray below meth c H locs 0 0 Qz (F0 m 60 ls []) := by
        intro  h H locs hP hD hS ls hl
        unfold jn_X2_codeBehind_60 at h
        refine lv_iload_n hx hb dX2_codeBehind_60 rfl (lv_at hl 2 rfl) ?_
        refine lv_aload_n hx hb dX2_codeBehind_61 rfl (lv_at hl 0 rfl) ?_
        refine va_get (D := D) (ci := 2) (v := .ref (a 27)) (C := RX2) (T := TX2) (N := 10) hx hb hts hinX2 hown hK hP 3 rfl rfl 6 (by decide) (hts (.fieldLink RX2 21 "WorstPaths$Search" "flag" "[I") (by decide +kernel)) (fun _ h9 => h9) rfl dX2_codeBehind_62 ?_
        refine lv_iload_n hx hb dX2_codeBehind_65 rfl (lv_at hl 1 rfl) ?_
        obtain ⟨hq, h⟩ := h
        refine va_iald (D := D) hx hb hK hP 27 0 rfl rfl hq dX2_codeBehind_66 ?_
        refine lv_ior hx hb dX2_codeBehind_67 ?_
        refine lv_aload_n hx hb dX2_codeBehind_68 rfl (lv_at hl 0 rfl) ?_
        refine va_get (D := D) (ci := 2) (v := .ref (a 26)) (C := RX2) (T := TX2) (N := 10) hx hb hts hinX2 hown hK hP 3 rfl rfl 5 (by decide) (hts (.fieldLink RX2 18 "WorstPaths$Search" "unit" "[I") (by decide +kernel)) (fun _ h9 => h9) rfl dX2_codeBehind_69 ?_
        refine lv_iload_n hx hb dX2_codeBehind_72 rfl (lv_at hl 1 rfl) ?_
        obtain ⟨hq, h⟩ := h
        refine va_iald (D := D) hx hb hK hP 26 0 rfl rfl hq dX2_codeBehind_73 ?_
        refine lv_iadd hx hb dX2_codeBehind_74 ?_
        refine wz_mono hQz ?_
        exact W.iret (v := ((v3 ||| (s_flag (Int32.toNatClampNeg v2))) + (s_unit (Int32.toNatClampNeg v2)))) hx hb hr (fun t ht hW => ⟨⟨((v3 ||| (s_flag (Int32.toNatClampNeg v2))) + (s_unit (Int32.toNatClampNeg v2))), (), rfl, h, by rw [ht]; exact hP, va_K.moved hW.alike hK, hD⟩, hS.F ht⟩) hS.2.2 dX2_codeBehind_75
      refine lv_if_le (tgt := 60) hx hb dX2_codeBehind_28 (by decide) (fun hc => ?_) (fun hc => ?_)
      · replace h := h.1 hc
        exact JP60  h _ _ hP hD hS _ (lv_sub hl [1, 3, 4] rfl)
      · replace h := h.2 hc
        refine lv_aload_n hx hb dX2_codeBehind_31 rfl (lv_at hl 1 rfl) ?_
        refine va_get (D := D) (ci := 2) (v := .ref (a 26)) (C := RX2) (T := TX2) (N := 10) hx hb hts hinX2 hown hK hP 3 rfl rfl 5 (by decide) (hts (.fieldLink RX2 18 "WorstPaths$Search" "unit" "[I") (by decide +kernel)) (fun _ h9 => h9) rfl dX2_codeBehind_32 ?_
        refine lv_iload_n hx hb dX2_codeBehind_35 rfl (lv_at hl 3 rfl) ?_
        obtain ⟨hq, h⟩ := h
        refine va_iald (D := D) hx hb hK hP 26 0 rfl rfl hq dX2_codeBehind_36 ?_
        refine lv_if_le (tgt := 60) hx hb dX2_codeBehind_37 (by decide) (fun hc => ?_) (fun hc => ?_)
        · replace h := h.1 hc
          exact JP60  h _ _ hP hD hS _ (lv_sub hl [1, 3, 4] rfl)
        · replace h := h.2 hc
          refine lv_iload_n hx hb dX2_codeBehind_40 rfl (lv_at hl 4 rfl) ?_
          refine lv_aload_n hx hb dX2_codeBehind_41 rfl (lv_at hl 1 rfl) ?_
          refine va_get (D := D) (ci := 2) (v := .ref (a 26)) (C := RX2) (T := TX2) (N := 10) hx hb hts hinX2 hown hK hP 3 rfl rfl 5 (by decide) (hts (.fieldLink RX2 18 "WorstPaths$Search" "unit" "[I") (by decide +kernel)) (fun _ h9 => h9) rfl dX2_codeBehind_42 ?_
          refine lv_iload_n hx hb dX2_codeBehind_45 rfl (lv_at hl 3 rfl) ?_
          obtain ⟨hq, h⟩ := h
          refine va_iald (D := D) hx hb hK hP 26 0 rfl rfl hq dX2_codeBehind_46 ?_
          obtain ⟨hq, h⟩ := h
          refine lv_idiv hx hb dX2_codeBehind_47 hq ?_
          refine lv_iload hx hb dX2_codeBehind_48 (lv_at hl 0 rfl) ?_
          refine lv_iconst (v := 1) hx hb dX2_codeBehind_50 (by decide) ?_
          refine lv_iadd hx hb dX2_codeBehind_51 ?_
          obtain ⟨hq, h⟩ := h
          refine lv_irem hx hb dX2_codeBehind_52 hq ?_
          refine lv_iload hx hb dX2_codeBehind_53 (lv_at hl 0 rfl) ?_
          refine lv_icmp_lt (tgt := 60) hx hb dX2_codeBehind_55 (by decide) (fun hc => ?_) (fun hc => ?_)
          · replace h := h.1 hc
            exact JP60  h _ _ hP hD hS _ (lv_sub hl [1, 3, 4] rfl)
          · replace h := h.2 hc
            refine lv_iconst (v := (-1)) hx hb dX2_codeBehind_58 (by decide) ?_
            refine wz_mono hQz ?_
            exact W.iret (v := (-1)) hx hb hr (fun t ht hW => ⟨⟨(-1), (), rfl, h, by rw [ht]; exact hP, va_K.moved hW.alike hK, hD⟩, hS.F ht⟩) hS.2.2 dX2_codeBehind_59
    · replace h := h.2 hc
      refine lv_iconst (v := (-1)) hx hb dX2_codeBehind_24 (by decide) ?_
      refine wz_mono hQz ?_
      exact W.iret (v := (-1)) hx hb hr (fun t ht hW => ⟨⟨(-1), (), rfl, h, by rw [ht]; exact hP, va_K.moved hW.alike hK, hD⟩, hS.F ht⟩) hS.2.2 dX2_codeBehind_25
def wp_X2_stateBehind (v2 : Int32) (v3 : Int32) (p_blocks : Int32) (p_to : Nat → Int32) (p_bounds : Nat → Int32) (s_unit : Nat → Int32) (s_flag : Nat → Int32) (s_forbidding : Nat → Int32) (Q : Int32 → Prop) : Prop := wp_X2_codeBehind v2 v3 p_bounds s_unit s_flag s_forbidding (fun r_4 => (¬ r_4 = (-1) → vp_in v2 80 ∧ (Q ((r_4 * p_blocks) + (p_to (Int32.toNatClampNeg v2))))) ∧ (r_4 = (-1) → Q (-1)))
abbrev rm_X2_stateBehind : Room := { frames := 1, cells := 0, slots := 0, locals := 24 }
set_option maxHeartbeats 4000000 in
set_option maxRecDepth 100000 in
theorem c_X2_stateBehind (l : Launch) (D : va_G) (a : Nat → Nat) (cI : ClassId) (cZ : ClassId) (cJ : ClassId) (sz : Nat) (x_agesStand : Int32) (x_searchStands : Int32) (p_blocks : Int32) (p_lines : Int32) (p_edges : Int32) (p_pairs : Int32) (g_sets : Int32) (g_size : Int32) (g_penalty : Int32) (g_comeCount : Int32) (s_answered : Int32) (s_codes : Int32) (s_ordered : Int32) (p_times : Nat → Int32) (p_touchCounts : Nat → Int32) (p_touchSlots : Nat → Int32) (p_lineOfSlot : Nat → Int32) (p_from : Nat → Int32) (p_to : Nat → Int32) (p_bounds : Nat → Int32) (p_pairA : Nat → Int32) (p_pairB : Nat → Int32) (p_leaving : Nat → Int32) (p_firstLeaving : Nat → Int32) (g_come : Nat → Int32) (g_outcomes : Nat → Int32) (g_greatestTimes : Nat → Int32) (g_leastTimes : Nat → Int32) (g_changed : Nat → Int32) (g_greatest : Nat → Int32) (g_least : Nat → Int32) (g_greatestNow : Nat → Int32) (g_leastNow : Nat → Int32) (s_order : Nat → Int32) (s_arriving : Nat → Int32) (s_unit : Nat → Int32) (s_flag : Nat → Int32) (s_forbidding : Nat → Int32) (s_most : Nat → Int64) (s_fewest : Nat → Int64) (v2 : Int32) (v3 : Int32) (Q : Int32 → Prop) (h : wp_X2_stateBehind v2 v3 p_blocks p_to p_bounds s_unit s_flag s_forbidding Q) : Met l yX2_stateBehind wsX2_stateBehind rm_X2_stateBehind (va_Pc [.ref (a 3), .ref (a 1), .int v2, .int v3] (inW D cI cZ cJ sz (wC a cI cZ cJ x_agesStand x_searchStands p_blocks p_lines p_edges p_pairs g_sets g_size g_penalty g_comeCount s_answered s_codes s_ordered p_times p_touchCounts p_touchSlots p_lineOfSlot p_from p_to p_bounds p_pairA p_pairB p_leaving p_firstLeaving g_come g_outcomes g_greatestTimes g_leastTimes g_changed g_greatest g_least g_greatestNow g_leastNow s_order s_arriving s_unit s_flag s_forbidding s_most s_fewest))) (va_Qi (fun (r : Int32) (u : Unit) => Q r) (fun (u : Unit) => outW D cI cZ cJ (va_A (wC a cI cZ cJ x_agesStand x_searchStands p_blocks p_lines p_edges p_pairs g_sets g_size g_penalty g_comeCount s_answered s_codes s_ordered p_times p_touchCounts p_touchSlots p_lineOfSlot p_from p_to p_bounds p_pairA p_pairB p_leaving p_firstLeaving g_come g_outcomes g_greatestTimes g_leastTimes g_changed g_greatest g_least g_greatestNow g_leastNow s_order s_arriving s_unit s_flag s_forbidding s_most s_fewest) sz) (wC a cI cZ cJ x_agesStand x_searchStands p_blocks p_lines p_edges p_pairs g_sets g_size g_penalty g_comeCount s_answered s_codes s_ordered p_times p_touchCounts p_touchSlots p_lineOfSlot p_from p_to p_bounds p_pairA p_pairB p_leaving p_firstLeaving g_come g_outcomes g_greatestTimes g_leastTimes g_changed g_greatest g_least g_greatestNow g_leastNow s_order s_arriving s_unit s_flag s_forbidding s_most s_fewest)) (va_A (wC a cI cZ cJ x_agesStand x_searchStands p_blocks p_lines p_edges p_pairs g_sets g_size g_penalty g_comeCount s_answered s_codes s_ordered p_times p_touchCounts p_touchSlots p_lineOfSlot p_from p_to p_bounds p_pairA p_pairB p_leaving p_firstLeaving g_come g_outcomes g_greatestTimes g_leastTimes g_changed g_greatest g_least g_greatestNow g_leastNow s_order s_arriving s_unit s_flag s_forbidding s_most s_fewest) sz)) 0 0 (va_A (wC a cI cZ cJ x_agesStand x_searchStands p_blocks p_lines p_edges p_pairs g_sets g_size g_penalty g_comeCount s_answered s_codes s_ordered p_times p_touchCounts p_touchSlots p_lineOfSlot p_from p_to p_bounds p_pairA p_pairB p_leaving p_firstLeaving g_come g_outcomes g_greatestTimes g_leastTimes g_changed g_greatest g_least g_greatestNow g_leastNow s_order s_arriving s_unit s_flag s_forbidding s_most s_fewest) sz) := by
  refine Met.ofW (cc := cX2_stateBehind) (maxL := 5) (ret := (some .int)) (by decide +kernel) rfl ?_
  intro p e s m args below meth c s₁ B hml hv
  obtain ⟨rfl, hsz, hP, hK, hD0⟩ := hv
  have hx := B.exec
  have hb := B.bytes
  have hr := B.returns
  have hts := atoms_spec (ws := wsX2_stateBehind) B.pre
  have hown : s.vm.findClass RX2 = some m.cls := findClass_of_methodNamed B.named
  have hlocks := B.notSynchronized
  have hinX1 : ∀ w ∈ wsX10, w ∈ wsX2_stateBehind := by decide +kernel
  subst hsz
  have hD := hD0.self (sz := s.heap.size)
  generalize hAe : va_A (wC a cI cZ cJ x_agesStand x_searchStands p_blocks p_lines p_edges p_pairs g_sets g_size g_penalty g_comeCount s_answered s_codes s_ordered p_times p_touchCounts p_touchSlots p_lineOfSlot p_from p_to p_bounds p_pairA p_pairB p_leaving p_firstLeaving g_come g_outcomes g_greatestTimes g_leastTimes g_changed g_greatest g_least g_greatestNow g_leastNow s_order s_arriving s_unit s_flag s_forbidding s_most s_fewest) s.heap.size = A at hD ⊢
  have hA : ∀ q : Nat, s.heap.size ≤ q → A q := fun q h => by rw [← hAe]; exact Or.inr h
  have hS : va_S A s.heap s.heap [] := va_S.rf
  have hP : va_P D vwCl (wC a cI cZ cJ x_agesStand x_searchStands p_blocks p_lines p_edges p_pairs g_sets g_size g_penalty g_comeCount s_answered s_codes s_ordered p_times p_touchCounts p_touchSlots p_lineOfSlot p_from p_to p_bounds p_pairA p_pairB p_leaving p_firstLeaving g_come g_outcomes g_greatestTimes g_leastTimes g_changed g_greatest g_least g_greatestNow g_leastNow s_order s_arriving s_unit s_flag s_forbidding s_most s_fewest) s.heap := hP
  have hl := lv_entry ([.ref (a 3), .ref (a 1), .int v2, .int v3]) (n := 5) (Nat.le_of_ble_eq_true rfl)
  rw [lg_entry_eq]
  generalize (lg_sl ([.ref (a 3), .ref (a 1), .int v2, .int v3]) ++ List.replicate (5 - (lg_sl ([.ref (a 3), .ref (a 1), .int v2, .int v3])).length) Slot.unset).toArray = ls at hl ⊢
  have hl : lv_has ls 5 [(0, .ref (a 3)), (1, .ref (a 1)), (2, .int v2), (3, .int v3)] := hl
  refine wz_abs (fun Qz hQz => ?_)
  unfold wp_X2_stateBehind at h
  refine lv_aload_n hx hb dX2_stateBehind_0 rfl (lv_at hl 0 rfl) ?_
  refine lv_aload_n hx hb dX2_stateBehind_1 rfl (lv_at hl 1 rfl) ?_
  refine lv_iload_n hx hb dX2_stateBehind_2 rfl (lv_at hl 2 rfl) ?_
  refine lv_iload_n hx hb dX2_stateBehind_3 rfl (lv_at hl 3 rfl) ?_
  have hF := wz_free hD hS hA
  refine va_calli (va_runV (As := [.ref (a 1), .int v2, .int v3]) (rest := []) ⟨hx, hb, hml, hown, hts⟩ (c_X2_codeBehind l D a cI cZ cJ _ x_agesStand x_searchStands p_blocks p_lines p_edges p_pairs g_sets g_size g_penalty g_comeCount s_answered s_codes s_ordered p_times p_touchCounts p_touchSlots p_lineOfSlot p_from p_to p_bounds p_pairA p_pairB p_leaving p_firstLeaving g_come g_outcomes g_greatestTimes g_leastTimes g_changed g_greatest g_least g_greatestNow g_leastNow s_order s_arriving s_unit s_flag s_forbidding s_most s_fewest v2 v3 _ h) (cwV 3 hts gX2_stateBehind_X2_codeBehind rfl rfl rfl (by decide +kernel) ⟨Nat.le_of_ble_eq_true rfl, Nat.le_of_ble_eq_true rfl⟩) ⟨wz_blind, va_recv hK hP (ci := 2) (q0 := 3) rfl rfl, fun U hU hW => wz_at hU hW hP hK hD⟩ rfl rfl hl.1 rfl (lv_room (Nat.le_of_ble_eq_true rfl)) dX2_stateBehind_4 ⟨Nat.zero_le _, Nat.zero_le _⟩) hS (fun q _ hq => hF q hq) hF (fun r_4 u t H locs ht hvm h hB hz1 hk1 hS => ?_)
  obtain ⟨hP, -, hD⟩ := wz_back ht hF hB
  have hP : va_P D vwCl (wC a cI cZ cJ x_agesStand x_searchStands p_blocks p_lines p_edges p_pairs g_sets g_size g_penalty g_comeCount s_answered s_codes s_ordered p_times p_touchCounts p_touchSlots p_lineOfSlot p_from p_to p_bounds p_pairA p_pairB p_leaving p_firstLeaving g_come g_outcomes g_greatestTimes g_leastTimes g_changed g_greatest g_least g_greatestNow g_leastNow s_order s_arriving s_unit s_flag s_forbidding s_most s_fewest) H := hP
  have hD : va_D A (wC a cI cZ cJ x_agesStand x_searchStands p_blocks p_lines p_edges p_pairs g_sets g_size g_penalty g_comeCount s_answered s_codes s_ordered p_times p_touchCounts p_touchSlots p_lineOfSlot p_from p_to p_bounds p_pairA p_pairB p_leaving p_firstLeaving g_come g_outcomes g_greatestTimes g_leastTimes g_changed g_greatest g_least g_greatestNow g_leastNow s_order s_arriving s_unit s_flag s_forbidding s_most s_fewest) := hD
  refine lv_istore (lv' := [(4, .int r_4), (0, .ref (a 3)), (1, .ref (a 1)), (2, .int v2), (3, .int v3)]) hx hb dX2_stateBehind_7 hl (by decide) rfl (fun ls hl => ?_)
  refine lv_iload hx hb dX2_stateBehind_9 (lv_at hl 0 rfl) ?_
  refine lv_iconst (v := (-1)) hx hb dX2_stateBehind_11 (by decide) ?_
  refine lv_icmp_ne (tgt := 19) hx hb dX2_stateBehind_12 (by decide) (fun hc => ?_) (fun hc => ?_)
  · replace h := h.1 hc
    refine lv_iload hx hb dX2_stateBehind_19 (lv_at hl 0 rfl) ?_
    refine lv_aload_n hx hb dX2_stateBehind_21 rfl (lv_at hl 2 rfl) ?_
    refine va_get (D := D) (ci := 1) (v := .int p_blocks) (C := RX1) (T := TX1) (N := 15) hx hb hts hinX1 hown hK hP 1 rfl rfl 0 (by decide) (hts (.fieldLink RX2 39 "WorstPaths$Program" "blocks" "I") (by decide +kernel)) (fun _ h9 => h9) rfl dX2_stateBehind_22 ?_
    refine lv_imul hx hb dX2_stateBehind_25 ?_
    refine lv_aload_n hx hb dX2_stateBehind_26 rfl (lv_at hl 2 rfl) ?_
    refine va_get (D := D) (ci := 1) (v := .ref (a 9)) (C := RX1) (T := TX1) (N := 15) hx hb hts hinX1 hown hK hP 1 rfl rfl 9 (by decide) (hts (.fieldLink RX2 104 "WorstPaths$Program" "to" "[I") (by decide +kernel)) (fun _ h9 => h9) rfl dX2_stateBehind_27 ?_
    refine lv_iload_n hx hb dX2_stateBehind_30 rfl (lv_at hl 3 rfl) ?_
    obtain ⟨hq, h⟩ := h
    refine va_iald (D := D) hx hb hK hP 9 0 rfl rfl hq dX2_stateBehind_31 ?_
    refine lv_iadd hx hb dX2_stateBehind_32 ?_
    refine wz_mono hQz ?_
    exact W.iret (v := ((r_4 * p_blocks) + (p_to (Int32.toNatClampNeg v2)))) hx hb hr (fun t ht hW => ⟨⟨((r_4 * p_blocks) + (p_to (Int32.toNatClampNeg v2))), (), rfl, h, by rw [ht]; exact hP, va_K.moved hW.alike hK, hD⟩, hS.F ht⟩) hS.2.2 dX2_stateBehind_33
  · replace h := h.2 hc
    refine lv_iconst (v := (-1)) hx hb dX2_stateBehind_15 (by decide) ?_
    refine lv_goto (tgt := 33) hx hb dX2_stateBehind_16 (by decide) ?_
    refine wz_mono hQz ?_
    exact W.iret (v := (-1)) hx hb hr (fun t ht hW => ⟨⟨(-1), (), rfl, h, by rw [ht]; exact hP, va_K.moved hW.alike hK, hD⟩, hS.F ht⟩) hS.2.2 dX2_stateBehind_33
def jn_X2_valueState_209 (v4 : Int32) (v8 : Int64) (v10 : Int32) (p_blocks : Int32) (p_to : Nat → Int32) (p_bounds : Nat → Int32) (p_leaving : Nat → Int32) (p_firstLeaving : Nat → Int32) (g_greatestTimes : Nat → Int32) (g_leastTimes : Nat → Int32) (s_unit : Nat → Int32) (s_flag : Nat → Int32) (s_forbidding : Nat → Int32) (s_most : Nat → Int64) (s_fewest : Nat → Int64) (t0 : Int64) (t1 : Int32) (Q : (Nat → Int64) → (Nat → Int64) → Prop) : Prop := vp_in t1 40000 ∧ ((¬ (lg_cmp v8 (-1)) = 0 → vp_in v4 40 ∧ (vp_in v10 40000 ∧ (Q (vp_updL s_most (Int32.toNatClampNeg t1) t0) (vp_updL s_fewest (Int32.toNatClampNeg v10) (v8 + (Int32.toInt64 (g_leastTimes (Int32.toNatClampNeg v4)))))))) ∧ ((lg_cmp v8 (-1)) = 0 → vp_in v10 40000 ∧ (Q (vp_updL s_most (Int32.toNatClampNeg t1) t0) (vp_updL s_fewest (Int32.toNatClampNeg v10) (-1)))))
def lp_X2_valueState_63 (v3 : Int32) (v4 : Int32) (p_blocks : Int32) (p_to : Nat → Int32) (p_bounds : Nat → Int32) (p_leaving : Nat → Int32) (p_firstLeaving : Nat → Int32) (g_greatestTimes : Nat → Int32) (g_leastTimes : Nat → Int32) (s_unit : Nat → Int32) (s_flag : Nat → Int32) (s_forbidding : Nat → Int32) (s_most : Nat → Int64) (s_fewest : Nat → Int64) (Q : (Nat → Int64) → (Nat → Int64) → Prop) : Nat → Int64 → Int64 → Int32 → Prop
  | 0, _, _, _ => False
  | n + 1, v6, v8, v10 => vp_in (v4 + 1) 41 ∧ (((p_firstLeaving (Int32.toNatClampNeg (v4 + 1))) ≤ v10 → (¬ (lg_cmp v6 (-1)) = 0 → vp_in v4 40 ∧ (jn_X2_valueState_209 v4 v8 ((v3 * p_blocks) + v4) p_blocks p_to p_bounds p_leaving p_firstLeaving g_greatestTimes g_leastTimes s_unit s_flag s_forbidding s_most s_fewest (v6 + (Int32.toInt64 (g_greatestTimes (Int32.toNatClampNeg v4)))) ((v3 * p_blocks) + v4) Q)) ∧ ((lg_cmp v6 (-1)) = 0 → jn_X2_valueState_209 v4 v8 ((v3 * p_blocks) + v4) p_blocks p_to p_bounds p_leaving p_firstLeaving g_greatestTimes g_leastTimes s_unit s_flag s_forbidding s_most s_fewest (-1) ((v3 * p_blocks) + v4) Q)) ∧ (¬ (p_firstLeaving (Int32.toNatClampNeg (v4 + 1))) ≤ v10 → vp_in v10 80 ∧ (wp_X2_stateBehind (p_leaving (Int32.toNatClampNeg v10)) v3 p_blocks p_to p_bounds s_unit s_flag s_forbidding (fun r_87 => (r_87 = (-1) → (lp_X2_valueState_63 v3 v4 p_blocks p_to p_bounds p_leaving p_firstLeaving g_greatestTimes g_leastTimes s_unit s_flag s_forbidding s_most s_fewest Q n) v6 v8 (v10 + 1)) ∧ (¬ r_87 = (-1) → vp_in r_87 40000 ∧ (((lg_cmp (s_most (Int32.toNatClampNeg r_87)) (-1)) = 0 → (lp_X2_valueState_63 v3 v4 p_blocks p_to p_bounds p_leaving p_firstLeaving g_greatestTimes g_leastTimes s_unit s_flag s_forbidding s_most s_fewest Q n) v6 v8 (v10 + 1)) ∧ (¬ (lg_cmp (s_most (Int32.toNatClampNeg r_87)) (-1)) = 0 → vp_in r_87 40000 ∧ ((¬ (lg_cmp v8 (-1)) = 0 → vp_in r_87 40000 ∧ ((lp_X2_valueState_63 v3 v4 p_blocks p_to p_bounds p_leaving p_firstLeaving g_greatestTimes g_leastTimes s_unit s_flag s_forbidding s_most s_fewest Q n) (if (s_most (Int32.toNatClampNeg r_87)) < v6 then v6 else (s_most (Int32.toNatClampNeg r_87))) (if (s_fewest (Int32.toNatClampNeg r_87)) < v8 then (s_fewest (Int32.toNatClampNeg r_87)) else v8) (v10 + 1))) ∧ ((lg_cmp v8 (-1)) = 0 → vp_in r_87 40000 ∧ ((lp_X2_valueState_63 v3 v4 p_blocks p_to p_bounds p_leaving p_firstLeaving g_greatestTimes g_leastTimes s_unit s_flag s_forbidding s_most s_fewest Q n) (if (s_most (Int32.toNatClampNeg r_87)) < v6 then v6 else (s_most (Int32.toNatClampNeg r_87))) (s_fewest (Int32.toNatClampNeg r_87)) (v10 + 1)))))))))))
def jn_X2_valueState_38 (v3 : Int32) (v4 : Int32) (v5 : Int32) (p_blocks : Int32) (p_to : Nat → Int32) (p_bounds : Nat → Int32) (p_leaving : Nat → Int32) (p_firstLeaving : Nat → Int32) (g_greatestTimes : Nat → Int32) (g_leastTimes : Nat → Int32) (s_unit : Nat → Int32) (s_flag : Nat → Int32) (s_forbidding : Nat → Int32) (s_most : Nat → Int64) (s_fewest : Nat → Int64) (t0 : Int64) (Q : (Nat → Int64) → (Nat → Int64) → Prop) : Prop := (v5 = 0 → vp_in v4 41 ∧ (∃ k63, lp_X2_valueState_63 v3 v4 p_blocks p_to p_bounds p_leaving p_firstLeaving g_greatestTimes g_leastTimes s_unit s_flag s_forbidding s_most s_fewest Q k63 t0 (-1) (p_firstLeaving (Int32.toNatClampNeg v4)))) ∧ (¬ v5 = 0 → vp_in v4 41 ∧ (∃ k63, lp_X2_valueState_63 v3 v4 p_blocks p_to p_bounds p_leaving p_firstLeaving g_greatestTimes g_leastTimes s_unit s_flag s_forbidding s_most s_fewest Q k63 t0 0 (p_firstLeaving (Int32.toNatClampNeg v4))))
def wp_X2_valueState (v3 : Int32) (v4 : Int32) (p_blocks : Int32) (p_to : Nat → Int32) (p_bounds : Nat → Int32) (p_leaving : Nat → Int32) (p_firstLeaving : Nat → Int32) (g_greatestTimes : Nat → Int32) (g_leastTimes : Nat → Int32) (s_unit : Nat → Int32) (s_flag : Nat → Int32) (s_forbidding : Nat → Int32) (s_most : Nat → Int64) (s_fewest : Nat → Int64) (Q : (Nat → Int64) → (Nat → Int64) → Prop) : Prop := vp_in v4 41 ∧ (vp_in (v4 + 1) 41 ∧ ((¬ (p_firstLeaving (Int32.toNatClampNeg v4)) = (p_firstLeaving (Int32.toNatClampNeg (v4 + 1))) → ((0 : Int32) = 0 → jn_X2_valueState_38 v3 v4 0 p_blocks p_to p_bounds p_leaving p_firstLeaving g_greatestTimes g_leastTimes s_unit s_flag s_forbidding s_most s_fewest (-1) Q) ∧ (¬ (0 : Int32) = 0 → jn_X2_valueState_38 v3 v4 0 p_blocks p_to p_bounds p_leaving p_firstLeaving g_greatestTimes g_leastTimes s_unit s_flag s_forbidding s_most s_fewest 0 Q)) ∧ ((p_firstLeaving (Int32.toNatClampNeg v4)) = (p_firstLeaving (Int32.toNatClampNeg (v4 + 1))) → ((1 : Int32) = 0 → jn_X2_valueState_38 v3 v4 1 p_blocks p_to p_bounds p_leaving p_firstLeaving g_greatestTimes g_leastTimes s_unit s_flag s_forbidding s_most s_fewest (-1) Q) ∧ (¬ (1 : Int32) = 0 → jn_X2_valueState_38 v3 v4 1 p_blocks p_to p_bounds p_leaving p_firstLeaving g_greatestTimes g_leastTimes s_unit s_flag s_forbidding s_most s_fewest 0 Q))))
abbrev rm_X2_valueState : Room := { frames := 2, cells := 0, slots := 0, locals := 48 }
set_option maxHeartbeats 4000000 in
set_option maxRecDepth 100000 in
theorem c_X2_valueState (l : Launch) (D : va_G) (a : Nat → Nat) (cI : ClassId) (cZ : ClassId) (cJ : ClassId) (sz : Nat) (x_agesStand : Int32) (x_searchStands : Int32) (p_blocks : Int32) (p_lines : Int32) (p_edges : Int32) (p_pairs : Int32) (g_sets : Int32) (g_size : Int32) (g_penalty : Int32) (g_comeCount : Int32) (s_answered : Int32) (s_codes : Int32) (s_ordered : Int32) (p_times : Nat → Int32) (p_touchCounts : Nat → Int32) (p_touchSlots : Nat → Int32) (p_lineOfSlot : Nat → Int32) (p_from : Nat → Int32) (p_to : Nat → Int32) (p_bounds : Nat → Int32) (p_pairA : Nat → Int32) (p_pairB : Nat → Int32) (p_leaving : Nat → Int32) (p_firstLeaving : Nat → Int32) (g_come : Nat → Int32) (g_outcomes : Nat → Int32) (g_greatestTimes : Nat → Int32) (g_leastTimes : Nat → Int32) (g_changed : Nat → Int32) (g_greatest : Nat → Int32) (g_least : Nat → Int32) (g_greatestNow : Nat → Int32) (g_leastNow : Nat → Int32) (s_order : Nat → Int32) (s_arriving : Nat → Int32) (s_unit : Nat → Int32) (s_flag : Nat → Int32) (s_forbidding : Nat → Int32) (s_most : Nat → Int64) (s_fewest : Nat → Int64) (v3 : Int32) (v4 : Int32) (Q : (Nat → Int64) → (Nat → Int64) → Prop) (h : wp_X2_valueState v3 v4 p_blocks p_to p_bounds p_leaving p_firstLeaving g_greatestTimes g_leastTimes s_unit s_flag s_forbidding s_most s_fewest Q) : Met l yX2_valueState wsX2_valueState rm_X2_valueState (va_Pc [.ref (a 3), .ref (a 1), .ref (a 2), .int v3, .int v4] (inW D cI cZ cJ sz (wC a cI cZ cJ x_agesStand x_searchStands p_blocks p_lines p_edges p_pairs g_sets g_size g_penalty g_comeCount s_answered s_codes s_ordered p_times p_touchCounts p_touchSlots p_lineOfSlot p_from p_to p_bounds p_pairA p_pairB p_leaving p_firstLeaving g_come g_outcomes g_greatestTimes g_leastTimes g_changed g_greatest g_least g_greatestNow g_leastNow s_order s_arriving s_unit s_flag s_forbidding s_most s_fewest))) (va_Qv (fun (u : (Nat → Int64) × (Nat → Int64)) => Q u.1 u.2) (fun (u : (Nat → Int64) × (Nat → Int64)) => outW D cI cZ cJ (va_A (wC a cI cZ cJ x_agesStand x_searchStands p_blocks p_lines p_edges p_pairs g_sets g_size g_penalty g_comeCount s_answered s_codes s_ordered p_times p_touchCounts p_touchSlots p_lineOfSlot p_from p_to p_bounds p_pairA p_pairB p_leaving p_firstLeaving g_come g_outcomes g_greatestTimes g_leastTimes g_changed g_greatest g_least g_greatestNow g_leastNow s_order s_arriving s_unit s_flag s_forbidding s_most s_fewest) sz) (wC a cI cZ cJ x_agesStand x_searchStands p_blocks p_lines p_edges p_pairs g_sets g_size g_penalty g_comeCount s_answered s_codes s_ordered p_times p_touchCounts p_touchSlots p_lineOfSlot p_from p_to p_bounds p_pairA p_pairB p_leaving p_firstLeaving g_come g_outcomes g_greatestTimes g_leastTimes g_changed g_greatest g_least g_greatestNow g_leastNow s_order s_arriving s_unit s_flag s_forbidding u.1 u.2)) (va_A (wC a cI cZ cJ x_agesStand x_searchStands p_blocks p_lines p_edges p_pairs g_sets g_size g_penalty g_comeCount s_answered s_codes s_ordered p_times p_touchCounts p_touchSlots p_lineOfSlot p_from p_to p_bounds p_pairA p_pairB p_leaving p_firstLeaving g_come g_outcomes g_greatestTimes g_leastTimes g_changed g_greatest g_least g_greatestNow g_leastNow s_order s_arriving s_unit s_flag s_forbidding s_most s_fewest) sz)) 0 0 (va_A (wC a cI cZ cJ x_agesStand x_searchStands p_blocks p_lines p_edges p_pairs g_sets g_size g_penalty g_comeCount s_answered s_codes s_ordered p_times p_touchCounts p_touchSlots p_lineOfSlot p_from p_to p_bounds p_pairA p_pairB p_leaving p_firstLeaving g_come g_outcomes g_greatestTimes g_leastTimes g_changed g_greatest g_least g_greatestNow g_leastNow s_order s_arriving s_unit s_flag s_forbidding s_most s_fewest) sz) := by
  refine Met.ofW (cc := cX2_valueState) (maxL := 12) (ret := none) (by decide +kernel) rfl ?_
  intro p e s m args below meth c s₁ B hml hv
  obtain ⟨rfl, hsz, hP, hK, hD0⟩ := hv
  have hx := B.exec
  have hb := B.bytes
  have hr := B.returns
  have hts := atoms_spec (ws := wsX2_valueState) B.pre
  have hown : s.vm.findClass RX2 = some m.cls := findClass_of_methodNamed B.named
  have hlocks := B.notSynchronized
  have hinX1 : ∀ w ∈ wsX10, w ∈ wsX2_valueState := by decide +kernel
  have hinX2 : ∀ w ∈ wsX20, w ∈ wsX2_valueState := by decide +kernel
  subst hsz
  have hD := hD0.self (sz := s.heap.size)
  generalize hAe : va_A (wC a cI cZ cJ x_agesStand x_searchStands p_blocks p_lines p_edges p_pairs g_sets g_size g_penalty g_comeCount s_answered s_codes s_ordered p_times p_touchCounts p_touchSlots p_lineOfSlot p_from p_to p_bounds p_pairA p_pairB p_leaving p_firstLeaving g_come g_outcomes g_greatestTimes g_leastTimes g_changed g_greatest g_least g_greatestNow g_leastNow s_order s_arriving s_unit s_flag s_forbidding s_most s_fewest) s.heap.size = A at hD ⊢
  have hA : ∀ q : Nat, s.heap.size ≤ q → A q := fun q h => by rw [← hAe]; exact Or.inr h
  have hS : va_S A s.heap s.heap [] := va_S.rf
  have hP : va_P D vwCl (wC a cI cZ cJ x_agesStand x_searchStands p_blocks p_lines p_edges p_pairs g_sets g_size g_penalty g_comeCount s_answered s_codes s_ordered p_times p_touchCounts p_touchSlots p_lineOfSlot p_from p_to p_bounds p_pairA p_pairB p_leaving p_firstLeaving g_come g_outcomes g_greatestTimes g_leastTimes g_changed g_greatest g_least g_greatestNow g_leastNow s_order s_arriving s_unit s_flag s_forbidding s_most s_fewest) s.heap := hP
  have hl := lv_entry ([.ref (a 3), .ref (a 1), .ref (a 2), .int v3, .int v4]) (n := 12) (Nat.le_of_ble_eq_true rfl)
  rw [lg_entry_eq]
  generalize (lg_sl ([.ref (a 3), .ref (a 1), .ref (a 2), .int v3, .int v4]) ++ List.replicate (12 - (lg_sl ([.ref (a 3), .ref (a 1), .ref (a 2), .int v3, .int v4])).length) Slot.unset).toArray = ls at hl ⊢
  have hl : lv_has ls 12 [(0, .ref (a 3)), (1, .ref (a 1)), (2, .ref (a 2)), (3, .int v3), (4, .int v4)] := hl
  refine wz_abs (fun Qz hQz => ?_)
  unfold wp_X2_valueState at h
  refine lv_aload_n hx hb dX2_valueState_0 rfl (lv_at hl 1 rfl) ?_
  refine va_get (D := D) (ci := 1) (v := .ref (a 14)) (C := RX1) (T := TX1) (N := 15) hx hb hts hinX1 hown hK hP 1 rfl rfl 14 (by decide) (hts (.fieldLink RX2 98 "WorstPaths$Program" "firstLeaving" "[I") (by decide +kernel)) (fun _ h9 => h9) rfl dX2_valueState_1 ?_
  refine lv_iload hx hb dX2_valueState_4 (lv_at hl 4 rfl) ?_
  obtain ⟨hq, h⟩ := h
  refine va_iald (D := D) hx hb hK hP 14 0 rfl rfl hq dX2_valueState_6 ?_
  refine lv_aload_n hx hb dX2_valueState_7 rfl (lv_at hl 1 rfl) ?_
  refine va_get (D := D) (ci := 1) (v := .ref (a 14)) (C := RX1) (T := TX1) (N := 15) hx hb hts hinX1 hown hK hP 1 rfl rfl 14 (by decide) (hts (.fieldLink RX2 98 "WorstPaths$Program" "firstLeaving" "[I") (by decide +kernel)) (fun _ h9 => h9) rfl dX2_valueState_8 ?_
  refine lv_iload hx hb dX2_valueState_11 (lv_at hl 4 rfl) ?_
  refine lv_iconst (v := 1) hx hb dX2_valueState_13 (by decide) ?_
  refine lv_iadd hx hb dX2_valueState_14 ?_
  obtain ⟨hq, h⟩ := h
  refine va_iald (D := D) hx hb hK hP 14 0 rfl rfl hq dX2_valueState_15 ?_
  refine lv_icmp_ne (tgt := 23) hx hb dX2_valueState_16 (by decide) (fun hc => ?_) (fun hc => ?_)
  · replace h := h.1 hc
    refine lv_iconst (v := 0) hx hb dX2_valueState_23 (by decide) ?_
    refine lv_istore (lv' := [(5, .int 0), (0, .ref (a 3)), (1, .ref (a 1)), (2, .ref (a 2)), (3, .int v3), (4, .int v4)]) hx hb dX2_valueState_24 hl (by decide) rfl (fun ls hl => ?_)
    refine lv_iload hx hb dX2_valueState_26 (lv_at hl 0 rfl) ?_
    have JP38 : ∀ (t0_38 : Int64), jn_X2_valueState_38 v3 v4 0 p_blocks p_to p_bounds p_leaving p_firstLeaving g_greatestTimes g_leastTimes s_unit s_flag s_forbidding s_most s_fewest t0_38 Q → ∀ (H : Heap) (locs : List Loc), va_P D vwCl (wC a cI cZ cJ x_agesStand x_searchStands p_blocks p_lines p_edges p_pairs g_sets g_size g_penalty g_comeCount s_answered s_codes s_ordered p_times p_touchCounts p_touchSlots p_lineOfSlot p_from p_to p_bounds p_pairA p_pairB p_leaving p_firstLeaving g_come g_outcomes g_greatestTimes g_leastTimes g_changed g_greatest g_least g_greatestNow g_leastNow s_order s_arriving s_unit s_flag s_forbidding s_most s_fewest) H → va_D A (wC a cI cZ cJ x_agesStand x_searchStands p_blocks p_lines p_edges p_pairs g_sets g_size g_penalty g_comeCount s_answered s_codes s_ordered p_times p_touchCounts p_touchSlots p_lineOfSlot p_from p_to p_bounds p_pairA p_pairB p_leaving p_firstLeaving g_come g_outcomes g_greatestTimes g_leastTimes g_changed g_greatest g_least g_greatestNow g_leastNow s_order s_arriving s_unit s_flag s_forbidding s_most s_fewest) → va_S A s.heap H locs → ∀ (ls : Array Slot), lv_has ls 12 [(0, .ref (a 3)), (1, .ref (a 1)), (2, .ref (a 2)), (3, .int v3), (4, .int v4), (5, .int 0)] → W p l e (headSpec wsX2_valueState rm_X2_valueState).room s m ([Value.ref (a 3), Value.ref (a 1), Value.ref (a 2), Value.int v3, Value.int v4] : List Value).toArray below meth c H locs 0 0 Qz (F0 m 38 ls [.long t0_38]) := by
      intro t0_38 h H locs hP hD hS ls hl
      unfold jn_X2_valueState_38 at h
      refine lv_lstore (lv' := [(6, .long t0_38), (0, .ref (a 3)), (1, .ref (a 1)), (2, .ref (a 2)), (3, .int v3), (4, .int v4), (5, .int 0)]) hx hb dX2_valueState_38 hl (by decide) rfl (fun ls hl => ?_)
      refine lv_iload hx hb dX2_valueState_40 (lv_at hl 6 rfl) ?_
      refine lv_if_eq (tgt := 49) hx hb dX2_valueState_42 (by decide) (fun hc => ?_) (fun hc => ?_)
      · replace h := h.1 hc
        refine lv_ldc2 (v := (-1)) hx hb hown (hts (.constantLong RX2 61 ((-1))) (by decide +kernel)) dX2_valueState_49 ?_
        refine lv_lstore (lv' := [(8, .long (-1)), (6, .long t0_38), (0, .ref (a 3)), (1, .ref (a 1)), (2, .ref (a 2)), (3, .int v3), (4, .int v4), (5, .int 0)]) hx hb dX2_valueState_52 hl (by decide) rfl (fun ls hl => ?_)
        refine lv_aload_n hx hb dX2_valueState_54 rfl (lv_at hl 3 rfl) ?_
        refine va_get (D := D) (ci := 1) (v := .ref (a 14)) (C := RX1) (T := TX1) (N := 15) hx hb hts hinX1 hown hK hP 1 rfl rfl 14 (by decide) (hts (.fieldLink RX2 98 "WorstPaths$Program" "firstLeaving" "[I") (by decide +kernel)) (fun _ h9 => h9) rfl dX2_valueState_55 ?_
        refine lv_iload hx hb dX2_valueState_58 (lv_at hl 6 rfl) ?_
        obtain ⟨hq, h⟩ := h
        refine va_iald (D := D) hx hb hK hP 14 0 rfl rfl hq dX2_valueState_60 ?_
        refine lv_istore (lv' := [(10, .int (p_firstLeaving (Int32.toNatClampNeg v4))), (8, .long (-1)), (6, .long t0_38), (0, .ref (a 3)), (1, .ref (a 1)), (2, .ref (a 2)), (3, .int v3), (4, .int v4), (5, .int 0)]) hx hb dX2_valueState_61 hl (by decide) rfl (fun ls hl => ?_)
        have LP63 : ∀ (n63 : Nat) (v6_63 : Int64) (v8_63 : Int64) (v10_63 : Int32), lp_X2_valueState_63 v3 v4 p_blocks p_to p_bounds p_leaving p_firstLeaving g_greatestTimes g_leastTimes s_unit s_flag s_forbidding s_most s_fewest Q n63 v6_63 v8_63 v10_63 → ∀ (H : Heap) (locs : List Loc), va_P D vwCl (wC a cI cZ cJ x_agesStand x_searchStands p_blocks p_lines p_edges p_pairs g_sets g_size g_penalty g_comeCount s_answered s_codes s_ordered p_times p_touchCounts p_touchSlots p_lineOfSlot p_from p_to p_bounds p_pairA p_pairB p_leaving p_firstLeaving g_come g_outcomes g_greatestTimes g_leastTimes g_changed g_greatest g_least g_greatestNow g_leastNow s_order s_arriving s_unit s_flag s_forbidding s_most s_fewest) H → va_D A (wC a cI cZ cJ x_agesStand x_searchStands p_blocks p_lines p_edges p_pairs g_sets g_size g_penalty g_comeCount s_answered s_codes s_ordered p_times p_touchCounts p_touchSlots p_lineOfSlot p_from p_to p_bounds p_pairA p_pairB p_leaving p_firstLeaving g_come g_outcomes g_greatestTimes g_leastTimes g_changed g_greatest g_least g_greatestNow g_leastNow s_order s_arriving s_unit s_flag s_forbidding s_most s_fewest) → va_S A s.heap H locs → ∀ (ls : Array Slot), lv_has ls 12 [(0, .ref (a 3)), (1, .ref (a 1)), (2, .ref (a 2)), (3, .int v3), (4, .int v4), (6, .long v6_63), (8, .long v8_63), (10, .int v10_63)] → W p l e (headSpec wsX2_valueState rm_X2_valueState).room s m ([Value.ref (a 3), Value.ref (a 1), Value.ref (a 2), Value.int v3, Value.int v4] : List Value).toArray below meth c H locs 0 0 Qz (F0 m 63 ls []) := by
          intro n63
          induction n63 with
          | zero => intro v6_63 v8_63 v10_63 h; exact h.elim
          | succ n63 ih63 =>
            intro v6_63 v8_63 v10_63 h H locs hP hD hS ls hl
            unfold lp_X2_valueState_63 at h
            refine lv_iload hx hb dX2_valueState_63 (lv_at hl 7 rfl) ?_
            refine lv_aload_n hx hb dX2_valueState_65 rfl (lv_at hl 1 rfl) ?_
            refine va_get (D := D) (ci := 1) (v := .ref (a 14)) (C := RX1) (T := TX1) (N := 15) hx hb hts hinX1 hown hK hP 1 rfl rfl 14 (by decide) (hts (.fieldLink RX2 98 "WorstPaths$Program" "firstLeaving" "[I") (by decide +kernel)) (fun _ h9 => h9) rfl dX2_valueState_66 ?_
            refine lv_iload hx hb dX2_valueState_69 (lv_at hl 4 rfl) ?_
            refine lv_iconst (v := 1) hx hb dX2_valueState_71 (by decide) ?_
            refine lv_iadd hx hb dX2_valueState_72 ?_
            obtain ⟨hq, h⟩ := h
            refine va_iald (D := D) hx hb hK hP 14 0 rfl rfl hq dX2_valueState_73 ?_
            refine lv_icmp_ge (tgt := 165) hx hb dX2_valueState_74 (by decide) (fun hc => ?_) (fun hc => ?_)
            · replace h := h.1 hc
              refine lv_iload_n hx hb dX2_valueState_165 rfl (lv_at hl 3 rfl) ?_
              refine lv_aload_n hx hb dX2_valueState_166 rfl (lv_at hl 1 rfl) ?_
              refine va_get (D := D) (ci := 1) (v := .int p_blocks) (C := RX1) (T := TX1) (N := 15) hx hb hts hinX1 hown hK hP 1 rfl rfl 0 (by decide) (hts (.fieldLink RX2 39 "WorstPaths$Program" "blocks" "I") (by decide +kernel)) (fun _ h9 => h9) rfl dX2_valueState_167 ?_
              refine lv_imul hx hb dX2_valueState_170 ?_
              refine lv_iload hx hb dX2_valueState_171 (lv_at hl 4 rfl) ?_
              refine lv_iadd hx hb dX2_valueState_173 ?_
              refine lv_istore (lv' := [(10, .int ((v3 * p_blocks) + v4)), (0, .ref (a 3)), (1, .ref (a 1)), (2, .ref (a 2)), (3, .int v3), (4, .int v4), (6, .long v6_63), (8, .long v8_63)]) hx hb dX2_valueState_174 hl (by decide) rfl (fun ls hl => ?_)
              refine lv_aload_n hx hb dX2_valueState_176 rfl (lv_at hl 1 rfl) ?_
              refine va_get (D := D) (ci := 2) (v := .ref (a 29)) (C := RX2) (T := TX2) (N := 10) hx hb hts hinX2 hown hK hP 3 rfl rfl 8 (by decide) (hts (.fieldLink RX2 28 "WorstPaths$Search" "most" "[J") (by decide +kernel)) (fun _ h9 => h9) rfl dX2_valueState_177 ?_
              refine lv_iload hx hb dX2_valueState_180 (lv_at hl 0 rfl) ?_
              refine lv_lload hx hb dX2_valueState_182 (lv_at hl 6 rfl) ?_
              refine lv_ldc2 (v := (-1)) hx hb hown (hts (.constantLong RX2 61 ((-1))) (by decide +kernel)) dX2_valueState_184 ?_
              refine W.lcmp hx hb dX2_valueState_187 ?_
              have JP209 : ∀ (t0_209 : Int64), jn_X2_valueState_209 v4 v8_63 ((v3 * p_blocks) + v4) p_blocks p_to p_bounds p_leaving p_firstLeaving g_greatestTimes g_leastTimes s_unit s_flag s_forbidding s_most s_fewest t0_209 ((v3 * p_blocks) + v4) Q → ∀ (H : Heap) (locs : List Loc), va_P D vwCl (wC a cI cZ cJ x_agesStand x_searchStands p_blocks p_lines p_edges p_pairs g_sets g_size g_penalty g_comeCount s_answered s_codes s_ordered p_times p_touchCounts p_touchSlots p_lineOfSlot p_from p_to p_bounds p_pairA p_pairB p_leaving p_firstLeaving g_come g_outcomes g_greatestTimes g_leastTimes g_changed g_greatest g_least g_greatestNow g_leastNow s_order s_arriving s_unit s_flag s_forbidding s_most s_fewest) H → va_D A (wC a cI cZ cJ x_agesStand x_searchStands p_blocks p_lines p_edges p_pairs g_sets g_size g_penalty g_comeCount s_answered s_codes s_ordered p_times p_touchCounts p_touchSlots p_lineOfSlot p_from p_to p_bounds p_pairA p_pairB p_leaving p_firstLeaving g_come g_outcomes g_greatestTimes g_leastTimes g_changed g_greatest g_least g_greatestNow g_leastNow s_order s_arriving s_unit s_flag s_forbidding s_most s_fewest) → va_S A s.heap H locs → ∀ (ls : Array Slot), lv_has ls 12 [(0, .ref (a 3)), (2, .ref (a 2)), (4, .int v4), (8, .long v8_63), (10, .int ((v3 * p_blocks) + v4))] → W p l e (headSpec wsX2_valueState rm_X2_valueState).room s m ([Value.ref (a 3), Value.ref (a 1), Value.ref (a 2), Value.int v3, Value.int v4] : List Value).toArray below meth c H locs 0 0 Qz (F0 m 209 ls [.long t0_209, .int ((v3 * p_blocks) + v4), .ref (a 29)]) := by
                intro t0_209 h H locs hP hD hS ls hl
                unfold jn_X2_valueState_209 at h
                obtain ⟨hq, h⟩ := h
                refine va_last (D := D) hx hb hK hP hD hS 29 2 rfl rfl hq dX2_valueState_209 (fun H locs hP hD hS => ?_)
                have hP : va_P D vwCl (wC a cI cZ cJ x_agesStand x_searchStands p_blocks p_lines p_edges p_pairs g_sets g_size g_penalty g_comeCount s_answered s_codes s_ordered p_times p_touchCounts p_touchSlots p_lineOfSlot p_from p_to p_bounds p_pairA p_pairB p_leaving p_firstLeaving g_come g_outcomes g_greatestTimes g_leastTimes g_changed g_greatest g_least g_greatestNow g_leastNow s_order s_arriving s_unit s_flag s_forbidding (vp_updL s_most (Int32.toNatClampNeg ((v3 * p_blocks) + v4)) t0_209) s_fewest) H := hP
                have hD : va_D A (wC a cI cZ cJ x_agesStand x_searchStands p_blocks p_lines p_edges p_pairs g_sets g_size g_penalty g_comeCount s_answered s_codes s_ordered p_times p_touchCounts p_touchSlots p_lineOfSlot p_from p_to p_bounds p_pairA p_pairB p_leaving p_firstLeaving g_come g_outcomes g_greatestTimes g_leastTimes g_changed g_greatest g_least g_greatestNow g_leastNow s_order s_arriving s_unit s_flag s_forbidding (vp_updL s_most (Int32.toNatClampNeg ((v3 * p_blocks) + v4)) t0_209) s_fewest) := hD
                refine lv_aload_n hx hb dX2_valueState_210 rfl (lv_at hl 0 rfl) ?_
                refine va_get (D := D) (ci := 2) (v := .ref (a 30)) (C := RX2) (T := TX2) (N := 10) hx hb hts hinX2 hown hK hP 3 rfl rfl 9 (by decide) (hts (.fieldLink RX2 32 "WorstPaths$Search" "fewest" "[J") (by decide +kernel)) (fun _ h9 => h9) rfl dX2_valueState_211 ?_
                refine lv_iload hx hb dX2_valueState_214 (lv_at hl 4 rfl) ?_
                refine lv_lload hx hb dX2_valueState_216 (lv_at hl 3 rfl) ?_
                refine lv_ldc2 (v := (-1)) hx hb hown (hts (.constantLong RX2 61 ((-1))) (by decide +kernel)) dX2_valueState_218 ?_
                refine W.lcmp hx hb dX2_valueState_221 ?_
                refine lv_if_ne (tgt := 231) hx hb dX2_valueState_222 (by decide) (fun hc => ?_) (fun hc => ?_)
                · replace h := h.1 hc
                  refine lv_lload hx hb dX2_valueState_231 (lv_at hl 3 rfl) ?_
                  refine lv_aload_n hx hb dX2_valueState_233 rfl (lv_at hl 1 rfl) ?_
                  refine lv_iconst (v := 1) hx hb dX2_valueState_234 (by decide) ?_
                  · skip
                    have hF := wz_free hD hS hA
                    refine va_callr (va_runV (As := [.int 1]) (rest := [.long v8_63, .int ((v3 * p_blocks) + v4), .ref (a 30)]) ⟨hx, hb, hml, hown, hts⟩ (c_X0_timesBy_1 l D a cI cZ cJ _ x_agesStand x_searchStands p_blocks p_lines p_edges p_pairs g_sets g_size g_penalty g_comeCount s_answered s_codes s_ordered p_times p_touchCounts p_touchSlots p_lineOfSlot p_from p_to p_bounds p_pairA p_pairB p_leaving p_firstLeaving g_come g_outcomes g_greatestTimes g_leastTimes g_changed g_greatest g_least g_greatestNow g_leastNow s_order s_arriving s_unit s_flag s_forbidding (vp_updL s_most (Int32.toNatClampNeg ((v3 * p_blocks) + v4)) t0_209) s_fewest 1 (by decide)) (cwV 1 hts gX2_valueState_X0_timesBy rfl rfl rfl (by decide +kernel) ⟨Nat.le_of_ble_eq_true rfl, Nat.le_of_ble_eq_true rfl⟩) ⟨wz_blind, va_recv hK hP (ci := 0) (q0 := 2) rfl rfl, fun U hU hW => wz_at hU hW hP hK hD⟩ rfl rfl hl.1 rfl (lv_room (Nat.le_of_ble_eq_true rfl)) dX2_valueState_235 ⟨Nat.zero_le _, Nat.zero_le _⟩) hS (fun q _ hq => hF q hq) hF (fun u ra t H locs ht hvm hw hB hz1 hk1 hS => ?_)
                    obtain ⟨rfl, hB⟩ := hB
                    obtain ⟨hP, -, hD⟩ := wz_back ht hF hB
                    have hP : va_P D vwCl (wC a cI cZ cJ x_agesStand x_searchStands p_blocks p_lines p_edges p_pairs g_sets g_size g_penalty g_comeCount s_answered s_codes s_ordered p_times p_touchCounts p_touchSlots p_lineOfSlot p_from p_to p_bounds p_pairA p_pairB p_leaving p_firstLeaving g_come g_outcomes g_greatestTimes g_leastTimes g_changed g_greatest g_least g_greatestNow g_leastNow s_order s_arriving s_unit s_flag s_forbidding (vp_updL s_most (Int32.toNatClampNeg ((v3 * p_blocks) + v4)) t0_209) s_fewest) H := hP
                    have hD : va_D A (wC a cI cZ cJ x_agesStand x_searchStands p_blocks p_lines p_edges p_pairs g_sets g_size g_penalty g_comeCount s_answered s_codes s_ordered p_times p_touchCounts p_touchSlots p_lineOfSlot p_from p_to p_bounds p_pairA p_pairB p_leaving p_firstLeaving g_come g_outcomes g_greatestTimes g_leastTimes g_changed g_greatest g_least g_greatestNow g_leastNow s_order s_arriving s_unit s_flag s_forbidding (vp_updL s_most (Int32.toNatClampNeg ((v3 * p_blocks) + v4)) t0_209) s_fewest) := hD
                    refine lv_iload hx hb dX2_valueState_238 (lv_at hl 2 rfl) ?_
                    obtain ⟨hq, h⟩ := h
                    refine va_iald (D := D) hx hb hK hP 18 0 rfl rfl hq dX2_valueState_240 ?_
                    refine lv_i2l hx hb dX2_valueState_241 rfl ?_
                    refine lv_ladd hx hb dX2_valueState_242 ?_
                    obtain ⟨hq, h⟩ := h
                    refine va_last (D := D) hx hb hK hP hD hS 30 2 rfl rfl hq dX2_valueState_243 (fun H locs hP hD hS => ?_)
                    have hP : va_P D vwCl (wC a cI cZ cJ x_agesStand x_searchStands p_blocks p_lines p_edges p_pairs g_sets g_size g_penalty g_comeCount s_answered s_codes s_ordered p_times p_touchCounts p_touchSlots p_lineOfSlot p_from p_to p_bounds p_pairA p_pairB p_leaving p_firstLeaving g_come g_outcomes g_greatestTimes g_leastTimes g_changed g_greatest g_least g_greatestNow g_leastNow s_order s_arriving s_unit s_flag s_forbidding (vp_updL s_most (Int32.toNatClampNeg ((v3 * p_blocks) + v4)) t0_209) (vp_updL s_fewest (Int32.toNatClampNeg ((v3 * p_blocks) + v4)) (v8_63 + (Int32.toInt64 (g_leastTimes (Int32.toNatClampNeg v4)))))) H := hP
                    have hD : va_D A (wC a cI cZ cJ x_agesStand x_searchStands p_blocks p_lines p_edges p_pairs g_sets g_size g_penalty g_comeCount s_answered s_codes s_ordered p_times p_touchCounts p_touchSlots p_lineOfSlot p_from p_to p_bounds p_pairA p_pairB p_leaving p_firstLeaving g_come g_outcomes g_greatestTimes g_leastTimes g_changed g_greatest g_least g_greatestNow g_leastNow s_order s_arriving s_unit s_flag s_forbidding (vp_updL s_most (Int32.toNatClampNeg ((v3 * p_blocks) + v4)) t0_209) (vp_updL s_fewest (Int32.toNatClampNeg ((v3 * p_blocks) + v4)) (v8_63 + (Int32.toInt64 (g_leastTimes (Int32.toNatClampNeg v4)))))) := hD
                    refine wz_mono hQz ?_
                    exact W.vret hx hb hr (fun t ht hW => ⟨⟨((vp_updL s_most (Int32.toNatClampNeg ((v3 * p_blocks) + v4)) t0_209), (vp_updL s_fewest (Int32.toNatClampNeg ((v3 * p_blocks) + v4)) (v8_63 + (Int32.toInt64 (g_leastTimes (Int32.toNatClampNeg v4)))))), rfl, h, by rw [ht]; exact hP, va_K.moved hW.alike hK, hD⟩, hS.F ht⟩) hS.2.2 dX2_valueState_244
                · replace h := h.2 hc
                  refine lv_ldc2 (v := (-1)) hx hb hown (hts (.constantLong RX2 61 ((-1))) (by decide +kernel)) dX2_valueState_225 ?_
                  refine lv_goto (tgt := 243) hx hb dX2_valueState_228 (by decide) ?_
                  obtain ⟨hq, h⟩ := h
                  refine va_last (D := D) hx hb hK hP hD hS 30 2 rfl rfl hq dX2_valueState_243 (fun H locs hP hD hS => ?_)
                  have hP : va_P D vwCl (wC a cI cZ cJ x_agesStand x_searchStands p_blocks p_lines p_edges p_pairs g_sets g_size g_penalty g_comeCount s_answered s_codes s_ordered p_times p_touchCounts p_touchSlots p_lineOfSlot p_from p_to p_bounds p_pairA p_pairB p_leaving p_firstLeaving g_come g_outcomes g_greatestTimes g_leastTimes g_changed g_greatest g_least g_greatestNow g_leastNow s_order s_arriving s_unit s_flag s_forbidding (vp_updL s_most (Int32.toNatClampNeg ((v3 * p_blocks) + v4)) t0_209) (vp_updL s_fewest (Int32.toNatClampNeg ((v3 * p_blocks) + v4)) (-1))) H := hP
                  have hD : va_D A (wC a cI cZ cJ x_agesStand x_searchStands p_blocks p_lines p_edges p_pairs g_sets g_size g_penalty g_comeCount s_answered s_codes s_ordered p_times p_touchCounts p_touchSlots p_lineOfSlot p_from p_to p_bounds p_pairA p_pairB p_leaving p_firstLeaving g_come g_outcomes g_greatestTimes g_leastTimes g_changed g_greatest g_least g_greatestNow g_leastNow s_order s_arriving s_unit s_flag s_forbidding (vp_updL s_most (Int32.toNatClampNeg ((v3 * p_blocks) + v4)) t0_209) (vp_updL s_fewest (Int32.toNatClampNeg ((v3 * p_blocks) + v4)) (-1))) := hD
                  refine wz_mono hQz ?_
                  exact W.vret hx hb hr (fun t ht hW => ⟨⟨((vp_updL s_most (Int32.toNatClampNeg ((v3 * p_blocks) + v4)) t0_209), (vp_updL s_fewest (Int32.toNatClampNeg ((v3 * p_blocks) + v4)) (-1))), rfl, h, by rw [ht]; exact hP, va_K.moved hW.alike hK, hD⟩, hS.F ht⟩) hS.2.2 dX2_valueState_244
              refine lv_if_ne (tgt := 197) hx hb dX2_valueState_188 (by decide) (fun hc => ?_) (fun hc => ?_)
              · replace h := h.1 hc
                refine lv_lload hx hb dX2_valueState_197 (lv_at hl 6 rfl) ?_
                refine lv_aload_n hx hb dX2_valueState_199 rfl (lv_at hl 3 rfl) ?_
                refine lv_iconst (v := 0) hx hb dX2_valueState_200 (by decide) ?_
                · skip
                  have hF := wz_free hD hS hA
                  refine va_callr (va_runV (As := [.int 0]) (rest := [.long v6_63, .int ((v3 * p_blocks) + v4), .ref (a 29)]) ⟨hx, hb, hml, hown, hts⟩ (c_X0_timesBy_0 l D a cI cZ cJ _ x_agesStand x_searchStands p_blocks p_lines p_edges p_pairs g_sets g_size g_penalty g_comeCount s_answered s_codes s_ordered p_times p_touchCounts p_touchSlots p_lineOfSlot p_from p_to p_bounds p_pairA p_pairB p_leaving p_firstLeaving g_come g_outcomes g_greatestTimes g_leastTimes g_changed g_greatest g_least g_greatestNow g_leastNow s_order s_arriving s_unit s_flag s_forbidding s_most s_fewest 0 (by decide)) (cwV 1 hts gX2_valueState_X0_timesBy rfl rfl rfl (by decide +kernel) ⟨Nat.le_of_ble_eq_true rfl, Nat.le_of_ble_eq_true rfl⟩) ⟨wz_blind, va_recv hK hP (ci := 0) (q0 := 2) rfl rfl, fun U hU hW => wz_at hU hW hP hK hD⟩ rfl rfl hl.1 rfl (lv_room (Nat.le_of_ble_eq_true rfl)) dX2_valueState_201 ⟨Nat.zero_le _, Nat.zero_le _⟩) hS (fun q _ hq => hF q hq) hF (fun u ra t H locs ht hvm hw hB hz1 hk1 hS => ?_)
                  obtain ⟨rfl, hB⟩ := hB
                  obtain ⟨hP, -, hD⟩ := wz_back ht hF hB
                  have hP : va_P D vwCl (wC a cI cZ cJ x_agesStand x_searchStands p_blocks p_lines p_edges p_pairs g_sets g_size g_penalty g_comeCount s_answered s_codes s_ordered p_times p_touchCounts p_touchSlots p_lineOfSlot p_from p_to p_bounds p_pairA p_pairB p_leaving p_firstLeaving g_come g_outcomes g_greatestTimes g_leastTimes g_changed g_greatest g_least g_greatestNow g_leastNow s_order s_arriving s_unit s_flag s_forbidding s_most s_fewest) H := hP
                  have hD : va_D A (wC a cI cZ cJ x_agesStand x_searchStands p_blocks p_lines p_edges p_pairs g_sets g_size g_penalty g_comeCount s_answered s_codes s_ordered p_times p_touchCounts p_touchSlots p_lineOfSlot p_from p_to p_bounds p_pairA p_pairB p_leaving p_firstLeaving g_come g_outcomes g_greatestTimes g_leastTimes g_changed g_greatest g_least g_greatestNow g_leastNow s_order s_arriving s_unit s_flag s_forbidding s_most s_fewest) := hD
                  refine lv_iload hx hb dX2_valueState_204 (lv_at hl 5 rfl) ?_
                  obtain ⟨hq, h⟩ := h
                  refine va_iald (D := D) hx hb hK hP 17 0 rfl rfl hq dX2_valueState_206 ?_
                  refine lv_i2l hx hb dX2_valueState_207 rfl ?_
                  refine lv_ladd hx hb dX2_valueState_208 ?_
                  exact JP209 (v6_63 + (Int32.toInt64 (g_greatestTimes (Int32.toNatClampNeg v4)))) h _ _ hP hD hS _ (lv_sub hl [1, 3, 5, 7, 0] rfl)
              · replace h := h.2 hc
                refine lv_ldc2 (v := (-1)) hx hb hown (hts (.constantLong RX2 61 ((-1))) (by decide +kernel)) dX2_valueState_191 ?_
                refine lv_goto (tgt := 209) hx hb dX2_valueState_194 (by decide) ?_
                exact JP209 (-1) h _ _ hP hD hS _ (lv_sub hl [1, 3, 5, 7, 0] rfl)
            · replace h := h.2 hc
              refine lv_aload_n hx hb dX2_valueState_77 rfl (lv_at hl 0 rfl) ?_
              refine lv_aload_n hx hb dX2_valueState_78 rfl (lv_at hl 1 rfl) ?_
              refine lv_aload_n hx hb dX2_valueState_79 rfl (lv_at hl 1 rfl) ?_
              refine va_get (D := D) (ci := 1) (v := .ref (a 13)) (C := RX1) (T := TX1) (N := 15) hx hb hts hinX1 hown hK hP 1 rfl rfl 13 (by decide) (hts (.fieldLink RX2 101 "WorstPaths$Program" "leaving" "[I") (by decide +kernel)) (fun _ h9 => h9) rfl dX2_valueState_80 ?_
              refine lv_iload hx hb dX2_valueState_83 (lv_at hl 7 rfl) ?_
              obtain ⟨hq, h⟩ := h
              refine va_iald (D := D) hx hb hK hP 13 0 rfl rfl hq dX2_valueState_85 ?_
              refine lv_iload_n hx hb dX2_valueState_86 rfl (lv_at hl 3 rfl) ?_
              have hF := wz_free hD hS hA
              refine va_calli (va_runV (As := [.ref (a 1), .int (p_leaving (Int32.toNatClampNeg v10_63)), .int v3]) (rest := []) ⟨hx, hb, hml, hown, hts⟩ (c_X2_stateBehind l D a cI cZ cJ _ x_agesStand x_searchStands p_blocks p_lines p_edges p_pairs g_sets g_size g_penalty g_comeCount s_answered s_codes s_ordered p_times p_touchCounts p_touchSlots p_lineOfSlot p_from p_to p_bounds p_pairA p_pairB p_leaving p_firstLeaving g_come g_outcomes g_greatestTimes g_leastTimes g_changed g_greatest g_least g_greatestNow g_leastNow s_order s_arriving s_unit s_flag s_forbidding s_most s_fewest (p_leaving (Int32.toNatClampNeg v10_63)) v3 _ h) (cwV 3 hts gX2_valueState_X2_stateBehind rfl rfl rfl (by decide +kernel) ⟨Nat.le_of_ble_eq_true rfl, Nat.le_of_ble_eq_true rfl⟩) ⟨wz_blind, va_recv hK hP (ci := 2) (q0 := 3) rfl rfl, fun U hU hW => wz_at hU hW hP hK hD⟩ rfl rfl hl.1 rfl (lv_room (Nat.le_of_ble_eq_true rfl)) dX2_valueState_87 ⟨Nat.zero_le _, Nat.zero_le _⟩) hS (fun q _ hq => hF q hq) hF (fun r_87 u t H locs ht hvm h hB hz1 hk1 hS => ?_)
              obtain ⟨hP, -, hD⟩ := wz_back ht hF hB
              have hP : va_P D vwCl (wC a cI cZ cJ x_agesStand x_searchStands p_blocks p_lines p_edges p_pairs g_sets g_size g_penalty g_comeCount s_answered s_codes s_ordered p_times p_touchCounts p_touchSlots p_lineOfSlot p_from p_to p_bounds p_pairA p_pairB p_leaving p_firstLeaving g_come g_outcomes g_greatestTimes g_leastTimes g_changed g_greatest g_least g_greatestNow g_leastNow s_order s_arriving s_unit s_flag s_forbidding s_most s_fewest) H := hP
              have hD : va_D A (wC a cI cZ cJ x_agesStand x_searchStands p_blocks p_lines p_edges p_pairs g_sets g_size g_penalty g_comeCount s_answered s_codes s_ordered p_times p_touchCounts p_touchSlots p_lineOfSlot p_from p_to p_bounds p_pairA p_pairB p_leaving p_firstLeaving g_come g_outcomes g_greatestTimes g_leastTimes g_changed g_greatest g_least g_greatestNow g_leastNow s_order s_arriving s_unit s_flag s_forbidding s_most s_fewest) := hD
              refine lv_istore (lv' := [(11, .int r_87), (0, .ref (a 3)), (1, .ref (a 1)), (2, .ref (a 2)), (3, .int v3), (4, .int v4), (6, .long v6_63), (8, .long v8_63), (10, .int v10_63)]) hx hb dX2_valueState_90 hl (by decide) rfl (fun ls hl => ?_)
              refine lv_iload hx hb dX2_valueState_92 (lv_at hl 0 rfl) ?_
              refine lv_iconst (v := (-1)) hx hb dX2_valueState_94 (by decide) ?_
              refine lv_icmp_eq (tgt := 159) hx hb dX2_valueState_95 (by decide) (fun hc => ?_) (fun hc => ?_)
              · replace h := h.1 hc
                refine lv_iinc (v := (v10_63 + 1)) (lv' := [(10, .int (v10_63 + 1)), (11, .int r_87), (0, .ref (a 3)), (1, .ref (a 1)), (2, .ref (a 2)), (3, .int v3), (4, .int v4), (6, .long v6_63), (8, .long v8_63)]) hx hb dX2_valueState_159 hl (k := 8) rfl rfl (by decide) rfl (fun ls hl => ?_)
                refine lv_goto (tgt := 63) hx hb dX2_valueState_162 (by decide) ?_
                exact ih63 v6_63 v8_63 (v10_63 + 1) h _ _ hP hD hS _ (lv_sub hl [2, 3, 4, 5, 6, 7, 8, 0] rfl)
              · replace h := h.2 hc
                refine lv_aload_n hx hb dX2_valueState_98 rfl (lv_at hl 1 rfl) ?_
                refine va_get (D := D) (ci := 2) (v := .ref (a 29)) (C := RX2) (T := TX2) (N := 10) hx hb hts hinX2 hown hK hP 3 rfl rfl 8 (by decide) (hts (.fieldLink RX2 28 "WorstPaths$Search" "most" "[J") (by decide +kernel)) (fun _ h9 => h9) rfl dX2_valueState_99 ?_
                refine lv_iload hx hb dX2_valueState_102 (lv_at hl 0 rfl) ?_
                obtain ⟨hq, h⟩ := h
                refine va_lald (D := D) hx hb hK hP 29 2 rfl rfl hq dX2_valueState_104 ?_
                refine lv_ldc2 (v := (-1)) hx hb hown (hts (.constantLong RX2 61 ((-1))) (by decide +kernel)) dX2_valueState_105 ?_
                refine W.lcmp hx hb dX2_valueState_108 ?_
                refine lv_if_eq (tgt := 159) hx hb dX2_valueState_109 (by decide) (fun hc => ?_) (fun hc => ?_)
                · replace h := h.1 hc
                  refine lv_iinc (v := (v10_63 + 1)) (lv' := [(10, .int (v10_63 + 1)), (11, .int r_87), (0, .ref (a 3)), (1, .ref (a 1)), (2, .ref (a 2)), (3, .int v3), (4, .int v4), (6, .long v6_63), (8, .long v8_63)]) hx hb dX2_valueState_159 hl (k := 8) rfl rfl (by decide) rfl (fun ls hl => ?_)
                  refine lv_goto (tgt := 63) hx hb dX2_valueState_162 (by decide) ?_
                  exact ih63 v6_63 v8_63 (v10_63 + 1) h _ _ hP hD hS _ (lv_sub hl [2, 3, 4, 5, 6, 7, 8, 0] rfl)
                · replace h := h.2 hc
                  refine lv_lload hx hb dX2_valueState_112 (lv_at hl 6 rfl) ?_
                  refine lv_aload_n hx hb dX2_valueState_114 rfl (lv_at hl 1 rfl) ?_
                  refine va_get (D := D) (ci := 2) (v := .ref (a 29)) (C := RX2) (T := TX2) (N := 10) hx hb hts hinX2 hown hK hP 3 rfl rfl 8 (by decide) (hts (.fieldLink RX2 28 "WorstPaths$Search" "most" "[J") (by decide +kernel)) (fun _ h9 => h9) rfl dX2_valueState_115 ?_
                  refine lv_iload hx hb dX2_valueState_118 (lv_at hl 0 rfl) ?_
                  obtain ⟨hq, h⟩ := h
                  refine va_lald (D := D) hx hb hK hP 29 2 rfl rfl hq dX2_valueState_120 ?_
                  refine va_mmax_long hx hb (hml.trans hl.1.symm) hown (hts (.methodLink RX2 133 Lib.MathLoose.max_long.x) (by decide +kernel)) (hts (.static Lib.MathLoose.max_long.x) (by decide +kernel)) (hts (.initialized "java/lang/Math") (by decide +kernel)) (hts (.code Lib.MathLoose.max_long.x Lib.MathLoose.max_long.code 4 (some .long)) (by decide +kernel)) (Nat.le_of_ble_eq_true rfl) (Nat.le_of_ble_eq_true rfl) (Nat.zero_le _) (Nat.zero_le _) dX2_valueState_121 ?_
                  refine lv_lstore (lv' := [(6, .long (if (s_most (Int32.toNatClampNeg r_87)) < v6_63 then v6_63 else (s_most (Int32.toNatClampNeg r_87)))), (11, .int r_87), (0, .ref (a 3)), (1, .ref (a 1)), (2, .ref (a 2)), (3, .int v3), (4, .int v4), (8, .long v8_63), (10, .int v10_63)]) hx hb dX2_valueState_124 hl (by decide) rfl (fun ls hl => ?_)
                  refine lv_lload hx hb dX2_valueState_126 (lv_at hl 7 rfl) ?_
                  refine lv_ldc2 (v := (-1)) hx hb hown (hts (.constantLong RX2 61 ((-1))) (by decide +kernel)) dX2_valueState_128 ?_
                  refine W.lcmp hx hb dX2_valueState_131 ?_
                  refine lv_if_ne (tgt := 145) hx hb dX2_valueState_132 (by decide) (fun hc => ?_) (fun hc => ?_)
                  · replace h := h.1 hc
                    refine lv_lload hx hb dX2_valueState_145 (lv_at hl 7 rfl) ?_
                    refine lv_aload_n hx hb dX2_valueState_147 rfl (lv_at hl 2 rfl) ?_
                    refine va_get (D := D) (ci := 2) (v := .ref (a 30)) (C := RX2) (T := TX2) (N := 10) hx hb hts hinX2 hown hK hP 3 rfl rfl 9 (by decide) (hts (.fieldLink RX2 32 "WorstPaths$Search" "fewest" "[J") (by decide +kernel)) (fun _ h9 => h9) rfl dX2_valueState_148 ?_
                    refine lv_iload hx hb dX2_valueState_151 (lv_at hl 1 rfl) ?_
                    obtain ⟨hq, h⟩ := h
                    refine va_lald (D := D) hx hb hK hP 30 2 rfl rfl hq dX2_valueState_153 ?_
                    refine va_mmin_long hx hb (hml.trans hl.1.symm) hown (hts (.methodLink RX2 139 Lib.MathLoose.min_long.x) (by decide +kernel)) (hts (.static Lib.MathLoose.min_long.x) (by decide +kernel)) (hts (.initialized "java/lang/Math") (by decide +kernel)) (hts (.code Lib.MathLoose.min_long.x Lib.MathLoose.min_long.code 4 (some .long)) (by decide +kernel)) (Nat.le_of_ble_eq_true rfl) (Nat.le_of_ble_eq_true rfl) (Nat.zero_le _) (Nat.zero_le _) dX2_valueState_154 ?_
                    refine lv_lstore (lv' := [(8, .long (if (s_fewest (Int32.toNatClampNeg r_87)) < v8_63 then (s_fewest (Int32.toNatClampNeg r_87)) else v8_63)), (6, .long (if (s_most (Int32.toNatClampNeg r_87)) < v6_63 then v6_63 else (s_most (Int32.toNatClampNeg r_87)))), (11, .int r_87), (0, .ref (a 3)), (1, .ref (a 1)), (2, .ref (a 2)), (3, .int v3), (4, .int v4), (10, .int v10_63)]) hx hb dX2_valueState_157 hl (by decide) rfl (fun ls hl => ?_)
                    refine lv_iinc (v := (v10_63 + 1)) (lv' := [(10, .int (v10_63 + 1)), (8, .long (if (s_fewest (Int32.toNatClampNeg r_87)) < v8_63 then (s_fewest (Int32.toNatClampNeg r_87)) else v8_63)), (6, .long (if (s_most (Int32.toNatClampNeg r_87)) < v6_63 then v6_63 else (s_most (Int32.toNatClampNeg r_87)))), (11, .int r_87), (0, .ref (a 3)), (1, .ref (a 1)), (2, .ref (a 2)), (3, .int v3), (4, .int v4)]) hx hb dX2_valueState_159 hl (k := 8) rfl rfl (by decide) rfl (fun ls hl => ?_)
                    refine lv_goto (tgt := 63) hx hb dX2_valueState_162 (by decide) ?_
                    exact ih63 (if (s_most (Int32.toNatClampNeg r_87)) < v6_63 then v6_63 else (s_most (Int32.toNatClampNeg r_87))) (if (s_fewest (Int32.toNatClampNeg r_87)) < v8_63 then (s_fewest (Int32.toNatClampNeg r_87)) else v8_63) (v10_63 + 1) h _ _ hP hD hS _ (lv_sub hl [4, 5, 6, 7, 8, 2, 1, 0] rfl)
                  · replace h := h.2 hc
                    refine lv_aload_n hx hb dX2_valueState_135 rfl (lv_at hl 2 rfl) ?_
                    refine va_get (D := D) (ci := 2) (v := .ref (a 30)) (C := RX2) (T := TX2) (N := 10) hx hb hts hinX2 hown hK hP 3 rfl rfl 9 (by decide) (hts (.fieldLink RX2 32 "WorstPaths$Search" "fewest" "[J") (by decide +kernel)) (fun _ h9 => h9) rfl dX2_valueState_136 ?_
                    refine lv_iload hx hb dX2_valueState_139 (lv_at hl 1 rfl) ?_
                    obtain ⟨hq, h⟩ := h
                    refine va_lald (D := D) hx hb hK hP 30 2 rfl rfl hq dX2_valueState_141 ?_
                    refine lv_goto (tgt := 157) hx hb dX2_valueState_142 (by decide) ?_
                    refine lv_lstore (lv' := [(8, .long (s_fewest (Int32.toNatClampNeg r_87))), (6, .long (if (s_most (Int32.toNatClampNeg r_87)) < v6_63 then v6_63 else (s_most (Int32.toNatClampNeg r_87)))), (11, .int r_87), (0, .ref (a 3)), (1, .ref (a 1)), (2, .ref (a 2)), (3, .int v3), (4, .int v4), (10, .int v10_63)]) hx hb dX2_valueState_157 hl (by decide) rfl (fun ls hl => ?_)
                    refine lv_iinc (v := (v10_63 + 1)) (lv' := [(10, .int (v10_63 + 1)), (8, .long (s_fewest (Int32.toNatClampNeg r_87))), (6, .long (if (s_most (Int32.toNatClampNeg r_87)) < v6_63 then v6_63 else (s_most (Int32.toNatClampNeg r_87)))), (11, .int r_87), (0, .ref (a 3)), (1, .ref (a 1)), (2, .ref (a 2)), (3, .int v3), (4, .int v4)]) hx hb dX2_valueState_159 hl (k := 8) rfl rfl (by decide) rfl (fun ls hl => ?_)
                    refine lv_goto (tgt := 63) hx hb dX2_valueState_162 (by decide) ?_
                    exact ih63 (if (s_most (Int32.toNatClampNeg r_87)) < v6_63 then v6_63 else (s_most (Int32.toNatClampNeg r_87))) (s_fewest (Int32.toNatClampNeg r_87)) (v10_63 + 1) h _ _ hP hD hS _ (lv_sub hl [4, 5, 6, 7, 8, 2, 1, 0] rfl)
        obtain ⟨k9, h⟩ := h
        exact LP63 k9 t0_38 (-1) (p_firstLeaving (Int32.toNatClampNeg v4)) h _ _ hP hD hS _ (lv_sub hl [3, 4, 5, 6, 7, 2, 1, 0] rfl)
      · replace h := h.2 hc
        refine lv_lconst (v := 0) hx hb dX2_valueState_45 (by decide) ?_
        refine lv_goto (tgt := 52) hx hb dX2_valueState_46 (by decide) ?_
        refine lv_lstore (lv' := [(8, .long 0), (6, .long t0_38), (0, .ref (a 3)), (1, .ref (a 1)), (2, .ref (a 2)), (3, .int v3), (4, .int v4), (5, .int 0)]) hx hb dX2_valueState_52 hl (by decide) rfl (fun ls hl => ?_)
        refine lv_aload_n hx hb dX2_valueState_54 rfl (lv_at hl 3 rfl) ?_
        refine va_get (D := D) (ci := 1) (v := .ref (a 14)) (C := RX1) (T := TX1) (N := 15) hx hb hts hinX1 hown hK hP 1 rfl rfl 14 (by decide) (hts (.fieldLink RX2 98 "WorstPaths$Program" "firstLeaving" "[I") (by decide +kernel)) (fun _ h9 => h9) rfl dX2_valueState_55 ?_
        refine lv_iload hx hb dX2_valueState_58 (lv_at hl 6 rfl) ?_
        obtain ⟨hq, h⟩ := h
        refine va_iald (D := D) hx hb hK hP 14 0 rfl rfl hq dX2_valueState_60 ?_
        refine lv_istore (lv' := [(10, .int (p_firstLeaving (Int32.toNatClampNeg v4))), (8, .long 0), (6, .long t0_38), (0, .ref (a 3)), (1, .ref (a 1)), (2, .ref (a 2)), (3, .int v3), (4, .int v4), (5, .int 0)]) hx hb dX2_valueState_61 hl (by decide) rfl (fun ls hl => ?_)
        have LP63 : ∀ (n63 : Nat) (v6_63 : Int64) (v8_63 : Int64) (v10_63 : Int32), lp_X2_valueState_63 v3 v4 p_blocks p_to p_bounds p_leaving p_firstLeaving g_greatestTimes g_leastTimes s_unit s_flag s_forbidding s_most s_fewest Q n63 v6_63 v8_63 v10_63 → ∀ (H : Heap) (locs : List Loc), va_P D vwCl (wC a cI cZ cJ x_agesStand x_searchStands p_blocks p_lines p_edges p_pairs g_sets g_size g_penalty g_comeCount s_answered s_codes s_ordered p_times p_touchCounts p_touchSlots p_lineOfSlot p_from p_to p_bounds p_pairA p_pairB p_leaving p_firstLeaving g_come g_outcomes g_greatestTimes g_leastTimes g_changed g_greatest g_least g_greatestNow g_leastNow s_order s_arriving s_unit s_flag s_forbidding s_most s_fewest) H → va_D A (wC a cI cZ cJ x_agesStand x_searchStands p_blocks p_lines p_edges p_pairs g_sets g_size g_penalty g_comeCount s_answered s_codes s_ordered p_times p_touchCounts p_touchSlots p_lineOfSlot p_from p_to p_bounds p_pairA p_pairB p_leaving p_firstLeaving g_come g_outcomes g_greatestTimes g_leastTimes g_changed g_greatest g_least g_greatestNow g_leastNow s_order s_arriving s_unit s_flag s_forbidding s_most s_fewest) → va_S A s.heap H locs → ∀ (ls : Array Slot), lv_has ls 12 [(0, .ref (a 3)), (1, .ref (a 1)), (2, .ref (a 2)), (3, .int v3), (4, .int v4), (6, .long v6_63), (8, .long v8_63), (10, .int v10_63)] → W p l e (headSpec wsX2_valueState rm_X2_valueState).room s m ([Value.ref (a 3), Value.ref (a 1), Value.ref (a 2), Value.int v3, Value.int v4] : List Value).toArray below meth c H locs 0 0 Qz (F0 m 63 ls []) := by
          intro n63
          induction n63 with
          | zero => intro v6_63 v8_63 v10_63 h; exact h.elim
          | succ n63 ih63 =>
            intro v6_63 v8_63 v10_63 h H locs hP hD hS ls hl
            unfold lp_X2_valueState_63 at h
            refine lv_iload hx hb dX2_valueState_63 (lv_at hl 7 rfl) ?_
            refine lv_aload_n hx hb dX2_valueState_65 rfl (lv_at hl 1 rfl) ?_
            refine va_get (D := D) (ci := 1) (v := .ref (a 14)) (C := RX1) (T := TX1) (N := 15) hx hb hts hinX1 hown hK hP 1 rfl rfl 14 (by decide) (hts (.fieldLink RX2 98 "WorstPaths$Program" "firstLeaving" "[I") (by decide +kernel)) (fun _ h9 => h9) rfl dX2_valueState_66 ?_
            refine lv_iload hx hb dX2_valueState_69 (lv_at hl 4 rfl) ?_
            refine lv_iconst (v := 1) hx hb dX2_valueState_71 (by decide) ?_
            refine lv_iadd hx hb dX2_valueState_72 ?_
            obtain ⟨hq, h⟩ := h
            refine va_iald (D := D) hx hb hK hP 14 0 rfl rfl hq dX2_valueState_73 ?_
            refine lv_icmp_ge (tgt := 165) hx hb dX2_valueState_74 (by decide) (fun hc => ?_) (fun hc => ?_)
            · replace h := h.1 hc
              refine lv_iload_n hx hb dX2_valueState_165 rfl (lv_at hl 3 rfl) ?_
              refine lv_aload_n hx hb dX2_valueState_166 rfl (lv_at hl 1 rfl) ?_
              refine va_get (D := D) (ci := 1) (v := .int p_blocks) (C := RX1) (T := TX1) (N := 15) hx hb hts hinX1 hown hK hP 1 rfl rfl 0 (by decide) (hts (.fieldLink RX2 39 "WorstPaths$Program" "blocks" "I") (by decide +kernel)) (fun _ h9 => h9) rfl dX2_valueState_167 ?_
              refine lv_imul hx hb dX2_valueState_170 ?_
              refine lv_iload hx hb dX2_valueState_171 (lv_at hl 4 rfl) ?_
              refine lv_iadd hx hb dX2_valueState_173 ?_
              refine lv_istore (lv' := [(10, .int ((v3 * p_blocks) + v4)), (0, .ref (a 3)), (1, .ref (a 1)), (2, .ref (a 2)), (3, .int v3), (4, .int v4), (6, .long v6_63), (8, .long v8_63)]) hx hb dX2_valueState_174 hl (by decide) rfl (fun ls hl => ?_)
              refine lv_aload_n hx hb dX2_valueState_176 rfl (lv_at hl 1 rfl) ?_
              refine va_get (D := D) (ci := 2) (v := .ref (a 29)) (C := RX2) (T := TX2) (N := 10) hx hb hts hinX2 hown hK hP 3 rfl rfl 8 (by decide) (hts (.fieldLink RX2 28 "WorstPaths$Search" "most" "[J") (by decide +kernel)) (fun _ h9 => h9) rfl dX2_valueState_177 ?_
              refine lv_iload hx hb dX2_valueState_180 (lv_at hl 0 rfl) ?_
              refine lv_lload hx hb dX2_valueState_182 (lv_at hl 6 rfl) ?_
              refine lv_ldc2 (v := (-1)) hx hb hown (hts (.constantLong RX2 61 ((-1))) (by decide +kernel)) dX2_valueState_184 ?_
              refine W.lcmp hx hb dX2_valueState_187 ?_
              have JP209 : ∀ (t0_209 : Int64), jn_X2_valueState_209 v4 v8_63 ((v3 * p_blocks) + v4) p_blocks p_to p_bounds p_leaving p_firstLeaving g_greatestTimes g_leastTimes s_unit s_flag s_forbidding s_most s_fewest t0_209 ((v3 * p_blocks) + v4) Q → ∀ (H : Heap) (locs : List Loc), va_P D vwCl (wC a cI cZ cJ x_agesStand x_searchStands p_blocks p_lines p_edges p_pairs g_sets g_size g_penalty g_comeCount s_answered s_codes s_ordered p_times p_touchCounts p_touchSlots p_lineOfSlot p_from p_to p_bounds p_pairA p_pairB p_leaving p_firstLeaving g_come g_outcomes g_greatestTimes g_leastTimes g_changed g_greatest g_least g_greatestNow g_leastNow s_order s_arriving s_unit s_flag s_forbidding s_most s_fewest) H → va_D A (wC a cI cZ cJ x_agesStand x_searchStands p_blocks p_lines p_edges p_pairs g_sets g_size g_penalty g_comeCount s_answered s_codes s_ordered p_times p_touchCounts p_touchSlots p_lineOfSlot p_from p_to p_bounds p_pairA p_pairB p_leaving p_firstLeaving g_come g_outcomes g_greatestTimes g_leastTimes g_changed g_greatest g_least g_greatestNow g_leastNow s_order s_arriving s_unit s_flag s_forbidding s_most s_fewest) → va_S A s.heap H locs → ∀ (ls : Array Slot), lv_has ls 12 [(0, .ref (a 3)), (2, .ref (a 2)), (4, .int v4), (8, .long v8_63), (10, .int ((v3 * p_blocks) + v4))] → W p l e (headSpec wsX2_valueState rm_X2_valueState).room s m ([Value.ref (a 3), Value.ref (a 1), Value.ref (a 2), Value.int v3, Value.int v4] : List Value).toArray below meth c H locs 0 0 Qz (F0 m 209 ls [.long t0_209, .int ((v3 * p_blocks) + v4), .ref (a 29)]) := by
                intro t0_209 h H locs hP hD hS ls hl
                unfold jn_X2_valueState_209 at h
                obtain ⟨hq, h⟩ := h
                refine va_last (D := D) hx hb hK hP hD hS 29 2 rfl rfl hq dX2_valueState_209 (fun H locs hP hD hS => ?_)
                have hP : va_P D vwCl (wC a cI cZ cJ x_agesStand x_searchStands p_blocks p_lines p_edges p_pairs g_sets g_size g_penalty g_comeCount s_answered s_codes s_ordered p_times p_touchCounts p_touchSlots p_lineOfSlot p_from p_to p_bounds p_pairA p_pairB p_leaving p_firstLeaving g_come g_outcomes g_greatestTimes g_leastTimes g_changed g_greatest g_least g_greatestNow g_leastNow s_order s_arriving s_unit s_flag s_forbidding (vp_updL s_most (Int32.toNatClampNeg ((v3 * p_blocks) + v4)) t0_209) s_fewest) H := hP
                have hD : va_D A (wC a cI cZ cJ x_agesStand x_searchStands p_blocks p_lines p_edges p_pairs g_sets g_size g_penalty g_comeCount s_answered s_codes s_ordered p_times p_touchCounts p_touchSlots p_lineOfSlot p_from p_to p_bounds p_pairA p_pairB p_leaving p_firstLeaving g_come g_outcomes g_greatestTimes g_leastTimes g_changed g_greatest g_least g_greatestNow g_leastNow s_order s_arriving s_unit s_flag s_forbidding (vp_updL s_most (Int32.toNatClampNeg ((v3 * p_blocks) + v4)) t0_209) s_fewest) := hD
                refine lv_aload_n hx hb dX2_valueState_210 rfl (lv_at hl 0 rfl) ?_
                refine va_get (D := D) (ci := 2) (v := .ref (a 30)) (C := RX2) (T := TX2) (N := 10) hx hb hts hinX2 hown hK hP 3 rfl rfl 9 (by decide) (hts (.fieldLink RX2 32 "WorstPaths$Search" "fewest" "[J") (by decide +kernel)) (fun _ h9 => h9) rfl dX2_valueState_211 ?_
                refine lv_iload hx hb dX2_valueState_214 (lv_at hl 4 rfl) ?_
                refine lv_lload hx hb dX2_valueState_216 (lv_at hl 3 rfl) ?_
                refine lv_ldc2 (v := (-1)) hx hb hown (hts (.constantLong RX2 61 ((-1))) (by decide +kernel)) dX2_valueState_218 ?_
                refine W.lcmp hx hb dX2_valueState_221 ?_
                refine lv_if_ne (tgt := 231) hx hb dX2_valueState_222 (by decide) (fun hc => ?_) (fun hc => ?_)
                · replace h := h.1 hc
                  refine lv_lload hx hb dX2_valueState_231 (lv_at hl 3 rfl) ?_
                  refine lv_aload_n hx hb dX2_valueState_233 rfl (lv_at hl 1 rfl) ?_
                  refine lv_iconst (v := 1) hx hb dX2_valueState_234 (by decide) ?_
                  · skip
                    have hF := wz_free hD hS hA
                    refine va_callr (va_runV (As := [.int 1]) (rest := [.long v8_63, .int ((v3 * p_blocks) + v4), .ref (a 30)]) ⟨hx, hb, hml, hown, hts⟩ (c_X0_timesBy_1 l D a cI cZ cJ _ x_agesStand x_searchStands p_blocks p_lines p_edges p_pairs g_sets g_size g_penalty g_comeCount s_answered s_codes s_ordered p_times p_touchCounts p_touchSlots p_lineOfSlot p_from p_to p_bounds p_pairA p_pairB p_leaving p_firstLeaving g_come g_outcomes g_greatestTimes g_leastTimes g_changed g_greatest g_least g_greatestNow g_leastNow s_order s_arriving s_unit s_flag s_forbidding (vp_updL s_most (Int32.toNatClampNeg ((v3 * p_blocks) + v4)) t0_209) s_fewest 1 (by decide)) (cwV 1 hts gX2_valueState_X0_timesBy rfl rfl rfl (by decide +kernel) ⟨Nat.le_of_ble_eq_true rfl, Nat.le_of_ble_eq_true rfl⟩) ⟨wz_blind, va_recv hK hP (ci := 0) (q0 := 2) rfl rfl, fun U hU hW => wz_at hU hW hP hK hD⟩ rfl rfl hl.1 rfl (lv_room (Nat.le_of_ble_eq_true rfl)) dX2_valueState_235 ⟨Nat.zero_le _, Nat.zero_le _⟩) hS (fun q _ hq => hF q hq) hF (fun u ra t H locs ht hvm hw hB hz1 hk1 hS => ?_)
                    obtain ⟨rfl, hB⟩ := hB
                    obtain ⟨hP, -, hD⟩ := wz_back ht hF hB
                    have hP : va_P D vwCl (wC a cI cZ cJ x_agesStand x_searchStands p_blocks p_lines p_edges p_pairs g_sets g_size g_penalty g_comeCount s_answered s_codes s_ordered p_times p_touchCounts p_touchSlots p_lineOfSlot p_from p_to p_bounds p_pairA p_pairB p_leaving p_firstLeaving g_come g_outcomes g_greatestTimes g_leastTimes g_changed g_greatest g_least g_greatestNow g_leastNow s_order s_arriving s_unit s_flag s_forbidding (vp_updL s_most (Int32.toNatClampNeg ((v3 * p_blocks) + v4)) t0_209) s_fewest) H := hP
                    have hD : va_D A (wC a cI cZ cJ x_agesStand x_searchStands p_blocks p_lines p_edges p_pairs g_sets g_size g_penalty g_comeCount s_answered s_codes s_ordered p_times p_touchCounts p_touchSlots p_lineOfSlot p_from p_to p_bounds p_pairA p_pairB p_leaving p_firstLeaving g_come g_outcomes g_greatestTimes g_leastTimes g_changed g_greatest g_least g_greatestNow g_leastNow s_order s_arriving s_unit s_flag s_forbidding (vp_updL s_most (Int32.toNatClampNeg ((v3 * p_blocks) + v4)) t0_209) s_fewest) := hD
                    refine lv_iload hx hb dX2_valueState_238 (lv_at hl 2 rfl) ?_
                    obtain ⟨hq, h⟩ := h
                    refine va_iald (D := D) hx hb hK hP 18 0 rfl rfl hq dX2_valueState_240 ?_
                    refine lv_i2l hx hb dX2_valueState_241 rfl ?_
                    refine lv_ladd hx hb dX2_valueState_242 ?_
                    obtain ⟨hq, h⟩ := h
                    refine va_last (D := D) hx hb hK hP hD hS 30 2 rfl rfl hq dX2_valueState_243 (fun H locs hP hD hS => ?_)
                    have hP : va_P D vwCl (wC a cI cZ cJ x_agesStand x_searchStands p_blocks p_lines p_edges p_pairs g_sets g_size g_penalty g_comeCount s_answered s_codes s_ordered p_times p_touchCounts p_touchSlots p_lineOfSlot p_from p_to p_bounds p_pairA p_pairB p_leaving p_firstLeaving g_come g_outcomes g_greatestTimes g_leastTimes g_changed g_greatest g_least g_greatestNow g_leastNow s_order s_arriving s_unit s_flag s_forbidding (vp_updL s_most (Int32.toNatClampNeg ((v3 * p_blocks) + v4)) t0_209) (vp_updL s_fewest (Int32.toNatClampNeg ((v3 * p_blocks) + v4)) (v8_63 + (Int32.toInt64 (g_leastTimes (Int32.toNatClampNeg v4)))))) H := hP
                    have hD : va_D A (wC a cI cZ cJ x_agesStand x_searchStands p_blocks p_lines p_edges p_pairs g_sets g_size g_penalty g_comeCount s_answered s_codes s_ordered p_times p_touchCounts p_touchSlots p_lineOfSlot p_from p_to p_bounds p_pairA p_pairB p_leaving p_firstLeaving g_come g_outcomes g_greatestTimes g_leastTimes g_changed g_greatest g_least g_greatestNow g_leastNow s_order s_arriving s_unit s_flag s_forbidding (vp_updL s_most (Int32.toNatClampNeg ((v3 * p_blocks) + v4)) t0_209) (vp_updL s_fewest (Int32.toNatClampNeg ((v3 * p_blocks) + v4)) (v8_63 + (Int32.toInt64 (g_leastTimes (Int32.toNatClampNeg v4)))))) := hD
                    refine wz_mono hQz ?_
                    exact W.vret hx hb hr (fun t ht hW => ⟨⟨((vp_updL s_most (Int32.toNatClampNeg ((v3 * p_blocks) + v4)) t0_209), (vp_updL s_fewest (Int32.toNatClampNeg ((v3 * p_blocks) + v4)) (v8_63 + (Int32.toInt64 (g_leastTimes (Int32.toNatClampNeg v4)))))), rfl, h, by rw [ht]; exact hP, va_K.moved hW.alike hK, hD⟩, hS.F ht⟩) hS.2.2 dX2_valueState_244
                · replace h := h.2 hc
                  refine lv_ldc2 (v := (-1)) hx hb hown (hts (.constantLong RX2 61 ((-1))) (by decide +kernel)) dX2_valueState_225 ?_
                  refine lv_goto (tgt := 243) hx hb dX2_valueState_228 (by decide) ?_
                  obtain ⟨hq, h⟩ := h
                  refine va_last (D := D) hx hb hK hP hD hS 30 2 rfl rfl hq dX2_valueState_243 (fun H locs hP hD hS => ?_)
                  have hP : va_P D vwCl (wC a cI cZ cJ x_agesStand x_searchStands p_blocks p_lines p_edges p_pairs g_sets g_size g_penalty g_comeCount s_answered s_codes s_ordered p_times p_touchCounts p_touchSlots p_lineOfSlot p_from p_to p_bounds p_pairA p_pairB p_leaving p_firstLeaving g_come g_outcomes g_greatestTimes g_leastTimes g_changed g_greatest g_least g_greatestNow g_leastNow s_order s_arriving s_unit s_flag s_forbidding (vp_updL s_most (Int32.toNatClampNeg ((v3 * p_blocks) + v4)) t0_209) (vp_updL s_fewest (Int32.toNatClampNeg ((v3 * p_blocks) + v4)) (-1))) H := hP
                  have hD : va_D A (wC a cI cZ cJ x_agesStand x_searchStands p_blocks p_lines p_edges p_pairs g_sets g_size g_penalty g_comeCount s_answered s_codes s_ordered p_times p_touchCounts p_touchSlots p_lineOfSlot p_from p_to p_bounds p_pairA p_pairB p_leaving p_firstLeaving g_come g_outcomes g_greatestTimes g_leastTimes g_changed g_greatest g_least g_greatestNow g_leastNow s_order s_arriving s_unit s_flag s_forbidding (vp_updL s_most (Int32.toNatClampNeg ((v3 * p_blocks) + v4)) t0_209) (vp_updL s_fewest (Int32.toNatClampNeg ((v3 * p_blocks) + v4)) (-1))) := hD
                  refine wz_mono hQz ?_
                  exact W.vret hx hb hr (fun t ht hW => ⟨⟨((vp_updL s_most (Int32.toNatClampNeg ((v3 * p_blocks) + v4)) t0_209), (vp_updL s_fewest (Int32.toNatClampNeg ((v3 * p_blocks) + v4)) (-1))), rfl, h, by rw [ht]; exact hP, va_K.moved hW.alike hK, hD⟩, hS.F ht⟩) hS.2.2 dX2_valueState_244
              refine lv_if_ne (tgt := 197) hx hb dX2_valueState_188 (by decide) (fun hc => ?_) (fun hc => ?_)
              · replace h := h.1 hc
                refine lv_lload hx hb dX2_valueState_197 (lv_at hl 6 rfl) ?_
                refine lv_aload_n hx hb dX2_valueState_199 rfl (lv_at hl 3 rfl) ?_
                refine lv_iconst (v := 0) hx hb dX2_valueState_200 (by decide) ?_
                · skip
                  have hF := wz_free hD hS hA
                  refine va_callr (va_runV (As := [.int 0]) (rest := [.long v6_63, .int ((v3 * p_blocks) + v4), .ref (a 29)]) ⟨hx, hb, hml, hown, hts⟩ (c_X0_timesBy_0 l D a cI cZ cJ _ x_agesStand x_searchStands p_blocks p_lines p_edges p_pairs g_sets g_size g_penalty g_comeCount s_answered s_codes s_ordered p_times p_touchCounts p_touchSlots p_lineOfSlot p_from p_to p_bounds p_pairA p_pairB p_leaving p_firstLeaving g_come g_outcomes g_greatestTimes g_leastTimes g_changed g_greatest g_least g_greatestNow g_leastNow s_order s_arriving s_unit s_flag s_forbidding s_most s_fewest 0 (by decide)) (cwV 1 hts gX2_valueState_X0_timesBy rfl rfl rfl (by decide +kernel) ⟨Nat.le_of_ble_eq_true rfl, Nat.le_of_ble_eq_true rfl⟩) ⟨wz_blind, va_recv hK hP (ci := 0) (q0 := 2) rfl rfl, fun U hU hW => wz_at hU hW hP hK hD⟩ rfl rfl hl.1 rfl (lv_room (Nat.le_of_ble_eq_true rfl)) dX2_valueState_201 ⟨Nat.zero_le _, Nat.zero_le _⟩) hS (fun q _ hq => hF q hq) hF (fun u ra t H locs ht hvm hw hB hz1 hk1 hS => ?_)
                  obtain ⟨rfl, hB⟩ := hB
                  obtain ⟨hP, -, hD⟩ := wz_back ht hF hB
                  have hP : va_P D vwCl (wC a cI cZ cJ x_agesStand x_searchStands p_blocks p_lines p_edges p_pairs g_sets g_size g_penalty g_comeCount s_answered s_codes s_ordered p_times p_touchCounts p_touchSlots p_lineOfSlot p_from p_to p_bounds p_pairA p_pairB p_leaving p_firstLeaving g_come g_outcomes g_greatestTimes g_leastTimes g_changed g_greatest g_least g_greatestNow g_leastNow s_order s_arriving s_unit s_flag s_forbidding s_most s_fewest) H := hP
                  have hD : va_D A (wC a cI cZ cJ x_agesStand x_searchStands p_blocks p_lines p_edges p_pairs g_sets g_size g_penalty g_comeCount s_answered s_codes s_ordered p_times p_touchCounts p_touchSlots p_lineOfSlot p_from p_to p_bounds p_pairA p_pairB p_leaving p_firstLeaving g_come g_outcomes g_greatestTimes g_leastTimes g_changed g_greatest g_least g_greatestNow g_leastNow s_order s_arriving s_unit s_flag s_forbidding s_most s_fewest) := hD
                  refine lv_iload hx hb dX2_valueState_204 (lv_at hl 5 rfl) ?_
                  obtain ⟨hq, h⟩ := h
                  refine va_iald (D := D) hx hb hK hP 17 0 rfl rfl hq dX2_valueState_206 ?_
                  refine lv_i2l hx hb dX2_valueState_207 rfl ?_
                  refine lv_ladd hx hb dX2_valueState_208 ?_
                  exact JP209 (v6_63 + (Int32.toInt64 (g_greatestTimes (Int32.toNatClampNeg v4)))) h _ _ hP hD hS _ (lv_sub hl [1, 3, 5, 7, 0] rfl)
              · replace h := h.2 hc
                refine lv_ldc2 (v := (-1)) hx hb hown (hts (.constantLong RX2 61 ((-1))) (by decide +kernel)) dX2_valueState_191 ?_
                refine lv_goto (tgt := 209) hx hb dX2_valueState_194 (by decide) ?_
                exact JP209 (-1) h _ _ hP hD hS _ (lv_sub hl [1, 3, 5, 7, 0] rfl)
            · replace h := h.2 hc
              refine lv_aload_n hx hb dX2_valueState_77 rfl (lv_at hl 0 rfl) ?_
              refine lv_aload_n hx hb dX2_valueState_78 rfl (lv_at hl 1 rfl) ?_
              refine lv_aload_n hx hb dX2_valueState_79 rfl (lv_at hl 1 rfl) ?_
              refine va_get (D := D) (ci := 1) (v := .ref (a 13)) (C := RX1) (T := TX1) (N := 15) hx hb hts hinX1 hown hK hP 1 rfl rfl 13 (by decide) (hts (.fieldLink RX2 101 "WorstPaths$Program" "leaving" "[I") (by decide +kernel)) (fun _ h9 => h9) rfl dX2_valueState_80 ?_
              refine lv_iload hx hb dX2_valueState_83 (lv_at hl 7 rfl) ?_
              obtain ⟨hq, h⟩ := h
              refine va_iald (D := D) hx hb hK hP 13 0 rfl rfl hq dX2_valueState_85 ?_
              refine lv_iload_n hx hb dX2_valueState_86 rfl (lv_at hl 3 rfl) ?_
              have hF := wz_free hD hS hA
              refine va_calli (va_runV (As := [.ref (a 1), .int (p_leaving (Int32.toNatClampNeg v10_63)), .int v3]) (rest := []) ⟨hx, hb, hml, hown, hts⟩ (c_X2_stateBehind l D a cI cZ cJ _ x_agesStand x_searchStands p_blocks p_lines p_edges p_pairs g_sets g_size g_penalty g_comeCount s_answered s_codes s_ordered p_times p_touchCounts p_touchSlots p_lineOfSlot p_from p_to p_bounds p_pairA p_pairB p_leaving p_firstLeaving g_come g_outcomes g_greatestTimes g_leastTimes g_changed g_greatest g_least g_greatestNow g_leastNow s_order s_arriving s_unit s_flag s_forbidding s_most s_fewest (p_leaving (Int32.toNatClampNeg v10_63)) v3 _ h) (cwV 3 hts gX2_valueState_X2_stateBehind rfl rfl rfl (by decide +kernel) ⟨Nat.le_of_ble_eq_true rfl, Nat.le_of_ble_eq_true rfl⟩) ⟨wz_blind, va_recv hK hP (ci := 2) (q0 := 3) rfl rfl, fun U hU hW => wz_at hU hW hP hK hD⟩ rfl rfl hl.1 rfl (lv_room (Nat.le_of_ble_eq_true rfl)) dX2_valueState_87 ⟨Nat.zero_le _, Nat.zero_le _⟩) hS (fun q _ hq => hF q hq) hF (fun r_87 u t H locs ht hvm h hB hz1 hk1 hS => ?_)
              obtain ⟨hP, -, hD⟩ := wz_back ht hF hB
              have hP : va_P D vwCl (wC a cI cZ cJ x_agesStand x_searchStands p_blocks p_lines p_edges p_pairs g_sets g_size g_penalty g_comeCount s_answered s_codes s_ordered p_times p_touchCounts p_touchSlots p_lineOfSlot p_from p_to p_bounds p_pairA p_pairB p_leaving p_firstLeaving g_come g_outcomes g_greatestTimes g_leastTimes g_changed g_greatest g_least g_greatestNow g_leastNow s_order s_arriving s_unit s_flag s_forbidding s_most s_fewest) H := hP
              have hD : va_D A (wC a cI cZ cJ x_agesStand x_searchStands p_blocks p_lines p_edges p_pairs g_sets g_size g_penalty g_comeCount s_answered s_codes s_ordered p_times p_touchCounts p_touchSlots p_lineOfSlot p_from p_to p_bounds p_pairA p_pairB p_leaving p_firstLeaving g_come g_outcomes g_greatestTimes g_leastTimes g_changed g_greatest g_least g_greatestNow g_leastNow s_order s_arriving s_unit s_flag s_forbidding s_most s_fewest) := hD
              refine lv_istore (lv' := [(11, .int r_87), (0, .ref (a 3)), (1, .ref (a 1)), (2, .ref (a 2)), (3, .int v3), (4, .int v4), (6, .long v6_63), (8, .long v8_63), (10, .int v10_63)]) hx hb dX2_valueState_90 hl (by decide) rfl (fun ls hl => ?_)
              refine lv_iload hx hb dX2_valueState_92 (lv_at hl 0 rfl) ?_
              refine lv_iconst (v := (-1)) hx hb dX2_valueState_94 (by decide) ?_
              refine lv_icmp_eq (tgt := 159) hx hb dX2_valueState_95 (by decide) (fun hc => ?_) (fun hc => ?_)
              · replace h := h.1 hc
                refine lv_iinc (v := (v10_63 + 1)) (lv' := [(10, .int (v10_63 + 1)), (11, .int r_87), (0, .ref (a 3)), (1, .ref (a 1)), (2, .ref (a 2)), (3, .int v3), (4, .int v4), (6, .long v6_63), (8, .long v8_63)]) hx hb dX2_valueState_159 hl (k := 8) rfl rfl (by decide) rfl (fun ls hl => ?_)
                refine lv_goto (tgt := 63) hx hb dX2_valueState_162 (by decide) ?_
                exact ih63 v6_63 v8_63 (v10_63 + 1) h _ _ hP hD hS _ (lv_sub hl [2, 3, 4, 5, 6, 7, 8, 0] rfl)
              · replace h := h.2 hc
                refine lv_aload_n hx hb dX2_valueState_98 rfl (lv_at hl 1 rfl) ?_
                refine va_get (D := D) (ci := 2) (v := .ref (a 29)) (C := RX2) (T := TX2) (N := 10) hx hb hts hinX2 hown hK hP 3 rfl rfl 8 (by decide) (hts (.fieldLink RX2 28 "WorstPaths$Search" "most" "[J") (by decide +kernel)) (fun _ h9 => h9) rfl dX2_valueState_99 ?_
                refine lv_iload hx hb dX2_valueState_102 (lv_at hl 0 rfl) ?_
                obtain ⟨hq, h⟩ := h
                refine va_lald (D := D) hx hb hK hP 29 2 rfl rfl hq dX2_valueState_104 ?_
                refine lv_ldc2 (v := (-1)) hx hb hown (hts (.constantLong RX2 61 ((-1))) (by decide +kernel)) dX2_valueState_105 ?_
                refine W.lcmp hx hb dX2_valueState_108 ?_
                refine lv_if_eq (tgt := 159) hx hb dX2_valueState_109 (by decide) (fun hc => ?_) (fun hc => ?_)
                · replace h := h.1 hc
                  refine lv_iinc (v := (v10_63 + 1)) (lv' := [(10, .int (v10_63 + 1)), (11, .int r_87), (0, .ref (a 3)), (1, .ref (a 1)), (2, .ref (a 2)), (3, .int v3), (4, .int v4), (6, .long v6_63), (8, .long v8_63)]) hx hb dX2_valueState_159 hl (k := 8) rfl rfl (by decide) rfl (fun ls hl => ?_)
                  refine lv_goto (tgt := 63) hx hb dX2_valueState_162 (by decide) ?_
                  exact ih63 v6_63 v8_63 (v10_63 + 1) h _ _ hP hD hS _ (lv_sub hl [2, 3, 4, 5, 6, 7, 8, 0] rfl)
                · replace h := h.2 hc
                  refine lv_lload hx hb dX2_valueState_112 (lv_at hl 6 rfl) ?_
                  refine lv_aload_n hx hb dX2_valueState_114 rfl (lv_at hl 1 rfl) ?_
                  refine va_get (D := D) (ci := 2) (v := .ref (a 29)) (C := RX2) (T := TX2) (N := 10) hx hb hts hinX2 hown hK hP 3 rfl rfl 8 (by decide) (hts (.fieldLink RX2 28 "WorstPaths$Search" "most" "[J") (by decide +kernel)) (fun _ h9 => h9) rfl dX2_valueState_115 ?_
                  refine lv_iload hx hb dX2_valueState_118 (lv_at hl 0 rfl) ?_
                  obtain ⟨hq, h⟩ := h
                  refine va_lald (D := D) hx hb hK hP 29 2 rfl rfl hq dX2_valueState_120 ?_
                  refine va_mmax_long hx hb (hml.trans hl.1.symm) hown (hts (.methodLink RX2 133 Lib.MathLoose.max_long.x) (by decide +kernel)) (hts (.static Lib.MathLoose.max_long.x) (by decide +kernel)) (hts (.initialized "java/lang/Math") (by decide +kernel)) (hts (.code Lib.MathLoose.max_long.x Lib.MathLoose.max_long.code 4 (some .long)) (by decide +kernel)) (Nat.le_of_ble_eq_true rfl) (Nat.le_of_ble_eq_true rfl) (Nat.zero_le _) (Nat.zero_le _) dX2_valueState_121 ?_
                  refine lv_lstore (lv' := [(6, .long (if (s_most (Int32.toNatClampNeg r_87)) < v6_63 then v6_63 else (s_most (Int32.toNatClampNeg r_87)))), (11, .int r_87), (0, .ref (a 3)), (1, .ref (a 1)), (2, .ref (a 2)), (3, .int v3), (4, .int v4), (8, .long v8_63), (10, .int v10_63)]) hx hb dX2_valueState_124 hl (by decide) rfl (fun ls hl => ?_)
                  refine lv_lload hx hb dX2_valueState_126 (lv_at hl 7 rfl) ?_
                  refine lv_ldc2 (v := (-1)) hx hb hown (hts (.constantLong RX2 61 ((-1))) (by decide +kernel)) dX2_valueState_128 ?_
                  refine W.lcmp hx hb dX2_valueState_131 ?_
                  refine lv_if_ne (tgt := 145) hx hb dX2_valueState_132 (by decide) (fun hc => ?_) (fun hc => ?_)
                  · replace h := h.1 hc
                    refine lv_lload hx hb dX2_valueState_145 (lv_at hl 7 rfl) ?_
                    refine lv_aload_n hx hb dX2_valueState_147 rfl (lv_at hl 2 rfl) ?_
                    refine va_get (D := D) (ci := 2) (v := .ref (a 30)) (C := RX2) (T := TX2) (N := 10) hx hb hts hinX2 hown hK hP 3 rfl rfl 9 (by decide) (hts (.fieldLink RX2 32 "WorstPaths$Search" "fewest" "[J") (by decide +kernel)) (fun _ h9 => h9) rfl dX2_valueState_148 ?_
                    refine lv_iload hx hb dX2_valueState_151 (lv_at hl 1 rfl) ?_
                    obtain ⟨hq, h⟩ := h
                    refine va_lald (D := D) hx hb hK hP 30 2 rfl rfl hq dX2_valueState_153 ?_
                    refine va_mmin_long hx hb (hml.trans hl.1.symm) hown (hts (.methodLink RX2 139 Lib.MathLoose.min_long.x) (by decide +kernel)) (hts (.static Lib.MathLoose.min_long.x) (by decide +kernel)) (hts (.initialized "java/lang/Math") (by decide +kernel)) (hts (.code Lib.MathLoose.min_long.x Lib.MathLoose.min_long.code 4 (some .long)) (by decide +kernel)) (Nat.le_of_ble_eq_true rfl) (Nat.le_of_ble_eq_true rfl) (Nat.zero_le _) (Nat.zero_le _) dX2_valueState_154 ?_
                    refine lv_lstore (lv' := [(8, .long (if (s_fewest (Int32.toNatClampNeg r_87)) < v8_63 then (s_fewest (Int32.toNatClampNeg r_87)) else v8_63)), (6, .long (if (s_most (Int32.toNatClampNeg r_87)) < v6_63 then v6_63 else (s_most (Int32.toNatClampNeg r_87)))), (11, .int r_87), (0, .ref (a 3)), (1, .ref (a 1)), (2, .ref (a 2)), (3, .int v3), (4, .int v4), (10, .int v10_63)]) hx hb dX2_valueState_157 hl (by decide) rfl (fun ls hl => ?_)
                    refine lv_iinc (v := (v10_63 + 1)) (lv' := [(10, .int (v10_63 + 1)), (8, .long (if (s_fewest (Int32.toNatClampNeg r_87)) < v8_63 then (s_fewest (Int32.toNatClampNeg r_87)) else v8_63)), (6, .long (if (s_most (Int32.toNatClampNeg r_87)) < v6_63 then v6_63 else (s_most (Int32.toNatClampNeg r_87)))), (11, .int r_87), (0, .ref (a 3)), (1, .ref (a 1)), (2, .ref (a 2)), (3, .int v3), (4, .int v4)]) hx hb dX2_valueState_159 hl (k := 8) rfl rfl (by decide) rfl (fun ls hl => ?_)
                    refine lv_goto (tgt := 63) hx hb dX2_valueState_162 (by decide) ?_
                    exact ih63 (if (s_most (Int32.toNatClampNeg r_87)) < v6_63 then v6_63 else (s_most (Int32.toNatClampNeg r_87))) (if (s_fewest (Int32.toNatClampNeg r_87)) < v8_63 then (s_fewest (Int32.toNatClampNeg r_87)) else v8_63) (v10_63 + 1) h _ _ hP hD hS _ (lv_sub hl [4, 5, 6, 7, 8, 2, 1, 0] rfl)
                  · replace h := h.2 hc
                    refine lv_aload_n hx hb dX2_valueState_135 rfl (lv_at hl 2 rfl) ?_
                    refine va_get (D := D) (ci := 2) (v := .ref (a 30)) (C := RX2) (T := TX2) (N := 10) hx hb hts hinX2 hown hK hP 3 rfl rfl 9 (by decide) (hts (.fieldLink RX2 32 "WorstPaths$Search" "fewest" "[J") (by decide +kernel)) (fun _ h9 => h9) rfl dX2_valueState_136 ?_
                    refine lv_iload hx hb dX2_valueState_139 (lv_at hl 1 rfl) ?_
                    obtain ⟨hq, h⟩ := h
                    refine va_lald (D := D) hx hb hK hP 30 2 rfl rfl hq dX2_valueState_141 ?_
                    refine lv_goto (tgt := 157) hx hb dX2_valueState_142 (by decide) ?_
                    refine lv_lstore (lv' := [(8, .long (s_fewest (Int32.toNatClampNeg r_87))), (6, .long (if (s_most (Int32.toNatClampNeg r_87)) < v6_63 then v6_63 else (s_most (Int32.toNatClampNeg r_87)))), (11, .int r_87), (0, .ref (a 3)), (1, .ref (a 1)), (2, .ref (a 2)), (3, .int v3), (4, .int v4), (10, .int v10_63)]) hx hb dX2_valueState_157 hl (by decide) rfl (fun ls hl => ?_)
                    refine lv_iinc (v := (v10_63 + 1)) (lv' := [(10, .int (v10_63 + 1)), (8, .long (s_fewest (Int32.toNatClampNeg r_87))), (6, .long (if (s_most (Int32.toNatClampNeg r_87)) < v6_63 then v6_63 else (s_most (Int32.toNatClampNeg r_87)))), (11, .int r_87), (0, .ref (a 3)), (1, .ref (a 1)), (2, .ref (a 2)), (3, .int v3), (4, .int v4)]) hx hb dX2_valueState_159 hl (k := 8) rfl rfl (by decide) rfl (fun ls hl => ?_)
                    refine lv_goto (tgt := 63) hx hb dX2_valueState_162 (by decide) ?_
                    exact ih63 (if (s_most (Int32.toNatClampNeg r_87)) < v6_63 then v6_63 else (s_most (Int32.toNatClampNeg r_87))) (s_fewest (Int32.toNatClampNeg r_87)) (v10_63 + 1) h _ _ hP hD hS _ (lv_sub hl [4, 5, 6, 7, 8, 2, 1, 0] rfl)
        obtain ⟨k9, h⟩ := h
        exact LP63 k9 t0_38 0 (p_firstLeaving (Int32.toNatClampNeg v4)) h _ _ hP hD hS _ (lv_sub hl [3, 4, 5, 6, 7, 2, 1, 0] rfl)
    refine lv_if_eq (tgt := 35) hx hb dX2_valueState_28 (by decide) (fun hc => ?_) (fun hc => ?_)
    · replace h := h.1 hc
      refine lv_ldc2 (v := (-1)) hx hb hown (hts (.constantLong RX2 61 ((-1))) (by decide +kernel)) dX2_valueState_35 ?_
      exact JP38 (-1) h _ _ hP hD hS _ (lv_sub hl [1, 2, 3, 4, 5, 0] rfl)
    · replace h := h.2 hc
      refine lv_lconst (v := 0) hx hb dX2_valueState_31 (by decide) ?_
      refine lv_goto (tgt := 38) hx hb dX2_valueState_32 (by decide) ?_
      exact JP38 0 h _ _ hP hD hS _ (lv_sub hl [1, 2, 3, 4, 5, 0] rfl)
  · replace h := h.2 hc
    refine lv_iconst (v := 1) hx hb dX2_valueState_19 (by decide) ?_
    refine lv_goto (tgt := 24) hx hb dX2_valueState_20 (by decide) ?_
    refine lv_istore (lv' := [(5, .int 1), (0, .ref (a 3)), (1, .ref (a 1)), (2, .ref (a 2)), (3, .int v3), (4, .int v4)]) hx hb dX2_valueState_24 hl (by decide) rfl (fun ls hl => ?_)
    refine lv_iload hx hb dX2_valueState_26 (lv_at hl 0 rfl) ?_
    have JP38 : ∀ (t0_38 : Int64), jn_X2_valueState_38 v3 v4 1 p_blocks p_to p_bounds p_leaving p_firstLeaving g_greatestTimes g_leastTimes s_unit s_flag s_forbidding s_most s_fewest t0_38 Q → ∀ (H : Heap) (locs : List Loc), va_P D vwCl (wC a cI cZ cJ x_agesStand x_searchStands p_blocks p_lines p_edges p_pairs g_sets g_size g_penalty g_comeCount s_answered s_codes s_ordered p_times p_touchCounts p_touchSlots p_lineOfSlot p_from p_to p_bounds p_pairA p_pairB p_leaving p_firstLeaving g_come g_outcomes g_greatestTimes g_leastTimes g_changed g_greatest g_least g_greatestNow g_leastNow s_order s_arriving s_unit s_flag s_forbidding s_most s_fewest) H → va_D A (wC a cI cZ cJ x_agesStand x_searchStands p_blocks p_lines p_edges p_pairs g_sets g_size g_penalty g_comeCount s_answered s_codes s_ordered p_times p_touchCounts p_touchSlots p_lineOfSlot p_from p_to p_bounds p_pairA p_pairB p_leaving p_firstLeaving g_come g_outcomes g_greatestTimes g_leastTimes g_changed g_greatest g_least g_greatestNow g_leastNow s_order s_arriving s_unit s_flag s_forbidding s_most s_fewest) → va_S A s.heap H locs → ∀ (ls : Array Slot), lv_has ls 12 [(0, .ref (a 3)), (1, .ref (a 1)), (2, .ref (a 2)), (3, .int v3), (4, .int v4), (5, .int 1)] → W p l e (headSpec wsX2_valueState rm_X2_valueState).room s m ([Value.ref (a 3), Value.ref (a 1), Value.ref (a 2), Value.int v3, Value.int v4] : List Value).toArray below meth c H locs 0 0 Qz (F0 m 38 ls [.long t0_38]) := by
      intro t0_38 h H locs hP hD hS ls hl
      unfold jn_X2_valueState_38 at h
      refine lv_lstore (lv' := [(6, .long t0_38), (0, .ref (a 3)), (1, .ref (a 1)), (2, .ref (a 2)), (3, .int v3), (4, .int v4), (5, .int 1)]) hx hb dX2_valueState_38 hl (by decide) rfl (fun ls hl => ?_)
      refine lv_iload hx hb dX2_valueState_40 (lv_at hl 6 rfl) ?_
      refine lv_if_eq (tgt := 49) hx hb dX2_valueState_42 (by decide) (fun hc => ?_) (fun hc => ?_)
      · replace h := h.1 hc
        refine lv_ldc2 (v := (-1)) hx hb hown (hts (.constantLong RX2 61 ((-1))) (by decide +kernel)) dX2_valueState_49 ?_
        refine lv_lstore (lv' := [(8, .long (-1)), (6, .long t0_38), (0, .ref (a 3)), (1, .ref (a 1)), (2, .ref (a 2)), (3, .int v3), (4, .int v4), (5, .int 1)]) hx hb dX2_valueState_52 hl (by decide) rfl (fun ls hl => ?_)
        refine lv_aload_n hx hb dX2_valueState_54 rfl (lv_at hl 3 rfl) ?_
        refine va_get (D := D) (ci := 1) (v := .ref (a 14)) (C := RX1) (T := TX1) (N := 15) hx hb hts hinX1 hown hK hP 1 rfl rfl 14 (by decide) (hts (.fieldLink RX2 98 "WorstPaths$Program" "firstLeaving" "[I") (by decide +kernel)) (fun _ h9 => h9) rfl dX2_valueState_55 ?_
        refine lv_iload hx hb dX2_valueState_58 (lv_at hl 6 rfl) ?_
        obtain ⟨hq, h⟩ := h
        refine va_iald (D := D) hx hb hK hP 14 0 rfl rfl hq dX2_valueState_60 ?_
        refine lv_istore (lv' := [(10, .int (p_firstLeaving (Int32.toNatClampNeg v4))), (8, .long (-1)), (6, .long t0_38), (0, .ref (a 3)), (1, .ref (a 1)), (2, .ref (a 2)), (3, .int v3), (4, .int v4), (5, .int 1)]) hx hb dX2_valueState_61 hl (by decide) rfl (fun ls hl => ?_)
        have LP63 : ∀ (n63 : Nat) (v6_63 : Int64) (v8_63 : Int64) (v10_63 : Int32), lp_X2_valueState_63 v3 v4 p_blocks p_to p_bounds p_leaving p_firstLeaving g_greatestTimes g_leastTimes s_unit s_flag s_forbidding s_most s_fewest Q n63 v6_63 v8_63 v10_63 → ∀ (H : Heap) (locs : List Loc), va_P D vwCl (wC a cI cZ cJ x_agesStand x_searchStands p_blocks p_lines p_edges p_pairs g_sets g_size g_penalty g_comeCount s_answered s_codes s_ordered p_times p_touchCounts p_touchSlots p_lineOfSlot p_from p_to p_bounds p_pairA p_pairB p_leaving p_firstLeaving g_come g_outcomes g_greatestTimes g_leastTimes g_changed g_greatest g_least g_greatestNow g_leastNow s_order s_arriving s_unit s_flag s_forbidding s_most s_fewest) H → va_D A (wC a cI cZ cJ x_agesStand x_searchStands p_blocks p_lines p_edges p_pairs g_sets g_size g_penalty g_comeCount s_answered s_codes s_ordered p_times p_touchCounts p_touchSlots p_lineOfSlot p_from p_to p_bounds p_pairA p_pairB p_leaving p_firstLeaving g_come g_outcomes g_greatestTimes g_leastTimes g_changed g_greatest g_least g_greatestNow g_leastNow s_order s_arriving s_unit s_flag s_forbidding s_most s_fewest) → va_S A s.heap H locs → ∀ (ls : Array Slot), lv_has ls 12 [(0, .ref (a 3)), (1, .ref (a 1)), (2, .ref (a 2)), (3, .int v3), (4, .int v4), (6, .long v6_63), (8, .long v8_63), (10, .int v10_63)] → W p l e (headSpec wsX2_valueState rm_X2_valueState).room s m ([Value.ref (a 3), Value.ref (a 1), Value.ref (a 2), Value.int v3, Value.int v4] : List Value).toArray below meth c H locs 0 0 Qz (F0 m 63 ls []) := by
          intro n63
          induction n63 with
          | zero => intro v6_63 v8_63 v10_63 h; exact h.elim
          | succ n63 ih63 =>
            intro v6_63 v8_63 v10_63 h H locs hP hD hS ls hl
            unfold lp_X2_valueState_63 at h
            refine lv_iload hx hb dX2_valueState_63 (lv_at hl 7 rfl) ?_
            refine lv_aload_n hx hb dX2_valueState_65 rfl (lv_at hl 1 rfl) ?_
            refine va_get (D := D) (ci := 1) (v := .ref (a 14)) (C := RX1) (T := TX1) (N := 15) hx hb hts hinX1 hown hK hP 1 rfl rfl 14 (by decide) (hts (.fieldLink RX2 98 "WorstPaths$Program" "firstLeaving" "[I") (by decide +kernel)) (fun _ h9 => h9) rfl dX2_valueState_66 ?_
            refine lv_iload hx hb dX2_valueState_69 (lv_at hl 4 rfl) ?_
            refine lv_iconst (v := 1) hx hb dX2_valueState_71 (by decide) ?_
            refine lv_iadd hx hb dX2_valueState_72 ?_
            obtain ⟨hq, h⟩ := h
            refine va_iald (D := D) hx hb hK hP 14 0 rfl rfl hq dX2_valueState_73 ?_
            refine lv_icmp_ge (tgt := 165) hx hb dX2_valueState_74 (by decide) (fun hc => ?_) (fun hc => ?_)
            · replace h := h.1 hc
              refine lv_iload_n hx hb dX2_valueState_165 rfl (lv_at hl 3 rfl) ?_
              refine lv_aload_n hx hb dX2_valueState_166 rfl (lv_at hl 1 rfl) ?_
              refine va_get (D := D) (ci := 1) (v := .int p_blocks) (C := RX1) (T := TX1) (N := 15) hx hb hts hinX1 hown hK hP 1 rfl rfl 0 (by decide) (hts (.fieldLink RX2 39 "WorstPaths$Program" "blocks" "I") (by decide +kernel)) (fun _ h9 => h9) rfl dX2_valueState_167 ?_
              refine lv_imul hx hb dX2_valueState_170 ?_
              refine lv_iload hx hb dX2_valueState_171 (lv_at hl 4 rfl) ?_
              refine lv_iadd hx hb dX2_valueState_173 ?_
              refine lv_istore (lv' := [(10, .int ((v3 * p_blocks) + v4)), (0, .ref (a 3)), (1, .ref (a 1)), (2, .ref (a 2)), (3, .int v3), (4, .int v4), (6, .long v6_63), (8, .long v8_63)]) hx hb dX2_valueState_174 hl (by decide) rfl (fun ls hl => ?_)
              refine lv_aload_n hx hb dX2_valueState_176 rfl (lv_at hl 1 rfl) ?_
              refine va_get (D := D) (ci := 2) (v := .ref (a 29)) (C := RX2) (T := TX2) (N := 10) hx hb hts hinX2 hown hK hP 3 rfl rfl 8 (by decide) (hts (.fieldLink RX2 28 "WorstPaths$Search" "most" "[J") (by decide +kernel)) (fun _ h9 => h9) rfl dX2_valueState_177 ?_
              refine lv_iload hx hb dX2_valueState_180 (lv_at hl 0 rfl) ?_
              refine lv_lload hx hb dX2_valueState_182 (lv_at hl 6 rfl) ?_
              refine lv_ldc2 (v := (-1)) hx hb hown (hts (.constantLong RX2 61 ((-1))) (by decide +kernel)) dX2_valueState_184 ?_
              refine W.lcmp hx hb dX2_valueState_187 ?_
              have JP209 : ∀ (t0_209 : Int64), jn_X2_valueState_209 v4 v8_63 ((v3 * p_blocks) + v4) p_blocks p_to p_bounds p_leaving p_firstLeaving g_greatestTimes g_leastTimes s_unit s_flag s_forbidding s_most s_fewest t0_209 ((v3 * p_blocks) + v4) Q → ∀ (H : Heap) (locs : List Loc), va_P D vwCl (wC a cI cZ cJ x_agesStand x_searchStands p_blocks p_lines p_edges p_pairs g_sets g_size g_penalty g_comeCount s_answered s_codes s_ordered p_times p_touchCounts p_touchSlots p_lineOfSlot p_from p_to p_bounds p_pairA p_pairB p_leaving p_firstLeaving g_come g_outcomes g_greatestTimes g_leastTimes g_changed g_greatest g_least g_greatestNow g_leastNow s_order s_arriving s_unit s_flag s_forbidding s_most s_fewest) H → va_D A (wC a cI cZ cJ x_agesStand x_searchStands p_blocks p_lines p_edges p_pairs g_sets g_size g_penalty g_comeCount s_answered s_codes s_ordered p_times p_touchCounts p_touchSlots p_lineOfSlot p_from p_to p_bounds p_pairA p_pairB p_leaving p_firstLeaving g_come g_outcomes g_greatestTimes g_leastTimes g_changed g_greatest g_least g_greatestNow g_leastNow s_order s_arriving s_unit s_flag s_forbidding s_most s_fewest) → va_S A s.heap H locs → ∀ (ls : Array Slot), lv_has ls 12 [(0, .ref (a 3)), (2, .ref (a 2)), (4, .int v4), (8, .long v8_63), (10, .int ((v3 * p_blocks) + v4))] → W p l e (headSpec wsX2_valueState rm_X2_valueState).room s m ([Value.ref (a 3), Value.ref (a 1), Value.ref (a 2), Value.int v3, Value.int v4] : List Value).toArray below meth c H locs 0 0 Qz (F0 m 209 ls [.long t0_209, .int ((v3 * p_blocks) + v4), .ref (a 29)]) := by
                intro t0_209 h H locs hP hD hS ls hl
                unfold jn_X2_valueState_209 at h
                obtain ⟨hq, h⟩ := h
                refine va_last (D := D) hx hb hK hP hD hS 29 2 rfl rfl hq dX2_valueState_209 (fun H locs hP hD hS => ?_)
                have hP : va_P D vwCl (wC a cI cZ cJ x_agesStand x_searchStands p_blocks p_lines p_edges p_pairs g_sets g_size g_penalty g_comeCount s_answered s_codes s_ordered p_times p_touchCounts p_touchSlots p_lineOfSlot p_from p_to p_bounds p_pairA p_pairB p_leaving p_firstLeaving g_come g_outcomes g_greatestTimes g_leastTimes g_changed g_greatest g_least g_greatestNow g_leastNow s_order s_arriving s_unit s_flag s_forbidding (vp_updL s_most (Int32.toNatClampNeg ((v3 * p_blocks) + v4)) t0_209) s_fewest) H := hP
                have hD : va_D A (wC a cI cZ cJ x_agesStand x_searchStands p_blocks p_lines p_edges p_pairs g_sets g_size g_penalty g_comeCount s_answered s_codes s_ordered p_times p_touchCounts p_touchSlots p_lineOfSlot p_from p_to p_bounds p_pairA p_pairB p_leaving p_firstLeaving g_come g_outcomes g_greatestTimes g_leastTimes g_changed g_greatest g_least g_greatestNow g_leastNow s_order s_arriving s_unit s_flag s_forbidding (vp_updL s_most (Int32.toNatClampNeg ((v3 * p_blocks) + v4)) t0_209) s_fewest) := hD
                refine lv_aload_n hx hb dX2_valueState_210 rfl (lv_at hl 0 rfl) ?_
                refine va_get (D := D) (ci := 2) (v := .ref (a 30)) (C := RX2) (T := TX2) (N := 10) hx hb hts hinX2 hown hK hP 3 rfl rfl 9 (by decide) (hts (.fieldLink RX2 32 "WorstPaths$Search" "fewest" "[J") (by decide +kernel)) (fun _ h9 => h9) rfl dX2_valueState_211 ?_
                refine lv_iload hx hb dX2_valueState_214 (lv_at hl 4 rfl) ?_
                refine lv_lload hx hb dX2_valueState_216 (lv_at hl 3 rfl) ?_
                refine lv_ldc2 (v := (-1)) hx hb hown (hts (.constantLong RX2 61 ((-1))) (by decide +kernel)) dX2_valueState_218 ?_
                refine W.lcmp hx hb dX2_valueState_221 ?_
                refine lv_if_ne (tgt := 231) hx hb dX2_valueState_222 (by decide) (fun hc => ?_) (fun hc => ?_)
                · replace h := h.1 hc
                  refine lv_lload hx hb dX2_valueState_231 (lv_at hl 3 rfl) ?_
                  refine lv_aload_n hx hb dX2_valueState_233 rfl (lv_at hl 1 rfl) ?_
                  refine lv_iconst (v := 1) hx hb dX2_valueState_234 (by decide) ?_
                  · skip
                    have hF := wz_free hD hS hA
                    refine va_callr (va_runV (As := [.int 1]) (rest := [.long v8_63, .int ((v3 * p_blocks) + v4), .ref (a 30)]) ⟨hx, hb, hml, hown, hts⟩ (c_X0_timesBy_1 l D a cI cZ cJ _ x_agesStand x_searchStands p_blocks p_lines p_edges p_pairs g_sets g_size g_penalty g_comeCount s_answered s_codes s_ordered p_times p_touchCounts p_touchSlots p_lineOfSlot p_from p_to p_bounds p_pairA p_pairB p_leaving p_firstLeaving g_come g_outcomes g_greatestTimes g_leastTimes g_changed g_greatest g_least g_greatestNow g_leastNow s_order s_arriving s_unit s_flag s_forbidding (vp_updL s_most (Int32.toNatClampNeg ((v3 * p_blocks) + v4)) t0_209) s_fewest 1 (by decide)) (cwV 1 hts gX2_valueState_X0_timesBy rfl rfl rfl (by decide +kernel) ⟨Nat.le_of_ble_eq_true rfl, Nat.le_of_ble_eq_true rfl⟩) ⟨wz_blind, va_recv hK hP (ci := 0) (q0 := 2) rfl rfl, fun U hU hW => wz_at hU hW hP hK hD⟩ rfl rfl hl.1 rfl (lv_room (Nat.le_of_ble_eq_true rfl)) dX2_valueState_235 ⟨Nat.zero_le _, Nat.zero_le _⟩) hS (fun q _ hq => hF q hq) hF (fun u ra t H locs ht hvm hw hB hz1 hk1 hS => ?_)
                    obtain ⟨rfl, hB⟩ := hB
                    obtain ⟨hP, -, hD⟩ := wz_back ht hF hB
                    have hP : va_P D vwCl (wC a cI cZ cJ x_agesStand x_searchStands p_blocks p_lines p_edges p_pairs g_sets g_size g_penalty g_comeCount s_answered s_codes s_ordered p_times p_touchCounts p_touchSlots p_lineOfSlot p_from p_to p_bounds p_pairA p_pairB p_leaving p_firstLeaving g_come g_outcomes g_greatestTimes g_leastTimes g_changed g_greatest g_least g_greatestNow g_leastNow s_order s_arriving s_unit s_flag s_forbidding (vp_updL s_most (Int32.toNatClampNeg ((v3 * p_blocks) + v4)) t0_209) s_fewest) H := hP
                    have hD : va_D A (wC a cI cZ cJ x_agesStand x_searchStands p_blocks p_lines p_edges p_pairs g_sets g_size g_penalty g_comeCount s_answered s_codes s_ordered p_times p_touchCounts p_touchSlots p_lineOfSlot p_from p_to p_bounds p_pairA p_pairB p_leaving p_firstLeaving g_come g_outcomes g_greatestTimes g_leastTimes g_changed g_greatest g_least g_greatestNow g_leastNow s_order s_arriving s_unit s_flag s_forbidding (vp_updL s_most (Int32.toNatClampNeg ((v3 * p_blocks) + v4)) t0_209) s_fewest) := hD
                    refine lv_iload hx hb dX2_valueState_238 (lv_at hl 2 rfl) ?_
                    obtain ⟨hq, h⟩ := h
                    refine va_iald (D := D) hx hb hK hP 18 0 rfl rfl hq dX2_valueState_240 ?_
                    refine lv_i2l hx hb dX2_valueState_241 rfl ?_
                    refine lv_ladd hx hb dX2_valueState_242 ?_
                    obtain ⟨hq, h⟩ := h
                    refine va_last (D := D) hx hb hK hP hD hS 30 2 rfl rfl hq dX2_valueState_243 (fun H locs hP hD hS => ?_)
                    have hP : va_P D vwCl (wC a cI cZ cJ x_agesStand x_searchStands p_blocks p_lines p_edges p_pairs g_sets g_size g_penalty g_comeCount s_answered s_codes s_ordered p_times p_touchCounts p_touchSlots p_lineOfSlot p_from p_to p_bounds p_pairA p_pairB p_leaving p_firstLeaving g_come g_outcomes g_greatestTimes g_leastTimes g_changed g_greatest g_least g_greatestNow g_leastNow s_order s_arriving s_unit s_flag s_forbidding (vp_updL s_most (Int32.toNatClampNeg ((v3 * p_blocks) + v4)) t0_209) (vp_updL s_fewest (Int32.toNatClampNeg ((v3 * p_blocks) + v4)) (v8_63 + (Int32.toInt64 (g_leastTimes (Int32.toNatClampNeg v4)))))) H := hP
                    have hD : va_D A (wC a cI cZ cJ x_agesStand x_searchStands p_blocks p_lines p_edges p_pairs g_sets g_size g_penalty g_comeCount s_answered s_codes s_ordered p_times p_touchCounts p_touchSlots p_lineOfSlot p_from p_to p_bounds p_pairA p_pairB p_leaving p_firstLeaving g_come g_outcomes g_greatestTimes g_leastTimes g_changed g_greatest g_least g_greatestNow g_leastNow s_order s_arriving s_unit s_flag s_forbidding (vp_updL s_most (Int32.toNatClampNeg ((v3 * p_blocks) + v4)) t0_209) (vp_updL s_fewest (Int32.toNatClampNeg ((v3 * p_blocks) + v4)) (v8_63 + (Int32.toInt64 (g_leastTimes (Int32.toNatClampNeg v4)))))) := hD
                    refine wz_mono hQz ?_
                    exact W.vret hx hb hr (fun t ht hW => ⟨⟨((vp_updL s_most (Int32.toNatClampNeg ((v3 * p_blocks) + v4)) t0_209), (vp_updL s_fewest (Int32.toNatClampNeg ((v3 * p_blocks) + v4)) (v8_63 + (Int32.toInt64 (g_leastTimes (Int32.toNatClampNeg v4)))))), rfl, h, by rw [ht]; exact hP, va_K.moved hW.alike hK, hD⟩, hS.F ht⟩) hS.2.2 dX2_valueState_244
                · replace h := h.2 hc
                  refine lv_ldc2 (v := (-1)) hx hb hown (hts (.constantLong RX2 61 ((-1))) (by decide +kernel)) dX2_valueState_225 ?_
                  refine lv_goto (tgt := 243) hx hb dX2_valueState_228 (by decide) ?_
                  obtain ⟨hq, h⟩ := h
                  refine va_last (D := D) hx hb hK hP hD hS 30 2 rfl rfl hq dX2_valueState_243 (fun H locs hP hD hS => ?_)
                  have hP : va_P D vwCl (wC a cI cZ cJ x_agesStand x_searchStands p_blocks p_lines p_edges p_pairs g_sets g_size g_penalty g_comeCount s_answered s_codes s_ordered p_times p_touchCounts p_touchSlots p_lineOfSlot p_from p_to p_bounds p_pairA p_pairB p_leaving p_firstLeaving g_come g_outcomes g_greatestTimes g_leastTimes g_changed g_greatest g_least g_greatestNow g_leastNow s_order s_arriving s_unit s_flag s_forbidding (vp_updL s_most (Int32.toNatClampNeg ((v3 * p_blocks) + v4)) t0_209) (vp_updL s_fewest (Int32.toNatClampNeg ((v3 * p_blocks) + v4)) (-1))) H := hP
                  have hD : va_D A (wC a cI cZ cJ x_agesStand x_searchStands p_blocks p_lines p_edges p_pairs g_sets g_size g_penalty g_comeCount s_answered s_codes s_ordered p_times p_touchCounts p_touchSlots p_lineOfSlot p_from p_to p_bounds p_pairA p_pairB p_leaving p_firstLeaving g_come g_outcomes g_greatestTimes g_leastTimes g_changed g_greatest g_least g_greatestNow g_leastNow s_order s_arriving s_unit s_flag s_forbidding (vp_updL s_most (Int32.toNatClampNeg ((v3 * p_blocks) + v4)) t0_209) (vp_updL s_fewest (Int32.toNatClampNeg ((v3 * p_blocks) + v4)) (-1))) := hD
                  refine wz_mono hQz ?_
                  exact W.vret hx hb hr (fun t ht hW => ⟨⟨((vp_updL s_most (Int32.toNatClampNeg ((v3 * p_blocks) + v4)) t0_209), (vp_updL s_fewest (Int32.toNatClampNeg ((v3 * p_blocks) + v4)) (-1))), rfl, h, by rw [ht]; exact hP, va_K.moved hW.alike hK, hD⟩, hS.F ht⟩) hS.2.2 dX2_valueState_244
              refine lv_if_ne (tgt := 197) hx hb dX2_valueState_188 (by decide) (fun hc => ?_) (fun hc => ?_)
              · replace h := h.1 hc
                refine lv_lload hx hb dX2_valueState_197 (lv_at hl 6 rfl) ?_
                refine lv_aload_n hx hb dX2_valueState_199 rfl (lv_at hl 3 rfl) ?_
                refine lv_iconst (v := 0) hx hb dX2_valueState_200 (by decide) ?_
                · skip
                  have hF := wz_free hD hS hA
                  refine va_callr (va_runV (As := [.int 0]) (rest := [.long v6_63, .int ((v3 * p_blocks) + v4), .ref (a 29)]) ⟨hx, hb, hml, hown, hts⟩ (c_X0_timesBy_0 l D a cI cZ cJ _ x_agesStand x_searchStands p_blocks p_lines p_edges p_pairs g_sets g_size g_penalty g_comeCount s_answered s_codes s_ordered p_times p_touchCounts p_touchSlots p_lineOfSlot p_from p_to p_bounds p_pairA p_pairB p_leaving p_firstLeaving g_come g_outcomes g_greatestTimes g_leastTimes g_changed g_greatest g_least g_greatestNow g_leastNow s_order s_arriving s_unit s_flag s_forbidding s_most s_fewest 0 (by decide)) (cwV 1 hts gX2_valueState_X0_timesBy rfl rfl rfl (by decide +kernel) ⟨Nat.le_of_ble_eq_true rfl, Nat.le_of_ble_eq_true rfl⟩) ⟨wz_blind, va_recv hK hP (ci := 0) (q0 := 2) rfl rfl, fun U hU hW => wz_at hU hW hP hK hD⟩ rfl rfl hl.1 rfl (lv_room (Nat.le_of_ble_eq_true rfl)) dX2_valueState_201 ⟨Nat.zero_le _, Nat.zero_le _⟩) hS (fun q _ hq => hF q hq) hF (fun u ra t H locs ht hvm hw hB hz1 hk1 hS => ?_)
                  obtain ⟨rfl, hB⟩ := hB
                  obtain ⟨hP, -, hD⟩ := wz_back ht hF hB
                  have hP : va_P D vwCl (wC a cI cZ cJ x_agesStand x_searchStands p_blocks p_lines p_edges p_pairs g_sets g_size g_penalty g_comeCount s_answered s_codes s_ordered p_times p_touchCounts p_touchSlots p_lineOfSlot p_from p_to p_bounds p_pairA p_pairB p_leaving p_firstLeaving g_come g_outcomes g_greatestTimes g_leastTimes g_changed g_greatest g_least g_greatestNow g_leastNow s_order s_arriving s_unit s_flag s_forbidding s_most s_fewest) H := hP
                  have hD : va_D A (wC a cI cZ cJ x_agesStand x_searchStands p_blocks p_lines p_edges p_pairs g_sets g_size g_penalty g_comeCount s_answered s_codes s_ordered p_times p_touchCounts p_touchSlots p_lineOfSlot p_from p_to p_bounds p_pairA p_pairB p_leaving p_firstLeaving g_come g_outcomes g_greatestTimes g_leastTimes g_changed g_greatest g_least g_greatestNow g_leastNow s_order s_arriving s_unit s_flag s_forbidding s_most s_fewest) := hD
                  refine lv_iload hx hb dX2_valueState_204 (lv_at hl 5 rfl) ?_
                  obtain ⟨hq, h⟩ := h
                  refine va_iald (D := D) hx hb hK hP 17 0 rfl rfl hq dX2_valueState_206 ?_
                  refine lv_i2l hx hb dX2_valueState_207 rfl ?_
                  refine lv_ladd hx hb dX2_valueState_208 ?_
                  exact JP209 (v6_63 + (Int32.toInt64 (g_greatestTimes (Int32.toNatClampNeg v4)))) h _ _ hP hD hS _ (lv_sub hl [1, 3, 5, 7, 0] rfl)
              · replace h := h.2 hc
                refine lv_ldc2 (v := (-1)) hx hb hown (hts (.constantLong RX2 61 ((-1))) (by decide +kernel)) dX2_valueState_191 ?_
                refine lv_goto (tgt := 209) hx hb dX2_valueState_194 (by decide) ?_
                exact JP209 (-1) h _ _ hP hD hS _ (lv_sub hl [1, 3, 5, 7, 0] rfl)
            · replace h := h.2 hc
              refine lv_aload_n hx hb dX2_valueState_77 rfl (lv_at hl 0 rfl) ?_
              refine lv_aload_n hx hb dX2_valueState_78 rfl (lv_at hl 1 rfl) ?_
              refine lv_aload_n hx hb dX2_valueState_79 rfl (lv_at hl 1 rfl) ?_
              refine va_get (D := D) (ci := 1) (v := .ref (a 13)) (C := RX1) (T := TX1) (N := 15) hx hb hts hinX1 hown hK hP 1 rfl rfl 13 (by decide) (hts (.fieldLink RX2 101 "WorstPaths$Program" "leaving" "[I") (by decide +kernel)) (fun _ h9 => h9) rfl dX2_valueState_80 ?_
              refine lv_iload hx hb dX2_valueState_83 (lv_at hl 7 rfl) ?_
              obtain ⟨hq, h⟩ := h
              refine va_iald (D := D) hx hb hK hP 13 0 rfl rfl hq dX2_valueState_85 ?_
              refine lv_iload_n hx hb dX2_valueState_86 rfl (lv_at hl 3 rfl) ?_
              have hF := wz_free hD hS hA
              refine va_calli (va_runV (As := [.ref (a 1), .int (p_leaving (Int32.toNatClampNeg v10_63)), .int v3]) (rest := []) ⟨hx, hb, hml, hown, hts⟩ (c_X2_stateBehind l D a cI cZ cJ _ x_agesStand x_searchStands p_blocks p_lines p_edges p_pairs g_sets g_size g_penalty g_comeCount s_answered s_codes s_ordered p_times p_touchCounts p_touchSlots p_lineOfSlot p_from p_to p_bounds p_pairA p_pairB p_leaving p_firstLeaving g_come g_outcomes g_greatestTimes g_leastTimes g_changed g_greatest g_least g_greatestNow g_leastNow s_order s_arriving s_unit s_flag s_forbidding s_most s_fewest (p_leaving (Int32.toNatClampNeg v10_63)) v3 _ h) (cwV 3 hts gX2_valueState_X2_stateBehind rfl rfl rfl (by decide +kernel) ⟨Nat.le_of_ble_eq_true rfl, Nat.le_of_ble_eq_true rfl⟩) ⟨wz_blind, va_recv hK hP (ci := 2) (q0 := 3) rfl rfl, fun U hU hW => wz_at hU hW hP hK hD⟩ rfl rfl hl.1 rfl (lv_room (Nat.le_of_ble_eq_true rfl)) dX2_valueState_87 ⟨Nat.zero_le _, Nat.zero_le _⟩) hS (fun q _ hq => hF q hq) hF (fun r_87 u t H locs ht hvm h hB hz1 hk1 hS => ?_)
              obtain ⟨hP, -, hD⟩ := wz_back ht hF hB
              have hP : va_P D vwCl (wC a cI cZ cJ x_agesStand x_searchStands p_blocks p_lines p_edges p_pairs g_sets g_size g_penalty g_comeCount s_answered s_codes s_ordered p_times p_touchCounts p_touchSlots p_lineOfSlot p_from p_to p_bounds p_pairA p_pairB p_leaving p_firstLeaving g_come g_outcomes g_greatestTimes g_leastTimes g_changed g_greatest g_least g_greatestNow g_leastNow s_order s_arriving s_unit s_flag s_forbidding s_most s_fewest) H := hP
              have hD : va_D A (wC a cI cZ cJ x_agesStand x_searchStands p_blocks p_lines p_edges p_pairs g_sets g_size g_penalty g_comeCount s_answered s_codes s_ordered p_times p_touchCounts p_touchSlots p_lineOfSlot p_from p_to p_bounds p_pairA p_pairB p_leaving p_firstLeaving g_come g_outcomes g_greatestTimes g_leastTimes g_changed g_greatest g_least g_greatestNow g_leastNow s_order s_arriving s_unit s_flag s_forbidding s_most s_fewest) := hD
              refine lv_istore (lv' := [(11, .int r_87), (0, .ref (a 3)), (1, .ref (a 1)), (2, .ref (a 2)), (3, .int v3), (4, .int v4), (6, .long v6_63), (8, .long v8_63), (10, .int v10_63)]) hx hb dX2_valueState_90 hl (by decide) rfl (fun ls hl => ?_)
              refine lv_iload hx hb dX2_valueState_92 (lv_at hl 0 rfl) ?_
              refine lv_iconst (v := (-1)) hx hb dX2_valueState_94 (by decide) ?_
              refine lv_icmp_eq (tgt := 159) hx hb dX2_valueState_95 (by decide) (fun hc => ?_) (fun hc => ?_)
              · replace h := h.1 hc
                refine lv_iinc (v := (v10_63 + 1)) (lv' := [(10, .int (v10_63 + 1)), (11, .int r_87), (0, .ref (a 3)), (1, .ref (a 1)), (2, .ref (a 2)), (3, .int v3), (4, .int v4), (6, .long v6_63), (8, .long v8_63)]) hx hb dX2_valueState_159 hl (k := 8) rfl rfl (by decide) rfl (fun ls hl => ?_)
                refine lv_goto (tgt := 63) hx hb dX2_valueState_162 (by decide) ?_
                exact ih63 v6_63 v8_63 (v10_63 + 1) h _ _ hP hD hS _ (lv_sub hl [2, 3, 4, 5, 6, 7, 8, 0] rfl)
              · replace h := h.2 hc
                refine lv_aload_n hx hb dX2_valueState_98 rfl (lv_at hl 1 rfl) ?_
                refine va_get (D := D) (ci := 2) (v := .ref (a 29)) (C := RX2) (T := TX2) (N := 10) hx hb hts hinX2 hown hK hP 3 rfl rfl 8 (by decide) (hts (.fieldLink RX2 28 "WorstPaths$Search" "most" "[J") (by decide +kernel)) (fun _ h9 => h9) rfl dX2_valueState_99 ?_
                refine lv_iload hx hb dX2_valueState_102 (lv_at hl 0 rfl) ?_
                obtain ⟨hq, h⟩ := h
                refine va_lald (D := D) hx hb hK hP 29 2 rfl rfl hq dX2_valueState_104 ?_
                refine lv_ldc2 (v := (-1)) hx hb hown (hts (.constantLong RX2 61 ((-1))) (by decide +kernel)) dX2_valueState_105 ?_
                refine W.lcmp hx hb dX2_valueState_108 ?_
                refine lv_if_eq (tgt := 159) hx hb dX2_valueState_109 (by decide) (fun hc => ?_) (fun hc => ?_)
                · replace h := h.1 hc
                  refine lv_iinc (v := (v10_63 + 1)) (lv' := [(10, .int (v10_63 + 1)), (11, .int r_87), (0, .ref (a 3)), (1, .ref (a 1)), (2, .ref (a 2)), (3, .int v3), (4, .int v4), (6, .long v6_63), (8, .long v8_63)]) hx hb dX2_valueState_159 hl (k := 8) rfl rfl (by decide) rfl (fun ls hl => ?_)
                  refine lv_goto (tgt := 63) hx hb dX2_valueState_162 (by decide) ?_
                  exact ih63 v6_63 v8_63 (v10_63 + 1) h _ _ hP hD hS _ (lv_sub hl [2, 3, 4, 5, 6, 7, 8, 0] rfl)
                · replace h := h.2 hc
                  refine lv_lload hx hb dX2_valueState_112 (lv_at hl 6 rfl) ?_
                  refine lv_aload_n hx hb dX2_valueState_114 rfl (lv_at hl 1 rfl) ?_
                  refine va_get (D := D) (ci := 2) (v := .ref (a 29)) (C := RX2) (T := TX2) (N := 10) hx hb hts hinX2 hown hK hP 3 rfl rfl 8 (by decide) (hts (.fieldLink RX2 28 "WorstPaths$Search" "most" "[J") (by decide +kernel)) (fun _ h9 => h9) rfl dX2_valueState_115 ?_
                  refine lv_iload hx hb dX2_valueState_118 (lv_at hl 0 rfl) ?_
                  obtain ⟨hq, h⟩ := h
                  refine va_lald (D := D) hx hb hK hP 29 2 rfl rfl hq dX2_valueState_120 ?_
                  refine va_mmax_long hx hb (hml.trans hl.1.symm) hown (hts (.methodLink RX2 133 Lib.MathLoose.max_long.x) (by decide +kernel)) (hts (.static Lib.MathLoose.max_long.x) (by decide +kernel)) (hts (.initialized "java/lang/Math") (by decide +kernel)) (hts (.code Lib.MathLoose.max_long.x Lib.MathLoose.max_long.code 4 (some .long)) (by decide +kernel)) (Nat.le_of_ble_eq_true rfl) (Nat.le_of_ble_eq_true rfl) (Nat.zero_le _) (Nat.zero_le _) dX2_valueState_121 ?_
                  refine lv_lstore (lv' := [(6, .long (if (s_most (Int32.toNatClampNeg r_87)) < v6_63 then v6_63 else (s_most (Int32.toNatClampNeg r_87)))), (11, .int r_87), (0, .ref (a 3)), (1, .ref (a 1)), (2, .ref (a 2)), (3, .int v3), (4, .int v4), (8, .long v8_63), (10, .int v10_63)]) hx hb dX2_valueState_124 hl (by decide) rfl (fun ls hl => ?_)
                  refine lv_lload hx hb dX2_valueState_126 (lv_at hl 7 rfl) ?_
                  refine lv_ldc2 (v := (-1)) hx hb hown (hts (.constantLong RX2 61 ((-1))) (by decide +kernel)) dX2_valueState_128 ?_
                  refine W.lcmp hx hb dX2_valueState_131 ?_
                  refine lv_if_ne (tgt := 145) hx hb dX2_valueState_132 (by decide) (fun hc => ?_) (fun hc => ?_)
                  · replace h := h.1 hc
                    refine lv_lload hx hb dX2_valueState_145 (lv_at hl 7 rfl) ?_
                    refine lv_aload_n hx hb dX2_valueState_147 rfl (lv_at hl 2 rfl) ?_
                    refine va_get (D := D) (ci := 2) (v := .ref (a 30)) (C := RX2) (T := TX2) (N := 10) hx hb hts hinX2 hown hK hP 3 rfl rfl 9 (by decide) (hts (.fieldLink RX2 32 "WorstPaths$Search" "fewest" "[J") (by decide +kernel)) (fun _ h9 => h9) rfl dX2_valueState_148 ?_
                    refine lv_iload hx hb dX2_valueState_151 (lv_at hl 1 rfl) ?_
                    obtain ⟨hq, h⟩ := h
                    refine va_lald (D := D) hx hb hK hP 30 2 rfl rfl hq dX2_valueState_153 ?_
                    refine va_mmin_long hx hb (hml.trans hl.1.symm) hown (hts (.methodLink RX2 139 Lib.MathLoose.min_long.x) (by decide +kernel)) (hts (.static Lib.MathLoose.min_long.x) (by decide +kernel)) (hts (.initialized "java/lang/Math") (by decide +kernel)) (hts (.code Lib.MathLoose.min_long.x Lib.MathLoose.min_long.code 4 (some .long)) (by decide +kernel)) (Nat.le_of_ble_eq_true rfl) (Nat.le_of_ble_eq_true rfl) (Nat.zero_le _) (Nat.zero_le _) dX2_valueState_154 ?_
                    refine lv_lstore (lv' := [(8, .long (if (s_fewest (Int32.toNatClampNeg r_87)) < v8_63 then (s_fewest (Int32.toNatClampNeg r_87)) else v8_63)), (6, .long (if (s_most (Int32.toNatClampNeg r_87)) < v6_63 then v6_63 else (s_most (Int32.toNatClampNeg r_87)))), (11, .int r_87), (0, .ref (a 3)), (1, .ref (a 1)), (2, .ref (a 2)), (3, .int v3), (4, .int v4), (10, .int v10_63)]) hx hb dX2_valueState_157 hl (by decide) rfl (fun ls hl => ?_)
                    refine lv_iinc (v := (v10_63 + 1)) (lv' := [(10, .int (v10_63 + 1)), (8, .long (if (s_fewest (Int32.toNatClampNeg r_87)) < v8_63 then (s_fewest (Int32.toNatClampNeg r_87)) else v8_63)), (6, .long (if (s_most (Int32.toNatClampNeg r_87)) < v6_63 then v6_63 else (s_most (Int32.toNatClampNeg r_87)))), (11, .int r_87), (0, .ref (a 3)), (1, .ref (a 1)), (2, .ref (a 2)), (3, .int v3), (4, .int v4)]) hx hb dX2_valueState_159 hl (k := 8) rfl rfl (by decide) rfl (fun ls hl => ?_)
                    refine lv_goto (tgt := 63) hx hb dX2_valueState_162 (by decide) ?_
                    exact ih63 (if (s_most (Int32.toNatClampNeg r_87)) < v6_63 then v6_63 else (s_most (Int32.toNatClampNeg r_87))) (if (s_fewest (Int32.toNatClampNeg r_87)) < v8_63 then (s_fewest (Int32.toNatClampNeg r_87)) else v8_63) (v10_63 + 1) h _ _ hP hD hS _ (lv_sub hl [4, 5, 6, 7, 8, 2, 1, 0] rfl)
                  · replace h := h.2 hc
                    refine lv_aload_n hx hb dX2_valueState_135 rfl (lv_at hl 2 rfl) ?_
                    refine va_get (D := D) (ci := 2) (v := .ref (a 30)) (C := RX2) (T := TX2) (N := 10) hx hb hts hinX2 hown hK hP 3 rfl rfl 9 (by decide) (hts (.fieldLink RX2 32 "WorstPaths$Search" "fewest" "[J") (by decide +kernel)) (fun _ h9 => h9) rfl dX2_valueState_136 ?_
                    refine lv_iload hx hb dX2_valueState_139 (lv_at hl 1 rfl) ?_
                    obtain ⟨hq, h⟩ := h
                    refine va_lald (D := D) hx hb hK hP 30 2 rfl rfl hq dX2_valueState_141 ?_
                    refine lv_goto (tgt := 157) hx hb dX2_valueState_142 (by decide) ?_
                    refine lv_lstore (lv' := [(8, .long (s_fewest (Int32.toNatClampNeg r_87))), (6, .long (if (s_most (Int32.toNatClampNeg r_87)) < v6_63 then v6_63 else (s_most (Int32.toNatClampNeg r_87)))), (11, .int r_87), (0, .ref (a 3)), (1, .ref (a 1)), (2, .ref (a 2)), (3, .int v3), (4, .int v4), (10, .int v10_63)]) hx hb dX2_valueState_157 hl (by decide) rfl (fun ls hl => ?_)
                    refine lv_iinc (v := (v10_63 + 1)) (lv' := [(10, .int (v10_63 + 1)), (8, .long (s_fewest (Int32.toNatClampNeg r_87))), (6, .long (if (s_most (Int32.toNatClampNeg r_87)) < v6_63 then v6_63 else (s_most (Int32.toNatClampNeg r_87)))), (11, .int r_87), (0, .ref (a 3)), (1, .ref (a 1)), (2, .ref (a 2)), (3, .int v3), (4, .int v4)]) hx hb dX2_valueState_159 hl (k := 8) rfl rfl (by decide) rfl (fun ls hl => ?_)
                    refine lv_goto (tgt := 63) hx hb dX2_valueState_162 (by decide) ?_
                    exact ih63 (if (s_most (Int32.toNatClampNeg r_87)) < v6_63 then v6_63 else (s_most (Int32.toNatClampNeg r_87))) (s_fewest (Int32.toNatClampNeg r_87)) (v10_63 + 1) h _ _ hP hD hS _ (lv_sub hl [4, 5, 6, 7, 8, 2, 1, 0] rfl)
        obtain ⟨k9, h⟩ := h
        exact LP63 k9 t0_38 (-1) (p_firstLeaving (Int32.toNatClampNeg v4)) h _ _ hP hD hS _ (lv_sub hl [3, 4, 5, 6, 7, 2, 1, 0] rfl)
      · replace h := h.2 hc
        refine lv_lconst (v := 0) hx hb dX2_valueState_45 (by decide) ?_
        refine lv_goto (tgt := 52) hx hb dX2_valueState_46 (by decide) ?_
        refine lv_lstore (lv' := [(8, .long 0), (6, .long t0_38), (0, .ref (a 3)), (1, .ref (a 1)), (2, .ref (a 2)), (3, .int v3), (4, .int v4), (5, .int 1)]) hx hb dX2_valueState_52 hl (by decide) rfl (fun ls hl => ?_)
        refine lv_aload_n hx hb dX2_valueState_54 rfl (lv_at hl 3 rfl) ?_
        refine va_get (D := D) (ci := 1) (v := .ref (a 14)) (C := RX1) (T := TX1) (N := 15) hx hb hts hinX1 hown hK hP 1 rfl rfl 14 (by decide) (hts (.fieldLink RX2 98 "WorstPaths$Program" "firstLeaving" "[I") (by decide +kernel)) (fun _ h9 => h9) rfl dX2_valueState_55 ?_
        refine lv_iload hx hb dX2_valueState_58 (lv_at hl 6 rfl) ?_
        obtain ⟨hq, h⟩ := h
        refine va_iald (D := D) hx hb hK hP 14 0 rfl rfl hq dX2_valueState_60 ?_
        refine lv_istore (lv' := [(10, .int (p_firstLeaving (Int32.toNatClampNeg v4))), (8, .long 0), (6, .long t0_38), (0, .ref (a 3)), (1, .ref (a 1)), (2, .ref (a 2)), (3, .int v3), (4, .int v4), (5, .int 1)]) hx hb dX2_valueState_61 hl (by decide) rfl (fun ls hl => ?_)
        have LP63 : ∀ (n63 : Nat) (v6_63 : Int64) (v8_63 : Int64) (v10_63 : Int32), lp_X2_valueState_63 v3 v4 p_blocks p_to p_bounds p_leaving p_firstLeaving g_greatestTimes g_leastTimes s_unit s_flag s_forbidding s_most s_fewest Q n63 v6_63 v8_63 v10_63 → ∀ (H : Heap) (locs : List Loc), va_P D vwCl (wC a cI cZ cJ x_agesStand x_searchStands p_blocks p_lines p_edges p_pairs g_sets g_size g_penalty g_comeCount s_answered s_codes s_ordered p_times p_touchCounts p_touchSlots p_lineOfSlot p_from p_to p_bounds p_pairA p_pairB p_leaving p_firstLeaving g_come g_outcomes g_greatestTimes g_leastTimes g_changed g_greatest g_least g_greatestNow g_leastNow s_order s_arriving s_unit s_flag s_forbidding s_most s_fewest) H → va_D A (wC a cI cZ cJ x_agesStand x_searchStands p_blocks p_lines p_edges p_pairs g_sets g_size g_penalty g_comeCount s_answered s_codes s_ordered p_times p_touchCounts p_touchSlots p_lineOfSlot p_from p_to p_bounds p_pairA p_pairB p_leaving p_firstLeaving g_come g_outcomes g_greatestTimes g_leastTimes g_changed g_greatest g_least g_greatestNow g_leastNow s_order s_arriving s_unit s_flag s_forbidding s_most s_fewest) → va_S A s.heap H locs → ∀ (ls : Array Slot), lv_has ls 12 [(0, .ref (a 3)), (1, .ref (a 1)), (2, .ref (a 2)), (3, .int v3), (4, .int v4), (6, .long v6_63), (8, .long v8_63), (10, .int v10_63)] → W p l e (headSpec wsX2_valueState rm_X2_valueState).room s m ([Value.ref (a 3), Value.ref (a 1), Value.ref (a 2), Value.int v3, Value.int v4] : List Value).toArray below meth c H locs 0 0 Qz (F0 m 63 ls []) := by
          intro n63
          induction n63 with
          | zero => intro v6_63 v8_63 v10_63 h; exact h.elim
          | succ n63 ih63 =>
            intro v6_63 v8_63 v10_63 h H locs hP hD hS ls hl
            unfold lp_X2_valueState_63 at h
            refine lv_iload hx hb dX2_valueState_63 (lv_at hl 7 rfl) ?_
            refine lv_aload_n hx hb dX2_valueState_65 rfl (lv_at hl 1 rfl) ?_
            refine va_get (D := D) (ci := 1) (v := .ref (a 14)) (C := RX1) (T := TX1) (N := 15) hx hb hts hinX1 hown hK hP 1 rfl rfl 14 (by decide) (hts (.fieldLink RX2 98 "WorstPaths$Program" "firstLeaving" "[I") (by decide +kernel)) (fun _ h9 => h9) rfl dX2_valueState_66 ?_
            refine lv_iload hx hb dX2_valueState_69 (lv_at hl 4 rfl) ?_
            refine lv_iconst (v := 1) hx hb dX2_valueState_71 (by decide) ?_
            refine lv_iadd hx hb dX2_valueState_72 ?_
            obtain ⟨hq, h⟩ := h
            refine va_iald (D := D) hx hb hK hP 14 0 rfl rfl hq dX2_valueState_73 ?_
            refine lv_icmp_ge (tgt := 165) hx hb dX2_valueState_74 (by decide) (fun hc => ?_) (fun hc => ?_)
            · replace h := h.1 hc
              refine lv_iload_n hx hb dX2_valueState_165 rfl (lv_at hl 3 rfl) ?_
              refine lv_aload_n hx hb dX2_valueState_166 rfl (lv_at hl 1 rfl) ?_
              refine va_get (D := D) (ci := 1) (v := .int p_blocks) (C := RX1) (T := TX1) (N := 15) hx hb hts hinX1 hown hK hP 1 rfl rfl 0 (by decide) (hts (.fieldLink RX2 39 "WorstPaths$Program" "blocks" "I") (by decide +kernel)) (fun _ h9 => h9) rfl dX2_valueState_167 ?_
              refine lv_imul hx hb dX2_valueState_170 ?_
              refine lv_iload hx hb dX2_valueState_171 (lv_at hl 4 rfl) ?_
              refine lv_iadd hx hb dX2_valueState_173 ?_
              refine lv_istore (lv' := [(10, .int ((v3 * p_blocks) + v4)), (0, .ref (a 3)), (1, .ref (a 1)), (2, .ref (a 2)), (3, .int v3), (4, .int v4), (6, .long v6_63), (8, .long v8_63)]) hx hb dX2_valueState_174 hl (by decide) rfl (fun ls hl => ?_)
              refine lv_aload_n hx hb dX2_valueState_176 rfl (lv_at hl 1 rfl) ?_
              refine va_get (D := D) (ci := 2) (v := .ref (a 29)) (C := RX2) (T := TX2) (N := 10) hx hb hts hinX2 hown hK hP 3 rfl rfl 8 (by decide) (hts (.fieldLink RX2 28 "WorstPaths$Search" "most" "[J") (by decide +kernel)) (fun _ h9 => h9) rfl dX2_valueState_177 ?_
              refine lv_iload hx hb dX2_valueState_180 (lv_at hl 0 rfl) ?_
              refine lv_lload hx hb dX2_valueState_182 (lv_at hl 6 rfl) ?_
              refine lv_ldc2 (v := (-1)) hx hb hown (hts (.constantLong RX2 61 ((-1))) (by decide +kernel)) dX2_valueState_184 ?_
              refine W.lcmp hx hb dX2_valueState_187 ?_
              have JP209 : ∀ (t0_209 : Int64), jn_X2_valueState_209 v4 v8_63 ((v3 * p_blocks) + v4) p_blocks p_to p_bounds p_leaving p_firstLeaving g_greatestTimes g_leastTimes s_unit s_flag s_forbidding s_most s_fewest t0_209 ((v3 * p_blocks) + v4) Q → ∀ (H : Heap) (locs : List Loc), va_P D vwCl (wC a cI cZ cJ x_agesStand x_searchStands p_blocks p_lines p_edges p_pairs g_sets g_size g_penalty g_comeCount s_answered s_codes s_ordered p_times p_touchCounts p_touchSlots p_lineOfSlot p_from p_to p_bounds p_pairA p_pairB p_leaving p_firstLeaving g_come g_outcomes g_greatestTimes g_leastTimes g_changed g_greatest g_least g_greatestNow g_leastNow s_order s_arriving s_unit s_flag s_forbidding s_most s_fewest) H → va_D A (wC a cI cZ cJ x_agesStand x_searchStands p_blocks p_lines p_edges p_pairs g_sets g_size g_penalty g_comeCount s_answered s_codes s_ordered p_times p_touchCounts p_touchSlots p_lineOfSlot p_from p_to p_bounds p_pairA p_pairB p_leaving p_firstLeaving g_come g_outcomes g_greatestTimes g_leastTimes g_changed g_greatest g_least g_greatestNow g_leastNow s_order s_arriving s_unit s_flag s_forbidding s_most s_fewest) → va_S A s.heap H locs → ∀ (ls : Array Slot), lv_has ls 12 [(0, .ref (a 3)), (2, .ref (a 2)), (4, .int v4), (8, .long v8_63), (10, .int ((v3 * p_blocks) + v4))] → W p l e (headSpec wsX2_valueState rm_X2_valueState).room s m ([Value.ref (a 3), Value.ref (a 1), Value.ref (a 2), Value.int v3, Value.int v4] : List Value).toArray below meth c H locs 0 0 Qz (F0 m 209 ls [.long t0_209, .int ((v3 * p_blocks) + v4), .ref (a 29)]) := by
                intro t0_209 h H locs hP hD hS ls hl
                unfold jn_X2_valueState_209 at h
                obtain ⟨hq, h⟩ := h
                refine va_last (D := D) hx hb hK hP hD hS 29 2 rfl rfl hq dX2_valueState_209 (fun H locs hP hD hS => ?_)
                have hP : va_P D vwCl (wC a cI cZ cJ x_agesStand x_searchStands p_blocks p_lines p_edges p_pairs g_sets g_size g_penalty g_comeCount s_answered s_codes s_ordered p_times p_touchCounts p_touchSlots p_lineOfSlot p_from p_to p_bounds p_pairA p_pairB p_leaving p_firstLeaving g_come g_outcomes g_greatestTimes g_leastTimes g_changed g_greatest g_least g_greatestNow g_leastNow s_order s_arriving s_unit s_flag s_forbidding (vp_updL s_most (Int32.toNatClampNeg ((v3 * p_blocks) + v4)) t0_209) s_fewest) H := hP
                have hD : va_D A (wC a cI cZ cJ x_agesStand x_searchStands p_blocks p_lines p_edges p_pairs g_sets g_size g_penalty g_comeCount s_answered s_codes s_ordered p_times p_touchCounts p_touchSlots p_lineOfSlot p_from p_to p_bounds p_pairA p_pairB p_leaving p_firstLeaving g_come g_outcomes g_greatestTimes g_leastTimes g_changed g_greatest g_least g_greatestNow g_leastNow s_order s_arriving s_unit s_flag s_forbidding (vp_updL s_most (Int32.toNatClampNeg ((v3 * p_blocks) + v4)) t0_209) s_fewest) := hD
                refine lv_aload_n hx hb dX2_valueState_210 rfl (lv_at hl 0 rfl) ?_
                refine va_get (D := D) (ci := 2) (v := .ref (a 30)) (C := RX2) (T := TX2) (N := 10) hx hb hts hinX2 hown hK hP 3 rfl rfl 9 (by decide) (hts (.fieldLink RX2 32 "WorstPaths$Search" "fewest" "[J") (by decide +kernel)) (fun _ h9 => h9) rfl dX2_valueState_211 ?_
                refine lv_iload hx hb dX2_valueState_214 (lv_at hl 4 rfl) ?_
                refine lv_lload hx hb dX2_valueState_216 (lv_at hl 3 rfl) ?_
                refine lv_ldc2 (v := (-1)) hx hb hown (hts (.constantLong RX2 61 ((-1))) (by decide +kernel)) dX2_valueState_218 ?_
                refine W.lcmp hx hb dX2_valueState_221 ?_
                refine lv_if_ne (tgt := 231) hx hb dX2_valueState_222 (by decide) (fun hc => ?_) (fun hc => ?_)
                · replace h := h.1 hc
                  refine lv_lload hx hb dX2_valueState_231 (lv_at hl 3 rfl) ?_
                  refine lv_aload_n hx hb dX2_valueState_233 rfl (lv_at hl 1 rfl) ?_
                  refine lv_iconst (v := 1) hx hb dX2_valueState_234 (by decide) ?_
                  · skip
                    have hF := wz_free hD hS hA
                    refine va_callr (va_runV (As := [.int 1]) (rest := [.long v8_63, .int ((v3 * p_blocks) + v4), .ref (a 30)]) ⟨hx, hb, hml, hown, hts⟩ (c_X0_timesBy_1 l D a cI cZ cJ _ x_agesStand x_searchStands p_blocks p_lines p_edges p_pairs g_sets g_size g_penalty g_comeCount s_answered s_codes s_ordered p_times p_touchCounts p_touchSlots p_lineOfSlot p_from p_to p_bounds p_pairA p_pairB p_leaving p_firstLeaving g_come g_outcomes g_greatestTimes g_leastTimes g_changed g_greatest g_least g_greatestNow g_leastNow s_order s_arriving s_unit s_flag s_forbidding (vp_updL s_most (Int32.toNatClampNeg ((v3 * p_blocks) + v4)) t0_209) s_fewest 1 (by decide)) (cwV 1 hts gX2_valueState_X0_timesBy rfl rfl rfl (by decide +kernel) ⟨Nat.le_of_ble_eq_true rfl, Nat.le_of_ble_eq_true rfl⟩) ⟨wz_blind, va_recv hK hP (ci := 0) (q0 := 2) rfl rfl, fun U hU hW => wz_at hU hW hP hK hD⟩ rfl rfl hl.1 rfl (lv_room (Nat.le_of_ble_eq_true rfl)) dX2_valueState_235 ⟨Nat.zero_le _, Nat.zero_le _⟩) hS (fun q _ hq => hF q hq) hF (fun u ra t H locs ht hvm hw hB hz1 hk1 hS => ?_)
                    obtain ⟨rfl, hB⟩ := hB
                    obtain ⟨hP, -, hD⟩ := wz_back ht hF hB
                    have hP : va_P D vwCl (wC a cI cZ cJ x_agesStand x_searchStands p_blocks p_lines p_edges p_pairs g_sets g_size g_penalty g_comeCount s_answered s_codes s_ordered p_times p_touchCounts p_touchSlots p_lineOfSlot p_from p_to p_bounds p_pairA p_pairB p_leaving p_firstLeaving g_come g_outcomes g_greatestTimes g_leastTimes g_changed g_greatest g_least g_greatestNow g_leastNow s_order s_arriving s_unit s_flag s_forbidding (vp_updL s_most (Int32.toNatClampNeg ((v3 * p_blocks) + v4)) t0_209) s_fewest) H := hP
                    have hD : va_D A (wC a cI cZ cJ x_agesStand x_searchStands p_blocks p_lines p_edges p_pairs g_sets g_size g_penalty g_comeCount s_answered s_codes s_ordered p_times p_touchCounts p_touchSlots p_lineOfSlot p_from p_to p_bounds p_pairA p_pairB p_leaving p_firstLeaving g_come g_outcomes g_greatestTimes g_leastTimes g_changed g_greatest g_least g_greatestNow g_leastNow s_order s_arriving s_unit s_flag s_forbidding (vp_updL s_most (Int32.toNatClampNeg ((v3 * p_blocks) + v4)) t0_209) s_fewest) := hD
                    refine lv_iload hx hb dX2_valueState_238 (lv_at hl 2 rfl) ?_
                    obtain ⟨hq, h⟩ := h
                    refine va_iald (D := D) hx hb hK hP 18 0 rfl rfl hq dX2_valueState_240 ?_
                    refine lv_i2l hx hb dX2_valueState_241 rfl ?_
                    refine lv_ladd hx hb dX2_valueState_242 ?_
                    obtain ⟨hq, h⟩ := h
                    refine va_last (D := D) hx hb hK hP hD hS 30 2 rfl rfl hq dX2_valueState_243 (fun H locs hP hD hS => ?_)
                    have hP : va_P D vwCl (wC a cI cZ cJ x_agesStand x_searchStands p_blocks p_lines p_edges p_pairs g_sets g_size g_penalty g_comeCount s_answered s_codes s_ordered p_times p_touchCounts p_touchSlots p_lineOfSlot p_from p_to p_bounds p_pairA p_pairB p_leaving p_firstLeaving g_come g_outcomes g_greatestTimes g_leastTimes g_changed g_greatest g_least g_greatestNow g_leastNow s_order s_arriving s_unit s_flag s_forbidding (vp_updL s_most (Int32.toNatClampNeg ((v3 * p_blocks) + v4)) t0_209) (vp_updL s_fewest (Int32.toNatClampNeg ((v3 * p_blocks) + v4)) (v8_63 + (Int32.toInt64 (g_leastTimes (Int32.toNatClampNeg v4)))))) H := hP
                    have hD : va_D A (wC a cI cZ cJ x_agesStand x_searchStands p_blocks p_lines p_edges p_pairs g_sets g_size g_penalty g_comeCount s_answered s_codes s_ordered p_times p_touchCounts p_touchSlots p_lineOfSlot p_from p_to p_bounds p_pairA p_pairB p_leaving p_firstLeaving g_come g_outcomes g_greatestTimes g_leastTimes g_changed g_greatest g_least g_greatestNow g_leastNow s_order s_arriving s_unit s_flag s_forbidding (vp_updL s_most (Int32.toNatClampNeg ((v3 * p_blocks) + v4)) t0_209) (vp_updL s_fewest (Int32.toNatClampNeg ((v3 * p_blocks) + v4)) (v8_63 + (Int32.toInt64 (g_leastTimes (Int32.toNatClampNeg v4)))))) := hD
                    refine wz_mono hQz ?_
                    exact W.vret hx hb hr (fun t ht hW => ⟨⟨((vp_updL s_most (Int32.toNatClampNeg ((v3 * p_blocks) + v4)) t0_209), (vp_updL s_fewest (Int32.toNatClampNeg ((v3 * p_blocks) + v4)) (v8_63 + (Int32.toInt64 (g_leastTimes (Int32.toNatClampNeg v4)))))), rfl, h, by rw [ht]; exact hP, va_K.moved hW.alike hK, hD⟩, hS.F ht⟩) hS.2.2 dX2_valueState_244
                · replace h := h.2 hc
                  refine lv_ldc2 (v := (-1)) hx hb hown (hts (.constantLong RX2 61 ((-1))) (by decide +kernel)) dX2_valueState_225 ?_
                  refine lv_goto (tgt := 243) hx hb dX2_valueState_228 (by decide) ?_
                  obtain ⟨hq, h⟩ := h
                  refine va_last (D := D) hx hb hK hP hD hS 30 2 rfl rfl hq dX2_valueState_243 (fun H locs hP hD hS => ?_)
                  have hP : va_P D vwCl (wC a cI cZ cJ x_agesStand x_searchStands p_blocks p_lines p_edges p_pairs g_sets g_size g_penalty g_comeCount s_answered s_codes s_ordered p_times p_touchCounts p_touchSlots p_lineOfSlot p_from p_to p_bounds p_pairA p_pairB p_leaving p_firstLeaving g_come g_outcomes g_greatestTimes g_leastTimes g_changed g_greatest g_least g_greatestNow g_leastNow s_order s_arriving s_unit s_flag s_forbidding (vp_updL s_most (Int32.toNatClampNeg ((v3 * p_blocks) + v4)) t0_209) (vp_updL s_fewest (Int32.toNatClampNeg ((v3 * p_blocks) + v4)) (-1))) H := hP
                  have hD : va_D A (wC a cI cZ cJ x_agesStand x_searchStands p_blocks p_lines p_edges p_pairs g_sets g_size g_penalty g_comeCount s_answered s_codes s_ordered p_times p_touchCounts p_touchSlots p_lineOfSlot p_from p_to p_bounds p_pairA p_pairB p_leaving p_firstLeaving g_come g_outcomes g_greatestTimes g_leastTimes g_changed g_greatest g_least g_greatestNow g_leastNow s_order s_arriving s_unit s_flag s_forbidding (vp_updL s_most (Int32.toNatClampNeg ((v3 * p_blocks) + v4)) t0_209) (vp_updL s_fewest (Int32.toNatClampNeg ((v3 * p_blocks) + v4)) (-1))) := hD
                  refine wz_mono hQz ?_
                  exact W.vret hx hb hr (fun t ht hW => ⟨⟨((vp_updL s_most (Int32.toNatClampNeg ((v3 * p_blocks) + v4)) t0_209), (vp_updL s_fewest (Int32.toNatClampNeg ((v3 * p_blocks) + v4)) (-1))), rfl, h, by rw [ht]; exact hP, va_K.moved hW.alike hK, hD⟩, hS.F ht⟩) hS.2.2 dX2_valueState_244
              refine lv_if_ne (tgt := 197) hx hb dX2_valueState_188 (by decide) (fun hc => ?_) (fun hc => ?_)
              · replace h := h.1 hc
                refine lv_lload hx hb dX2_valueState_197 (lv_at hl 6 rfl) ?_
                refine lv_aload_n hx hb dX2_valueState_199 rfl (lv_at hl 3 rfl) ?_
                refine lv_iconst (v := 0) hx hb dX2_valueState_200 (by decide) ?_
                · skip
                  have hF := wz_free hD hS hA
                  refine va_callr (va_runV (As := [.int 0]) (rest := [.long v6_63, .int ((v3 * p_blocks) + v4), .ref (a 29)]) ⟨hx, hb, hml, hown, hts⟩ (c_X0_timesBy_0 l D a cI cZ cJ _ x_agesStand x_searchStands p_blocks p_lines p_edges p_pairs g_sets g_size g_penalty g_comeCount s_answered s_codes s_ordered p_times p_touchCounts p_touchSlots p_lineOfSlot p_from p_to p_bounds p_pairA p_pairB p_leaving p_firstLeaving g_come g_outcomes g_greatestTimes g_leastTimes g_changed g_greatest g_least g_greatestNow g_leastNow s_order s_arriving s_unit s_flag s_forbidding s_most s_fewest 0 (by decide)) (cwV 1 hts gX2_valueState_X0_timesBy rfl rfl rfl (by decide +kernel) ⟨Nat.le_of_ble_eq_true rfl, Nat.le_of_ble_eq_true rfl⟩) ⟨wz_blind, va_recv hK hP (ci := 0) (q0 := 2) rfl rfl, fun U hU hW => wz_at hU hW hP hK hD⟩ rfl rfl hl.1 rfl (lv_room (Nat.le_of_ble_eq_true rfl)) dX2_valueState_201 ⟨Nat.zero_le _, Nat.zero_le _⟩) hS (fun q _ hq => hF q hq) hF (fun u ra t H locs ht hvm hw hB hz1 hk1 hS => ?_)
                  obtain ⟨rfl, hB⟩ := hB
                  obtain ⟨hP, -, hD⟩ := wz_back ht hF hB
                  have hP : va_P D vwCl (wC a cI cZ cJ x_agesStand x_searchStands p_blocks p_lines p_edges p_pairs g_sets g_size g_penalty g_comeCount s_answered s_codes s_ordered p_times p_touchCounts p_touchSlots p_lineOfSlot p_from p_to p_bounds p_pairA p_pairB p_leaving p_firstLeaving g_come g_outcomes g_greatestTimes g_leastTimes g_changed g_greatest g_least g_greatestNow g_leastNow s_order s_arriving s_unit s_flag s_forbidding s_most s_fewest) H := hP
                  have hD : va_D A (wC a cI cZ cJ x_agesStand x_searchStands p_blocks p_lines p_edges p_pairs g_sets g_size g_penalty g_comeCount s_answered s_codes s_ordered p_times p_touchCounts p_touchSlots p_lineOfSlot p_from p_to p_bounds p_pairA p_pairB p_leaving p_firstLeaving g_come g_outcomes g_greatestTimes g_leastTimes g_changed g_greatest g_least g_greatestNow g_leastNow s_order s_arriving s_unit s_flag s_forbidding s_most s_fewest) := hD
                  refine lv_iload hx hb dX2_valueState_204 (lv_at hl 5 rfl) ?_
                  obtain ⟨hq, h⟩ := h
                  refine va_iald (D := D) hx hb hK hP 17 0 rfl rfl hq dX2_valueState_206 ?_
                  refine lv_i2l hx hb dX2_valueState_207 rfl ?_
                  refine lv_ladd hx hb dX2_valueState_208 ?_
                  exact JP209 (v6_63 + (Int32.toInt64 (g_greatestTimes (Int32.toNatClampNeg v4)))) h _ _ hP hD hS _ (lv_sub hl [1, 3, 5, 7, 0] rfl)
              · replace h := h.2 hc
                refine lv_ldc2 (v := (-1)) hx hb hown (hts (.constantLong RX2 61 ((-1))) (by decide +kernel)) dX2_valueState_191 ?_
                refine lv_goto (tgt := 209) hx hb dX2_valueState_194 (by decide) ?_
                exact JP209 (-1) h _ _ hP hD hS _ (lv_sub hl [1, 3, 5, 7, 0] rfl)
            · replace h := h.2 hc
              refine lv_aload_n hx hb dX2_valueState_77 rfl (lv_at hl 0 rfl) ?_
              refine lv_aload_n hx hb dX2_valueState_78 rfl (lv_at hl 1 rfl) ?_
              refine lv_aload_n hx hb dX2_valueState_79 rfl (lv_at hl 1 rfl) ?_
              refine va_get (D := D) (ci := 1) (v := .ref (a 13)) (C := RX1) (T := TX1) (N := 15) hx hb hts hinX1 hown hK hP 1 rfl rfl 13 (by decide) (hts (.fieldLink RX2 101 "WorstPaths$Program" "leaving" "[I") (by decide +kernel)) (fun _ h9 => h9) rfl dX2_valueState_80 ?_
              refine lv_iload hx hb dX2_valueState_83 (lv_at hl 7 rfl) ?_
              obtain ⟨hq, h⟩ := h
              refine va_iald (D := D) hx hb hK hP 13 0 rfl rfl hq dX2_valueState_85 ?_
              refine lv_iload_n hx hb dX2_valueState_86 rfl (lv_at hl 3 rfl) ?_
              have hF := wz_free hD hS hA
              refine va_calli (va_runV (As := [.ref (a 1), .int (p_leaving (Int32.toNatClampNeg v10_63)), .int v3]) (rest := []) ⟨hx, hb, hml, hown, hts⟩ (c_X2_stateBehind l D a cI cZ cJ _ x_agesStand x_searchStands p_blocks p_lines p_edges p_pairs g_sets g_size g_penalty g_comeCount s_answered s_codes s_ordered p_times p_touchCounts p_touchSlots p_lineOfSlot p_from p_to p_bounds p_pairA p_pairB p_leaving p_firstLeaving g_come g_outcomes g_greatestTimes g_leastTimes g_changed g_greatest g_least g_greatestNow g_leastNow s_order s_arriving s_unit s_flag s_forbidding s_most s_fewest (p_leaving (Int32.toNatClampNeg v10_63)) v3 _ h) (cwV 3 hts gX2_valueState_X2_stateBehind rfl rfl rfl (by decide +kernel) ⟨Nat.le_of_ble_eq_true rfl, Nat.le_of_ble_eq_true rfl⟩) ⟨wz_blind, va_recv hK hP (ci := 2) (q0 := 3) rfl rfl, fun U hU hW => wz_at hU hW hP hK hD⟩ rfl rfl hl.1 rfl (lv_room (Nat.le_of_ble_eq_true rfl)) dX2_valueState_87 ⟨Nat.zero_le _, Nat.zero_le _⟩) hS (fun q _ hq => hF q hq) hF (fun r_87 u t H locs ht hvm h hB hz1 hk1 hS => ?_)
              obtain ⟨hP, -, hD⟩ := wz_back ht hF hB
              have hP : va_P D vwCl (wC a cI cZ cJ x_agesStand x_searchStands p_blocks p_lines p_edges p_pairs g_sets g_size g_penalty g_comeCount s_answered s_codes s_ordered p_times p_touchCounts p_touchSlots p_lineOfSlot p_from p_to p_bounds p_pairA p_pairB p_leaving p_firstLeaving g_come g_outcomes g_greatestTimes g_leastTimes g_changed g_greatest g_least g_greatestNow g_leastNow s_order s_arriving s_unit s_flag s_forbidding s_most s_fewest) H := hP
              have hD : va_D A (wC a cI cZ cJ x_agesStand x_searchStands p_blocks p_lines p_edges p_pairs g_sets g_size g_penalty g_comeCount s_answered s_codes s_ordered p_times p_touchCounts p_touchSlots p_lineOfSlot p_from p_to p_bounds p_pairA p_pairB p_leaving p_firstLeaving g_come g_outcomes g_greatestTimes g_leastTimes g_changed g_greatest g_least g_greatestNow g_leastNow s_order s_arriving s_unit s_flag s_forbidding s_most s_fewest) := hD
              refine lv_istore (lv' := [(11, .int r_87), (0, .ref (a 3)), (1, .ref (a 1)), (2, .ref (a 2)), (3, .int v3), (4, .int v4), (6, .long v6_63), (8, .long v8_63), (10, .int v10_63)]) hx hb dX2_valueState_90 hl (by decide) rfl (fun ls hl => ?_)
              refine lv_iload hx hb dX2_valueState_92 (lv_at hl 0 rfl) ?_
              refine lv_iconst (v := (-1)) hx hb dX2_valueState_94 (by decide) ?_
              refine lv_icmp_eq (tgt := 159) hx hb dX2_valueState_95 (by decide) (fun hc => ?_) (fun hc => ?_)
              · replace h := h.1 hc
                refine lv_iinc (v := (v10_63 + 1)) (lv' := [(10, .int (v10_63 + 1)), (11, .int r_87), (0, .ref (a 3)), (1, .ref (a 1)), (2, .ref (a 2)), (3, .int v3), (4, .int v4), (6, .long v6_63), (8, .long v8_63)]) hx hb dX2_valueState_159 hl (k := 8) rfl rfl (by decide) rfl (fun ls hl => ?_)
                refine lv_goto (tgt := 63) hx hb dX2_valueState_162 (by decide) ?_
                exact ih63 v6_63 v8_63 (v10_63 + 1) h _ _ hP hD hS _ (lv_sub hl [2, 3, 4, 5, 6, 7, 8, 0] rfl)
              · replace h := h.2 hc
                refine lv_aload_n hx hb dX2_valueState_98 rfl (lv_at hl 1 rfl) ?_
                refine va_get (D := D) (ci := 2) (v := .ref (a 29)) (C := RX2) (T := TX2) (N := 10) hx hb hts hinX2 hown hK hP 3 rfl rfl 8 (by decide) (hts (.fieldLink RX2 28 "WorstPaths$Search" "most" "[J") (by decide +kernel)) (fun _ h9 => h9) rfl dX2_valueState_99 ?_
                refine lv_iload hx hb dX2_valueState_102 (lv_at hl 0 rfl) ?_
                obtain ⟨hq, h⟩ := h
                refine va_lald (D := D) hx hb hK hP 29 2 rfl rfl hq dX2_valueState_104 ?_
                refine lv_ldc2 (v := (-1)) hx hb hown (hts (.constantLong RX2 61 ((-1))) (by decide +kernel)) dX2_valueState_105 ?_
                refine W.lcmp hx hb dX2_valueState_108 ?_
                refine lv_if_eq (tgt := 159) hx hb dX2_valueState_109 (by decide) (fun hc => ?_) (fun hc => ?_)
                · replace h := h.1 hc
                  refine lv_iinc (v := (v10_63 + 1)) (lv' := [(10, .int (v10_63 + 1)), (11, .int r_87), (0, .ref (a 3)), (1, .ref (a 1)), (2, .ref (a 2)), (3, .int v3), (4, .int v4), (6, .long v6_63), (8, .long v8_63)]) hx hb dX2_valueState_159 hl (k := 8) rfl rfl (by decide) rfl (fun ls hl => ?_)
                  refine lv_goto (tgt := 63) hx hb dX2_valueState_162 (by decide) ?_
                  exact ih63 v6_63 v8_63 (v10_63 + 1) h _ _ hP hD hS _ (lv_sub hl [2, 3, 4, 5, 6, 7, 8, 0] rfl)
                · replace h := h.2 hc
                  refine lv_lload hx hb dX2_valueState_112 (lv_at hl 6 rfl) ?_
                  refine lv_aload_n hx hb dX2_valueState_114 rfl (lv_at hl 1 rfl) ?_
                  refine va_get (D := D) (ci := 2) (v := .ref (a 29)) (C := RX2) (T := TX2) (N := 10) hx hb hts hinX2 hown hK hP 3 rfl rfl 8 (by decide) (hts (.fieldLink RX2 28 "WorstPaths$Search" "most" "[J") (by decide +kernel)) (fun _ h9 => h9) rfl dX2_valueState_115 ?_
                  refine lv_iload hx hb dX2_valueState_118 (lv_at hl 0 rfl) ?_
                  obtain ⟨hq, h⟩ := h
                  refine va_lald (D := D) hx hb hK hP 29 2 rfl rfl hq dX2_valueState_120 ?_
                  refine va_mmax_long hx hb (hml.trans hl.1.symm) hown (hts (.methodLink RX2 133 Lib.MathLoose.max_long.x) (by decide +kernel)) (hts (.static Lib.MathLoose.max_long.x) (by decide +kernel)) (hts (.initialized "java/lang/Math") (by decide +kernel)) (hts (.code Lib.MathLoose.max_long.x Lib.MathLoose.max_long.code 4 (some .long)) (by decide +kernel)) (Nat.le_of_ble_eq_true rfl) (Nat.le_of_ble_eq_true rfl) (Nat.zero_le _) (Nat.zero_le _) dX2_valueState_121 ?_
                  refine lv_lstore (lv' := [(6, .long (if (s_most (Int32.toNatClampNeg r_87)) < v6_63 then v6_63 else (s_most (Int32.toNatClampNeg r_87)))), (11, .int r_87), (0, .ref (a 3)), (1, .ref (a 1)), (2, .ref (a 2)), (3, .int v3), (4, .int v4), (8, .long v8_63), (10, .int v10_63)]) hx hb dX2_valueState_124 hl (by decide) rfl (fun ls hl => ?_)
                  refine lv_lload hx hb dX2_valueState_126 (lv_at hl 7 rfl) ?_
                  refine lv_ldc2 (v := (-1)) hx hb hown (hts (.constantLong RX2 61 ((-1))) (by decide +kernel)) dX2_valueState_128 ?_
                  refine W.lcmp hx hb dX2_valueState_131 ?_
                  refine lv_if_ne (tgt := 145) hx hb dX2_valueState_132 (by decide) (fun hc => ?_) (fun hc => ?_)
                  · replace h := h.1 hc
                    refine lv_lload hx hb dX2_valueState_145 (lv_at hl 7 rfl) ?_
                    refine lv_aload_n hx hb dX2_valueState_147 rfl (lv_at hl 2 rfl) ?_
                    refine va_get (D := D) (ci := 2) (v := .ref (a 30)) (C := RX2) (T := TX2) (N := 10) hx hb hts hinX2 hown hK hP 3 rfl rfl 9 (by decide) (hts (.fieldLink RX2 32 "WorstPaths$Search" "fewest" "[J") (by decide +kernel)) (fun _ h9 => h9) rfl dX2_valueState_148 ?_
                    refine lv_iload hx hb dX2_valueState_151 (lv_at hl 1 rfl) ?_
                    obtain ⟨hq, h⟩ := h
                    refine va_lald (D := D) hx hb hK hP 30 2 rfl rfl hq dX2_valueState_153 ?_
                    refine va_mmin_long hx hb (hml.trans hl.1.symm) hown (hts (.methodLink RX2 139 Lib.MathLoose.min_long.x) (by decide +kernel)) (hts (.static Lib.MathLoose.min_long.x) (by decide +kernel)) (hts (.initialized "java/lang/Math") (by decide +kernel)) (hts (.code Lib.MathLoose.min_long.x Lib.MathLoose.min_long.code 4 (some .long)) (by decide +kernel)) (Nat.le_of_ble_eq_true rfl) (Nat.le_of_ble_eq_true rfl) (Nat.zero_le _) (Nat.zero_le _) dX2_valueState_154 ?_
                    refine lv_lstore (lv' := [(8, .long (if (s_fewest (Int32.toNatClampNeg r_87)) < v8_63 then (s_fewest (Int32.toNatClampNeg r_87)) else v8_63)), (6, .long (if (s_most (Int32.toNatClampNeg r_87)) < v6_63 then v6_63 else (s_most (Int32.toNatClampNeg r_87)))), (11, .int r_87), (0, .ref (a 3)), (1, .ref (a 1)), (2, .ref (a 2)), (3, .int v3), (4, .int v4), (10, .int v10_63)]) hx hb dX2_valueState_157 hl (by decide) rfl (fun ls hl => ?_)
                    refine lv_iinc (v := (v10_63 + 1)) (lv' := [(10, .int (v10_63 + 1)), (8, .long (if (s_fewest (Int32.toNatClampNeg r_87)) < v8_63 then (s_fewest (Int32.toNatClampNeg r_87)) else v8_63)), (6, .long (if (s_most (Int32.toNatClampNeg r_87)) < v6_63 then v6_63 else (s_most (Int32.toNatClampNeg r_87)))), (11, .int r_87), (0, .ref (a 3)), (1, .ref (a 1)), (2, .ref (a 2)), (3, .int v3), (4, .int v4)]) hx hb dX2_valueState_159 hl (k := 8) rfl rfl (by decide) rfl (fun ls hl => ?_)
                    refine lv_goto (tgt := 63) hx hb dX2_valueState_162 (by decide) ?_
                    exact ih63 (if (s_most (Int32.toNatClampNeg r_87)) < v6_63 then v6_63 else (s_most (Int32.toNatClampNeg r_87))) (if (s_fewest (Int32.toNatClampNeg r_87)) < v8_63 then (s_fewest (Int32.toNatClampNeg r_87)) else v8_63) (v10_63 + 1) h _ _ hP hD hS _ (lv_sub hl [4, 5, 6, 7, 8, 2, 1, 0] rfl)
                  · replace h := h.2 hc
                    refine lv_aload_n hx hb dX2_valueState_135 rfl (lv_at hl 2 rfl) ?_
                    refine va_get (D := D) (ci := 2) (v := .ref (a 30)) (C := RX2) (T := TX2) (N := 10) hx hb hts hinX2 hown hK hP 3 rfl rfl 9 (by decide) (hts (.fieldLink RX2 32 "WorstPaths$Search" "fewest" "[J") (by decide +kernel)) (fun _ h9 => h9) rfl dX2_valueState_136 ?_
                    refine lv_iload hx hb dX2_valueState_139 (lv_at hl 1 rfl) ?_
                    obtain ⟨hq, h⟩ := h
                    refine va_lald (D := D) hx hb hK hP 30 2 rfl rfl hq dX2_valueState_141 ?_
                    refine lv_goto (tgt := 157) hx hb dX2_valueState_142 (by decide) ?_
                    refine lv_lstore (lv' := [(8, .long (s_fewest (Int32.toNatClampNeg r_87))), (6, .long (if (s_most (Int32.toNatClampNeg r_87)) < v6_63 then v6_63 else (s_most (Int32.toNatClampNeg r_87)))), (11, .int r_87), (0, .ref (a 3)), (1, .ref (a 1)), (2, .ref (a 2)), (3, .int v3), (4, .int v4), (10, .int v10_63)]) hx hb dX2_valueState_157 hl (by decide) rfl (fun ls hl => ?_)
                    refine lv_iinc (v := (v10_63 + 1)) (lv' := [(10, .int (v10_63 + 1)), (8, .long (s_fewest (Int32.toNatClampNeg r_87))), (6, .long (if (s_most (Int32.toNatClampNeg r_87)) < v6_63 then v6_63 else (s_most (Int32.toNatClampNeg r_87)))), (11, .int r_87), (0, .ref (a 3)), (1, .ref (a 1)), (2, .ref (a 2)), (3, .int v3), (4, .int v4)]) hx hb dX2_valueState_159 hl (k := 8) rfl rfl (by decide) rfl (fun ls hl => ?_)
                    refine lv_goto (tgt := 63) hx hb dX2_valueState_162 (by decide) ?_
                    exact ih63 (if (s_most (Int32.toNatClampNeg r_87)) < v6_63 then v6_63 else (s_most (Int32.toNatClampNeg r_87))) (s_fewest (Int32.toNatClampNeg r_87)) (v10_63 + 1) h _ _ hP hD hS _ (lv_sub hl [4, 5, 6, 7, 8, 2, 1, 0] rfl)
        obtain ⟨k9, h⟩ := h
        exact LP63 k9 t0_38 0 (p_firstLeaving (Int32.toNatClampNeg v4)) h _ _ hP hD hS _ (lv_sub hl [3, 4, 5, 6, 7, 2, 1, 0] rfl)
    refine lv_if_eq (tgt := 35) hx hb dX2_valueState_28 (by decide) (fun hc => ?_) (fun hc => ?_)
    · replace h := h.1 hc
      refine lv_ldc2 (v := (-1)) hx hb hown (hts (.constantLong RX2 61 ((-1))) (by decide +kernel)) dX2_valueState_35 ?_
      exact JP38 (-1) h _ _ hP hD hS _ (lv_sub hl [1, 2, 3, 4, 5, 0] rfl)
    · replace h := h.2 hc
      refine lv_lconst (v := 0) hx hb dX2_valueState_31 (by decide) ?_
      refine lv_goto (tgt := 38) hx hb dX2_valueState_32 (by decide) ?_
      exact JP38 0 h _ _ hP hD hS _ (lv_sub hl [1, 2, 3, 4, 5, 0] rfl)
def lp_X2_valueStates_19 (v3 : Int32) (p_blocks : Int32) (s_codes : Int32) (s_ordered : Int32) (p_to : Nat → Int32) (p_bounds : Nat → Int32) (p_leaving : Nat → Int32) (p_firstLeaving : Nat → Int32) (g_greatestTimes : Nat → Int32) (g_leastTimes : Nat → Int32) (s_order : Nat → Int32) (s_unit : Nat → Int32) (s_flag : Nat → Int32) (s_forbidding : Nat → Int32) (K7 : Int32 → (Nat → Int64) → (Nat → Int64) → Prop) (Q : (Nat → Int64) → (Nat → Int64) → Prop) : Nat → Int32 → (Nat → Int64) → (Nat → Int64) → Prop
  | 0, _, _, _ => False
  | n + 1, v4, s_most, s_fewest => (v4 < 0 → K7 (v3 + (-1)) s_most s_fewest) ∧ (¬ v4 < 0 → vp_in v4 40 ∧ (wp_X2_valueState v3 (s_order (Int32.toNatClampNeg v4)) p_blocks p_to p_bounds p_leaving p_firstLeaving g_greatestTimes g_leastTimes s_unit s_flag s_forbidding s_most s_fewest (fun s_most_35 s_fewest_35 => (lp_X2_valueStates_19 v3 p_blocks s_codes s_ordered p_to p_bounds p_leaving p_firstLeaving g_greatestTimes g_leastTimes s_order s_unit s_flag s_forbidding K7 Q n) (v4 + (-1)) s_most_35 s_fewest_35)))
def lp_X2_valueStates_7 (p_blocks : Int32) (s_codes : Int32) (s_ordered : Int32) (p_to : Nat → Int32) (p_bounds : Nat → Int32) (p_leaving : Nat → Int32) (p_firstLeaving : Nat → Int32) (g_greatestTimes : Nat → Int32) (g_leastTimes : Nat → Int32) (s_order : Nat → Int32) (s_unit : Nat → Int32) (s_flag : Nat → Int32) (s_forbidding : Nat → Int32) (Q : (Nat → Int64) → (Nat → Int64) → Prop) : Nat → Int32 → (Nat → Int64) → (Nat → Int64) → Prop
  | 0, _, _, _ => False
  | n + 1, v3, s_most, s_fewest => (v3 < 0 → Q s_most s_fewest) ∧ (¬ v3 < 0 → ∃ k19, lp_X2_valueStates_19 v3 p_blocks s_codes s_ordered p_to p_bounds p_leaving p_firstLeaving g_greatestTimes g_leastTimes s_order s_unit s_flag s_forbidding (lp_X2_valueStates_7 p_blocks s_codes s_ordered p_to p_bounds p_leaving p_firstLeaving g_greatestTimes g_leastTimes s_order s_unit s_flag s_forbidding Q n) Q k19 (s_ordered - 1) s_most s_fewest)
def wp_X2_valueStates (p_blocks : Int32) (s_codes : Int32) (s_ordered : Int32) (p_to : Nat → Int32) (p_bounds : Nat → Int32) (p_leaving : Nat → Int32) (p_firstLeaving : Nat → Int32) (g_greatestTimes : Nat → Int32) (g_leastTimes : Nat → Int32) (s_order : Nat → Int32) (s_unit : Nat → Int32) (s_flag : Nat → Int32) (s_forbidding : Nat → Int32) (s_most : Nat → Int64) (s_fewest : Nat → Int64) (Q : (Nat → Int64) → (Nat → Int64) → Prop) : Prop := ∃ k7, lp_X2_valueStates_7 p_blocks s_codes s_ordered p_to p_bounds p_leaving p_firstLeaving g_greatestTimes g_leastTimes s_order s_unit s_flag s_forbidding Q k7 (s_codes - 1) s_most s_fewest
abbrev rm_X2_valueStates : Room := { frames := 3, cells := 0, slots := 0, locals := 79 }
set_option maxHeartbeats 4000000 in
set_option maxRecDepth 100000 in
theorem c_X2_valueStates (l : Launch) (D : va_G) (a : Nat → Nat) (cI : ClassId) (cZ : ClassId) (cJ : ClassId) (sz : Nat) (x_agesStand : Int32) (x_searchStands : Int32) (p_blocks : Int32) (p_lines : Int32) (p_edges : Int32) (p_pairs : Int32) (g_sets : Int32) (g_size : Int32) (g_penalty : Int32) (g_comeCount : Int32) (s_answered : Int32) (s_codes : Int32) (s_ordered : Int32) (p_times : Nat → Int32) (p_touchCounts : Nat → Int32) (p_touchSlots : Nat → Int32) (p_lineOfSlot : Nat → Int32) (p_from : Nat → Int32) (p_to : Nat → Int32) (p_bounds : Nat → Int32) (p_pairA : Nat → Int32) (p_pairB : Nat → Int32) (p_leaving : Nat → Int32) (p_firstLeaving : Nat → Int32) (g_come : Nat → Int32) (g_outcomes : Nat → Int32) (g_greatestTimes : Nat → Int32) (g_leastTimes : Nat → Int32) (g_changed : Nat → Int32) (g_greatest : Nat → Int32) (g_least : Nat → Int32) (g_greatestNow : Nat → Int32) (g_leastNow : Nat → Int32) (s_order : Nat → Int32) (s_arriving : Nat → Int32) (s_unit : Nat → Int32) (s_flag : Nat → Int32) (s_forbidding : Nat → Int32) (s_most : Nat → Int64) (s_fewest : Nat → Int64) (Q : (Nat → Int64) → (Nat → Int64) → Prop) (h : wp_X2_valueStates p_blocks s_codes s_ordered p_to p_bounds p_leaving p_firstLeaving g_greatestTimes g_leastTimes s_order s_unit s_flag s_forbidding s_most s_fewest Q) : Met l yX2_valueStates wsX2_valueStates rm_X2_valueStates (va_Pc [.ref (a 3), .ref (a 1), .ref (a 2)] (inW D cI cZ cJ sz (wC a cI cZ cJ x_agesStand x_searchStands p_blocks p_lines p_edges p_pairs g_sets g_size g_penalty g_comeCount s_answered s_codes s_ordered p_times p_touchCounts p_touchSlots p_lineOfSlot p_from p_to p_bounds p_pairA p_pairB p_leaving p_firstLeaving g_come g_outcomes g_greatestTimes g_leastTimes g_changed g_greatest g_least g_greatestNow g_leastNow s_order s_arriving s_unit s_flag s_forbidding s_most s_fewest))) (va_Qv (fun (u : (Nat → Int64) × (Nat → Int64)) => Q u.1 u.2) (fun (u : (Nat → Int64) × (Nat → Int64)) => outW D cI cZ cJ (va_A (wC a cI cZ cJ x_agesStand x_searchStands p_blocks p_lines p_edges p_pairs g_sets g_size g_penalty g_comeCount s_answered s_codes s_ordered p_times p_touchCounts p_touchSlots p_lineOfSlot p_from p_to p_bounds p_pairA p_pairB p_leaving p_firstLeaving g_come g_outcomes g_greatestTimes g_leastTimes g_changed g_greatest g_least g_greatestNow g_leastNow s_order s_arriving s_unit s_flag s_forbidding s_most s_fewest) sz) (wC a cI cZ cJ x_agesStand x_searchStands p_blocks p_lines p_edges p_pairs g_sets g_size g_penalty g_comeCount s_answered s_codes s_ordered p_times p_touchCounts p_touchSlots p_lineOfSlot p_from p_to p_bounds p_pairA p_pairB p_leaving p_firstLeaving g_come g_outcomes g_greatestTimes g_leastTimes g_changed g_greatest g_least g_greatestNow g_leastNow s_order s_arriving s_unit s_flag s_forbidding u.1 u.2)) (va_A (wC a cI cZ cJ x_agesStand x_searchStands p_blocks p_lines p_edges p_pairs g_sets g_size g_penalty g_comeCount s_answered s_codes s_ordered p_times p_touchCounts p_touchSlots p_lineOfSlot p_from p_to p_bounds p_pairA p_pairB p_leaving p_firstLeaving g_come g_outcomes g_greatestTimes g_leastTimes g_changed g_greatest g_least g_greatestNow g_leastNow s_order s_arriving s_unit s_flag s_forbidding s_most s_fewest) sz)) 0 0 (va_A (wC a cI cZ cJ x_agesStand x_searchStands p_blocks p_lines p_edges p_pairs g_sets g_size g_penalty g_comeCount s_answered s_codes s_ordered p_times p_touchCounts p_touchSlots p_lineOfSlot p_from p_to p_bounds p_pairA p_pairB p_leaving p_firstLeaving g_come g_outcomes g_greatestTimes g_leastTimes g_changed g_greatest g_least g_greatestNow g_leastNow s_order s_arriving s_unit s_flag s_forbidding s_most s_fewest) sz) := by
  refine Met.ofW (cc := cX2_valueStates) (maxL := 5) (ret := none) (by decide +kernel) rfl ?_
  intro p e s m args below meth c s₁ B hml hv
  obtain ⟨rfl, hsz, hP, hK, hD0⟩ := hv
  have hx := B.exec
  have hb := B.bytes
  have hr := B.returns
  have hts := atoms_spec (ws := wsX2_valueStates) B.pre
  have hown : s.vm.findClass RX2 = some m.cls := findClass_of_methodNamed B.named
  have hlocks := B.notSynchronized
  have hinX2 : ∀ w ∈ wsX20, w ∈ wsX2_valueStates := by decide +kernel
  subst hsz
  have hD := hD0.self (sz := s.heap.size)
  generalize hAe : va_A (wC a cI cZ cJ x_agesStand x_searchStands p_blocks p_lines p_edges p_pairs g_sets g_size g_penalty g_comeCount s_answered s_codes s_ordered p_times p_touchCounts p_touchSlots p_lineOfSlot p_from p_to p_bounds p_pairA p_pairB p_leaving p_firstLeaving g_come g_outcomes g_greatestTimes g_leastTimes g_changed g_greatest g_least g_greatestNow g_leastNow s_order s_arriving s_unit s_flag s_forbidding s_most s_fewest) s.heap.size = A at hD ⊢
  have hA : ∀ q : Nat, s.heap.size ≤ q → A q := fun q h => by rw [← hAe]; exact Or.inr h
  have hS : va_S A s.heap s.heap [] := va_S.rf
  have hP : va_P D vwCl (wC a cI cZ cJ x_agesStand x_searchStands p_blocks p_lines p_edges p_pairs g_sets g_size g_penalty g_comeCount s_answered s_codes s_ordered p_times p_touchCounts p_touchSlots p_lineOfSlot p_from p_to p_bounds p_pairA p_pairB p_leaving p_firstLeaving g_come g_outcomes g_greatestTimes g_leastTimes g_changed g_greatest g_least g_greatestNow g_leastNow s_order s_arriving s_unit s_flag s_forbidding s_most s_fewest) s.heap := hP
  have hl := lv_entry ([.ref (a 3), .ref (a 1), .ref (a 2)]) (n := 5) (Nat.le_of_ble_eq_true rfl)
  rw [lg_entry_eq]
  generalize (lg_sl ([.ref (a 3), .ref (a 1), .ref (a 2)]) ++ List.replicate (5 - (lg_sl ([.ref (a 3), .ref (a 1), .ref (a 2)])).length) Slot.unset).toArray = ls at hl ⊢
  have hl : lv_has ls 5 [(0, .ref (a 3)), (1, .ref (a 1)), (2, .ref (a 2))] := hl
  refine wz_abs (fun Qz hQz => ?_)
  unfold wp_X2_valueStates at h
  refine lv_aload_n hx hb dX2_valueStates_0 rfl (lv_at hl 0 rfl) ?_
  refine va_get (D := D) (ci := 2) (v := .int s_codes) (C := RX2) (T := TX2) (N := 10) hx hb hts hinX2 hown hK hP 3 rfl rfl 1 (by decide) (hts (.fieldLink RX2 119 "WorstPaths$Search" "codes" "I") (by decide +kernel)) (fun _ h9 => h9) rfl dX2_valueStates_1 ?_
  refine lv_iconst (v := 1) hx hb dX2_valueStates_4 (by decide) ?_
  refine lv_isub hx hb dX2_valueStates_5 ?_
  refine lv_istore_n (lv' := [(3, .int (s_codes - 1)), (0, .ref (a 3)), (1, .ref (a 1)), (2, .ref (a 2))]) hx hb dX2_valueStates_6 rfl hl (by decide) rfl (fun ls hl => ?_)
  have LP7 : ∀ (n7 : Nat) (v3_7 : Int32) (s_most_7 : Nat → Int64) (s_fewest_7 : Nat → Int64), lp_X2_valueStates_7 p_blocks s_codes s_ordered p_to p_bounds p_leaving p_firstLeaving g_greatestTimes g_leastTimes s_order s_unit s_flag s_forbidding Q n7 v3_7 s_most_7 s_fewest_7 → ∀ (H : Heap) (locs : List Loc), va_P D vwCl (wC a cI cZ cJ x_agesStand x_searchStands p_blocks p_lines p_edges p_pairs g_sets g_size g_penalty g_comeCount s_answered s_codes s_ordered p_times p_touchCounts p_touchSlots p_lineOfSlot p_from p_to p_bounds p_pairA p_pairB p_leaving p_firstLeaving g_come g_outcomes g_greatestTimes g_leastTimes g_changed g_greatest g_least g_greatestNow g_leastNow s_order s_arriving s_unit s_flag s_forbidding s_most_7 s_fewest_7) H → va_D A (wC a cI cZ cJ x_agesStand x_searchStands p_blocks p_lines p_edges p_pairs g_sets g_size g_penalty g_comeCount s_answered s_codes s_ordered p_times p_touchCounts p_touchSlots p_lineOfSlot p_from p_to p_bounds p_pairA p_pairB p_leaving p_firstLeaving g_come g_outcomes g_greatestTimes g_leastTimes g_changed g_greatest g_least g_greatestNow g_leastNow s_order s_arriving s_unit s_flag s_forbidding s_most_7 s_fewest_7) → va_S A s.heap H locs → ∀ (ls : Array Slot), lv_has ls 5 [(0, .ref (a 3)), (1, .ref (a 1)), (2, .ref (a 2)), (3, .int v3_7)] → W p l e (headSpec wsX2_valueStates rm_X2_valueStates).room s m ([Value.ref (a 3), Value.ref (a 1), Value.ref (a 2)] : List Value).toArray below meth c H locs 0 0 Qz (F0 m 7 ls []) := by
    intro n7
    induction n7 with
    | zero => intro v3_7 s_most_7 s_fewest_7 h; exact h.elim
    | succ n7 ih7 =>
      intro v3_7 s_most_7 s_fewest_7 h H locs hP hD hS ls hl
      unfold lp_X2_valueStates_7 at h
      refine lv_iload_n hx hb dX2_valueStates_7 rfl (lv_at hl 3 rfl) ?_
      refine lv_if_lt (tgt := 50) hx hb dX2_valueStates_8 (by decide) (fun hc => ?_) (fun hc => ?_)
      · replace h := h.1 hc
        refine wz_mono hQz ?_
        exact W.vret hx hb hr (fun t ht hW => ⟨⟨(s_most_7, s_fewest_7), rfl, h, by rw [ht]; exact hP, va_K.moved hW.alike hK, hD⟩, hS.F ht⟩) hS.2.2 dX2_valueStates_50
      · replace h := h.2 hc
        refine lv_aload_n hx hb dX2_valueStates_11 rfl (lv_at hl 0 rfl) ?_
        refine va_get (D := D) (ci := 2) (v := .int s_ordered) (C := RX2) (T := TX2) (N := 10) hx hb hts hinX2 hown hK hP 3 rfl rfl 3 (by decide) (hts (.fieldLink RX2 85 "WorstPaths$Search" "ordered" "I") (by decide +kernel)) (fun _ h9 => h9) rfl dX2_valueStates_12 ?_
        refine lv_iconst (v := 1) hx hb dX2_valueStates_15 (by decide) ?_
        refine lv_isub hx hb dX2_valueStates_16 ?_
        refine lv_istore (lv' := [(4, .int (s_ordered - 1)), (0, .ref (a 3)), (1, .ref (a 1)), (2, .ref (a 2)), (3, .int v3_7)]) hx hb dX2_valueStates_17 hl (by decide) rfl (fun ls hl => ?_)
        have LP19 : ∀ (n19 : Nat) (v4_19 : Int32) (s_most_19 : Nat → Int64) (s_fewest_19 : Nat → Int64), lp_X2_valueStates_19 v3_7 p_blocks s_codes s_ordered p_to p_bounds p_leaving p_firstLeaving g_greatestTimes g_leastTimes s_order s_unit s_flag s_forbidding (lp_X2_valueStates_7 p_blocks s_codes s_ordered p_to p_bounds p_leaving p_firstLeaving g_greatestTimes g_leastTimes s_order s_unit s_flag s_forbidding Q n7) Q n19 v4_19 s_most_19 s_fewest_19 → ∀ (H : Heap) (locs : List Loc), va_P D vwCl (wC a cI cZ cJ x_agesStand x_searchStands p_blocks p_lines p_edges p_pairs g_sets g_size g_penalty g_comeCount s_answered s_codes s_ordered p_times p_touchCounts p_touchSlots p_lineOfSlot p_from p_to p_bounds p_pairA p_pairB p_leaving p_firstLeaving g_come g_outcomes g_greatestTimes g_leastTimes g_changed g_greatest g_least g_greatestNow g_leastNow s_order s_arriving s_unit s_flag s_forbidding s_most_19 s_fewest_19) H → va_D A (wC a cI cZ cJ x_agesStand x_searchStands p_blocks p_lines p_edges p_pairs g_sets g_size g_penalty g_comeCount s_answered s_codes s_ordered p_times p_touchCounts p_touchSlots p_lineOfSlot p_from p_to p_bounds p_pairA p_pairB p_leaving p_firstLeaving g_come g_outcomes g_greatestTimes g_leastTimes g_changed g_greatest g_least g_greatestNow g_leastNow s_order s_arriving s_unit s_flag s_forbidding s_most_19 s_fewest_19) → va_S A s.heap H locs → ∀ (ls : Array Slot), lv_has ls 5 [(0, .ref (a 3)), (1, .ref (a 1)), (2, .ref (a 2)), (3, .int v3_7), (4, .int v4_19)] → W p l e (headSpec wsX2_valueStates rm_X2_valueStates).room s m ([Value.ref (a 3), Value.ref (a 1), Value.ref (a 2)] : List Value).toArray below meth c H locs 0 0 Qz (F0 m 19 ls []) := by
          intro n19
          induction n19 with
          | zero => intro v4_19 s_most_19 s_fewest_19 h; exact h.elim
          | succ n19 ih19 =>
            intro v4_19 s_most_19 s_fewest_19 h H locs hP hD hS ls hl
            unfold lp_X2_valueStates_19 at h
            refine lv_iload hx hb dX2_valueStates_19 (lv_at hl 4 rfl) ?_
            refine lv_if_lt (tgt := 44) hx hb dX2_valueStates_21 (by decide) (fun hc => ?_) (fun hc => ?_)
            · replace h := h.1 hc
              refine lv_iinc (v := (v3_7 + (-1))) (lv' := [(3, .int (v3_7 + (-1))), (0, .ref (a 3)), (1, .ref (a 1)), (2, .ref (a 2)), (4, .int v4_19)]) hx hb dX2_valueStates_44 hl (k := 3) rfl rfl (by decide) rfl (fun ls hl => ?_)
              refine lv_goto (tgt := 7) hx hb dX2_valueStates_47 (by decide) ?_
              exact ih7 (v3_7 + (-1)) s_most_19 s_fewest_19 h _ _ hP hD hS _ (lv_sub hl [1, 2, 3, 0] rfl)
            · replace h := h.2 hc
              refine lv_aload_n hx hb dX2_valueStates_24 rfl (lv_at hl 0 rfl) ?_
              refine lv_aload_n hx hb dX2_valueStates_25 rfl (lv_at hl 1 rfl) ?_
              refine lv_aload_n hx hb dX2_valueStates_26 rfl (lv_at hl 2 rfl) ?_
              refine lv_iload_n hx hb dX2_valueStates_27 rfl (lv_at hl 3 rfl) ?_
              refine lv_aload_n hx hb dX2_valueStates_28 rfl (lv_at hl 0 rfl) ?_
              refine va_get (D := D) (ci := 2) (v := .ref (a 24)) (C := RX2) (T := TX2) (N := 10) hx hb hts hinX2 hown hK hP 3 rfl rfl 2 (by decide) (hts (.fieldLink RX2 9 "WorstPaths$Search" "order" "[I") (by decide +kernel)) (fun _ h9 => h9) rfl dX2_valueStates_29 ?_
              refine lv_iload hx hb dX2_valueStates_32 (lv_at hl 4 rfl) ?_
              obtain ⟨hq, h⟩ := h
              refine va_iald (D := D) hx hb hK hP 24 0 rfl rfl hq dX2_valueStates_34 ?_
              have hF := wz_free hD hS hA
              refine va_callv (va_runV (As := [.ref (a 1), .ref (a 2), .int v3_7, .int (s_order (Int32.toNatClampNeg v4_19))]) (rest := []) ⟨hx, hb, hml, hown, hts⟩ (c_X2_valueState l D a cI cZ cJ _ x_agesStand x_searchStands p_blocks p_lines p_edges p_pairs g_sets g_size g_penalty g_comeCount s_answered s_codes s_ordered p_times p_touchCounts p_touchSlots p_lineOfSlot p_from p_to p_bounds p_pairA p_pairB p_leaving p_firstLeaving g_come g_outcomes g_greatestTimes g_leastTimes g_changed g_greatest g_least g_greatestNow g_leastNow s_order s_arriving s_unit s_flag s_forbidding s_most_19 s_fewest_19 v3_7 (s_order (Int32.toNatClampNeg v4_19)) _ h) (cwV 4 hts gX2_valueStates_X2_valueState rfl rfl rfl (by decide +kernel) ⟨Nat.le_of_ble_eq_true rfl, Nat.le_of_ble_eq_true rfl⟩) ⟨wz_blind, va_recv hK hP (ci := 2) (q0 := 3) rfl rfl, fun U hU hW => wz_at hU hW hP hK hD⟩ rfl rfl hl.1 rfl (lv_room (Nat.le_of_ble_eq_true rfl)) dX2_valueStates_35 ⟨Nat.zero_le _, Nat.zero_le _⟩) hS (fun q _ hq => hF q hq) hF (fun u t H locs ht hvm h hB hz1 hk1 hS => ?_)
              obtain ⟨s_most_35, s_fewest_35⟩ := u
              dsimp only at h hB
              obtain ⟨hP, -, hD⟩ := wz_back ht hF hB
              have hP : va_P D vwCl (wC a cI cZ cJ x_agesStand x_searchStands p_blocks p_lines p_edges p_pairs g_sets g_size g_penalty g_comeCount s_answered s_codes s_ordered p_times p_touchCounts p_touchSlots p_lineOfSlot p_from p_to p_bounds p_pairA p_pairB p_leaving p_firstLeaving g_come g_outcomes g_greatestTimes g_leastTimes g_changed g_greatest g_least g_greatestNow g_leastNow s_order s_arriving s_unit s_flag s_forbidding s_most_35 s_fewest_35) H := hP
              have hD : va_D A (wC a cI cZ cJ x_agesStand x_searchStands p_blocks p_lines p_edges p_pairs g_sets g_size g_penalty g_comeCount s_answered s_codes s_ordered p_times p_touchCounts p_touchSlots p_lineOfSlot p_from p_to p_bounds p_pairA p_pairB p_leaving p_firstLeaving g_come g_outcomes g_greatestTimes g_leastTimes g_changed g_greatest g_least g_greatestNow g_leastNow s_order s_arriving s_unit s_flag s_forbidding s_most_35 s_fewest_35) := hD
              refine lv_iinc (v := (v4_19 + (-1))) (lv' := [(4, .int (v4_19 + (-1))), (0, .ref (a 3)), (1, .ref (a 1)), (2, .ref (a 2)), (3, .int v3_7)]) hx hb dX2_valueStates_38 hl (k := 4) rfl rfl (by decide) rfl (fun ls hl => ?_)
              refine lv_goto (tgt := 19) hx hb dX2_valueStates_41 (by decide) ?_
              exact ih19 (v4_19 + (-1)) s_most_35 s_fewest_35 h _ _ hP hD hS _ (lv_sub hl [1, 2, 3, 4, 0] rfl)
        obtain ⟨k9, h⟩ := h
        exact LP19 k9 (s_ordered - 1) s_most_7 s_fewest_7 h _ _ hP hD hS _ (lv_sub hl [1, 2, 3, 4, 0] rfl)
  obtain ⟨k9, h⟩ := h
  exact LP7 k9 (s_codes - 1) s_most s_fewest h _ _ hP hD hS _ (lv_sub hl [1, 2, 3, 0] rfl)
def lp_X2_lowestEdge_51 (v4 : Int32) (v5 : Int32) (v7 : Int64) (p_blocks : Int32) (p_to : Nat → Int32) (p_bounds : Nat → Int32) (p_leaving : Nat → Int32) (p_firstLeaving : Nat → Int32) (g_greatestTimes : Nat → Int32) (g_leastTimes : Nat → Int32) (s_unit : Nat → Int32) (s_flag : Nat → Int32) (s_forbidding : Nat → Int32) (s_most : Nat → Int64) (s_fewest : Nat → Int64) (Q : Int32 → Prop) : Nat → Int32 → Prop
  | 0, _ => False
  | n + 1, v9 => vp_in (v5 + 1) 41 ∧ (((p_firstLeaving (Int32.toNatClampNeg (v5 + 1))) ≤ v9 → Q (-1)) ∧ (¬ (p_firstLeaving (Int32.toNatClampNeg (v5 + 1))) ≤ v9 → vp_in v9 80 ∧ (wp_X2_stateBehind (p_leaving (Int32.toNatClampNeg v9)) v4 p_blocks p_to p_bounds s_unit s_flag s_forbidding (fun r_76 => (r_76 = (-1) → (lp_X2_lowestEdge_51 v4 v5 v7 p_blocks p_to p_bounds p_leaving p_firstLeaving g_greatestTimes g_leastTimes s_unit s_flag s_forbidding s_most s_fewest Q n) (v9 + 1)) ∧ (¬ r_76 = (-1) → vp_in r_76 40000 ∧ ((¬ (lg_cmp (s_fewest (Int32.toNatClampNeg r_76)) v7) = 0 → (lp_X2_lowestEdge_51 v4 v5 v7 p_blocks p_to p_bounds p_leaving p_firstLeaving g_greatestTimes g_leastTimes s_unit s_flag s_forbidding s_most s_fewest Q n) (v9 + 1)) ∧ ((lg_cmp (s_fewest (Int32.toNatClampNeg r_76)) v7) = 0 → vp_in v9 80 ∧ (Q (p_leaving (Int32.toNatClampNeg v9))))))))))
def lp_X2_lowestEdge_51_s_most (v4 : Int32) (v5 : Int32) (v7 : Int64) (p_blocks : Int32) (p_to : Nat → Int32) (p_bounds : Nat → Int32) (p_leaving : Nat → Int32) (p_firstLeaving : Nat → Int32) (g_greatestTimes : Nat → Int32) (g_leastTimes : Nat → Int32) (s_unit : Nat → Int32) (s_flag : Nat → Int32) (s_forbidding : Nat → Int32) (s_most : Nat → Int64) (s_fewest : Nat → Int64) (Q : Int32 → Prop) : Nat → Int32 → Prop
  | 0, _ => False
  | n + 1, v9 => vp_in (v5 + 1) 41 ∧ (((p_firstLeaving (Int32.toNatClampNeg (v5 + 1))) ≤ v9 → Q (-1)) ∧ (¬ (p_firstLeaving (Int32.toNatClampNeg (v5 + 1))) ≤ v9 → vp_in v9 80 ∧ (wp_X2_stateBehind (p_leaving (Int32.toNatClampNeg v9)) v4 p_blocks p_to p_bounds s_unit s_flag s_forbidding (fun r_76 => (r_76 = (-1) → (lp_X2_lowestEdge_51_s_most v4 v5 v7 p_blocks p_to p_bounds p_leaving p_firstLeaving g_greatestTimes g_leastTimes s_unit s_flag s_forbidding s_most s_fewest Q n) (v9 + 1)) ∧ (¬ r_76 = (-1) → vp_in r_76 40000 ∧ ((¬ (lg_cmp (s_most (Int32.toNatClampNeg r_76)) v7) = 0 → (lp_X2_lowestEdge_51_s_most v4 v5 v7 p_blocks p_to p_bounds p_leaving p_firstLeaving g_greatestTimes g_leastTimes s_unit s_flag s_forbidding s_most s_fewest Q n) (v9 + 1)) ∧ ((lg_cmp (s_most (Int32.toNatClampNeg r_76)) v7) = 0 → vp_in v9 80 ∧ (Q (p_leaving (Int32.toNatClampNeg v9))))))))))
def wp_X2_lowestEdge (v3 : Int32) (v4 : Int32) (v5 : Int32) (p_blocks : Int32) (p_to : Nat → Int32) (p_bounds : Nat → Int32) (p_leaving : Nat → Int32) (p_firstLeaving : Nat → Int32) (g_greatestTimes : Nat → Int32) (g_leastTimes : Nat → Int32) (s_unit : Nat → Int32) (s_flag : Nat → Int32) (s_forbidding : Nat → Int32) (s_most : Nat → Int64) (s_fewest : Nat → Int64) (Q : Int32 → Prop) : Prop := (¬ v3 = 0 → vp_in ((v4 * p_blocks) + v5) 40000 ∧ ((v3 = 0 → vp_in v5 40 ∧ (vp_in v5 41 ∧ (∃ k51, lp_X2_lowestEdge_51 v4 v5 ((s_fewest (Int32.toNatClampNeg ((v4 * p_blocks) + v5))) - (Int32.toInt64 (g_greatestTimes (Int32.toNatClampNeg v5)))) p_blocks p_to p_bounds p_leaving p_firstLeaving g_greatestTimes g_leastTimes s_unit s_flag s_forbidding s_most s_fewest Q k51 (p_firstLeaving (Int32.toNatClampNeg v5))))) ∧ (¬ v3 = 0 → vp_in v5 40 ∧ (vp_in v5 41 ∧ (∃ k51, lp_X2_lowestEdge_51 v4 v5 ((s_fewest (Int32.toNatClampNeg ((v4 * p_blocks) + v5))) - (Int32.toInt64 (g_leastTimes (Int32.toNatClampNeg v5)))) p_blocks p_to p_bounds p_leaving p_firstLeaving g_greatestTimes g_leastTimes s_unit s_flag s_forbidding s_most s_fewest Q k51 (p_firstLeaving (Int32.toNatClampNeg v5))))))) ∧ (v3 = 0 → vp_in ((v4 * p_blocks) + v5) 40000 ∧ ((v3 = 0 → vp_in v5 40 ∧ (vp_in v5 41 ∧ (∃ k51, lp_X2_lowestEdge_51_s_most v4 v5 ((s_most (Int32.toNatClampNeg ((v4 * p_blocks) + v5))) - (Int32.toInt64 (g_greatestTimes (Int32.toNatClampNeg v5)))) p_blocks p_to p_bounds p_leaving p_firstLeaving g_greatestTimes g_leastTimes s_unit s_flag s_forbidding s_most s_fewest Q k51 (p_firstLeaving (Int32.toNatClampNeg v5))))) ∧ (¬ v3 = 0 → vp_in v5 40 ∧ (vp_in v5 41 ∧ (∃ k51, lp_X2_lowestEdge_51_s_most v4 v5 ((s_most (Int32.toNatClampNeg ((v4 * p_blocks) + v5))) - (Int32.toInt64 (g_leastTimes (Int32.toNatClampNeg v5)))) p_blocks p_to p_bounds p_leaving p_firstLeaving g_greatestTimes g_leastTimes s_unit s_flag s_forbidding s_most s_fewest Q k51 (p_firstLeaving (Int32.toNatClampNeg v5)))))))
abbrev rm_X2_lowestEdge : Room := { frames := 2, cells := 0, slots := 0, locals := 48 }
set_option maxHeartbeats 4000000 in
set_option maxRecDepth 100000 in
theorem c_X2_lowestEdge (l : Launch) (D : va_G) (a : Nat → Nat) (cI : ClassId) (cZ : ClassId) (cJ : ClassId) (sz : Nat) (x_agesStand : Int32) (x_searchStands : Int32) (p_blocks : Int32) (p_lines : Int32) (p_edges : Int32) (p_pairs : Int32) (g_sets : Int32) (g_size : Int32) (g_penalty : Int32) (g_comeCount : Int32) (s_answered : Int32) (s_codes : Int32) (s_ordered : Int32) (p_times : Nat → Int32) (p_touchCounts : Nat → Int32) (p_touchSlots : Nat → Int32) (p_lineOfSlot : Nat → Int32) (p_from : Nat → Int32) (p_to : Nat → Int32) (p_bounds : Nat → Int32) (p_pairA : Nat → Int32) (p_pairB : Nat → Int32) (p_leaving : Nat → Int32) (p_firstLeaving : Nat → Int32) (g_come : Nat → Int32) (g_outcomes : Nat → Int32) (g_greatestTimes : Nat → Int32) (g_leastTimes : Nat → Int32) (g_changed : Nat → Int32) (g_greatest : Nat → Int32) (g_least : Nat → Int32) (g_greatestNow : Nat → Int32) (g_leastNow : Nat → Int32) (s_order : Nat → Int32) (s_arriving : Nat → Int32) (s_unit : Nat → Int32) (s_flag : Nat → Int32) (s_forbidding : Nat → Int32) (s_most : Nat → Int64) (s_fewest : Nat → Int64) (v3 : Int32) (v4 : Int32) (v5 : Int32) (Q : Int32 → Prop) (h : wp_X2_lowestEdge v3 v4 v5 p_blocks p_to p_bounds p_leaving p_firstLeaving g_greatestTimes g_leastTimes s_unit s_flag s_forbidding s_most s_fewest Q) : Met l yX2_lowestEdge wsX2_lowestEdge rm_X2_lowestEdge (va_Pc [.ref (a 3), .ref (a 1), .ref (a 2), .int v3, .int v4, .int v5] (inW D cI cZ cJ sz (wC a cI cZ cJ x_agesStand x_searchStands p_blocks p_lines p_edges p_pairs g_sets g_size g_penalty g_comeCount s_answered s_codes s_ordered p_times p_touchCounts p_touchSlots p_lineOfSlot p_from p_to p_bounds p_pairA p_pairB p_leaving p_firstLeaving g_come g_outcomes g_greatestTimes g_leastTimes g_changed g_greatest g_least g_greatestNow g_leastNow s_order s_arriving s_unit s_flag s_forbidding s_most s_fewest))) (va_Qi (fun (r : Int32) (u : Unit) => Q r) (fun (u : Unit) => outW D cI cZ cJ (va_A (wC a cI cZ cJ x_agesStand x_searchStands p_blocks p_lines p_edges p_pairs g_sets g_size g_penalty g_comeCount s_answered s_codes s_ordered p_times p_touchCounts p_touchSlots p_lineOfSlot p_from p_to p_bounds p_pairA p_pairB p_leaving p_firstLeaving g_come g_outcomes g_greatestTimes g_leastTimes g_changed g_greatest g_least g_greatestNow g_leastNow s_order s_arriving s_unit s_flag s_forbidding s_most s_fewest) sz) (wC a cI cZ cJ x_agesStand x_searchStands p_blocks p_lines p_edges p_pairs g_sets g_size g_penalty g_comeCount s_answered s_codes s_ordered p_times p_touchCounts p_touchSlots p_lineOfSlot p_from p_to p_bounds p_pairA p_pairB p_leaving p_firstLeaving g_come g_outcomes g_greatestTimes g_leastTimes g_changed g_greatest g_least g_greatestNow g_leastNow s_order s_arriving s_unit s_flag s_forbidding s_most s_fewest)) (va_A (wC a cI cZ cJ x_agesStand x_searchStands p_blocks p_lines p_edges p_pairs g_sets g_size g_penalty g_comeCount s_answered s_codes s_ordered p_times p_touchCounts p_touchSlots p_lineOfSlot p_from p_to p_bounds p_pairA p_pairB p_leaving p_firstLeaving g_come g_outcomes g_greatestTimes g_leastTimes g_changed g_greatest g_least g_greatestNow g_leastNow s_order s_arriving s_unit s_flag s_forbidding s_most s_fewest) sz)) 0 0 (va_A (wC a cI cZ cJ x_agesStand x_searchStands p_blocks p_lines p_edges p_pairs g_sets g_size g_penalty g_comeCount s_answered s_codes s_ordered p_times p_touchCounts p_touchSlots p_lineOfSlot p_from p_to p_bounds p_pairA p_pairB p_leaving p_firstLeaving g_come g_outcomes g_greatestTimes g_leastTimes g_changed g_greatest g_least g_greatestNow g_leastNow s_order s_arriving s_unit s_flag s_forbidding s_most s_fewest) sz) := by
  refine Met.ofW (cc := cX2_lowestEdge) (maxL := 11) (ret := (some .int)) (by decide +kernel) rfl ?_
  intro p e s m args below meth c s₁ B hml hv
  obtain ⟨rfl, hsz, hP, hK, hD0⟩ := hv
  have hx := B.exec
  have hb := B.bytes
  have hr := B.returns
  have hts := atoms_spec (ws := wsX2_lowestEdge) B.pre
  have hown : s.vm.findClass RX2 = some m.cls := findClass_of_methodNamed B.named
  have hlocks := B.notSynchronized
  have hinX1 : ∀ w ∈ wsX10, w ∈ wsX2_lowestEdge := by decide +kernel
  have hinX2 : ∀ w ∈ wsX20, w ∈ wsX2_lowestEdge := by decide +kernel
  subst hsz
  have hD := hD0.self (sz := s.heap.size)
  generalize hAe : va_A (wC a cI cZ cJ x_agesStand x_searchStands p_blocks p_lines p_edges p_pairs g_sets g_size g_penalty g_comeCount s_answered s_codes s_ordered p_times p_touchCounts p_touchSlots p_lineOfSlot p_from p_to p_bounds p_pairA p_pairB p_leaving p_firstLeaving g_come g_outcomes g_greatestTimes g_leastTimes g_changed g_greatest g_least g_greatestNow g_leastNow s_order s_arriving s_unit s_flag s_forbidding s_most s_fewest) s.heap.size = A at hD ⊢
  have hA : ∀ q : Nat, s.heap.size ≤ q → A q := fun q h => by rw [← hAe]; exact Or.inr h
  have hS : va_S A s.heap s.heap [] := va_S.rf
  have hP : va_P D vwCl (wC a cI cZ cJ x_agesStand x_searchStands p_blocks p_lines p_edges p_pairs g_sets g_size g_penalty g_comeCount s_answered s_codes s_ordered p_times p_touchCounts p_touchSlots p_lineOfSlot p_from p_to p_bounds p_pairA p_pairB p_leaving p_firstLeaving g_come g_outcomes g_greatestTimes g_leastTimes g_changed g_greatest g_least g_greatestNow g_leastNow s_order s_arriving s_unit s_flag s_forbidding s_most s_fewest) s.heap := hP
  have hl := lv_entry ([.ref (a 3), .ref (a 1), .ref (a 2), .int v3, .int v4, .int v5]) (n := 11) (Nat.le_of_ble_eq_true rfl)
  rw [lg_entry_eq]
  generalize (lg_sl ([.ref (a 3), .ref (a 1), .ref (a 2), .int v3, .int v4, .int v5]) ++ List.replicate (11 - (lg_sl ([.ref (a 3), .ref (a 1), .ref (a 2), .int v3, .int v4, .int v5])).length) Slot.unset).toArray = ls at hl ⊢
  have hl : lv_has ls 11 [(0, .ref (a 3)), (1, .ref (a 1)), (2, .ref (a 2)), (3, .int v3), (4, .int v4), (5, .int v5)] := hl
  refine wz_abs (fun Qz hQz => ?_)
  unfold wp_X2_lowestEdge at h
  refine lv_iload_n hx hb dX2_lowestEdge_0 rfl (lv_at hl 3 rfl) ?_
  refine lv_if_ne (tgt := 11) hx hb dX2_lowestEdge_1 (by decide) (fun hc => ?_) (fun hc => ?_)
  · replace h := h.1 hc
    refine lv_aload_n hx hb dX2_lowestEdge_11 rfl (lv_at hl 0 rfl) ?_
    refine va_get (D := D) (ci := 2) (v := .ref (a 30)) (C := RX2) (T := TX2) (N := 10) hx hb hts hinX2 hown hK hP 3 rfl rfl 9 (by decide) (hts (.fieldLink RX2 32 "WorstPaths$Search" "fewest" "[J") (by decide +kernel)) (fun _ h9 => h9) rfl dX2_lowestEdge_12 ?_
    refine lv_astore (lv' := [(6, .ref (a 30)), (0, .ref (a 3)), (1, .ref (a 1)), (2, .ref (a 2)), (3, .int v3), (4, .int v4), (5, .int v5)]) hx hb dX2_lowestEdge_15 hl (by decide) rfl (fun ls hl => ?_)
    refine lv_aload hx hb dX2_lowestEdge_17 (lv_at hl 0 rfl) ?_
    refine lv_iload hx hb dX2_lowestEdge_19 (lv_at hl 5 rfl) ?_
    refine lv_aload_n hx hb dX2_lowestEdge_21 rfl (lv_at hl 2 rfl) ?_
    refine va_get (D := D) (ci := 1) (v := .int p_blocks) (C := RX1) (T := TX1) (N := 15) hx hb hts hinX1 hown hK hP 1 rfl rfl 0 (by decide) (hts (.fieldLink RX2 39 "WorstPaths$Program" "blocks" "I") (by decide +kernel)) (fun _ h9 => h9) rfl dX2_lowestEdge_22 ?_
    refine lv_imul hx hb dX2_lowestEdge_25 ?_
    refine lv_iload hx hb dX2_lowestEdge_26 (lv_at hl 6 rfl) ?_
    refine lv_iadd hx hb dX2_lowestEdge_28 ?_
    obtain ⟨hq, h⟩ := h
    refine va_lald (D := D) hx hb hK hP 30 2 rfl rfl hq dX2_lowestEdge_29 ?_
    refine lv_aload_n hx hb dX2_lowestEdge_30 rfl (lv_at hl 3 rfl) ?_
    refine lv_iload_n hx hb dX2_lowestEdge_31 rfl (lv_at hl 4 rfl) ?_
    by_cases hc : v3 = 0
    · replace h := h.1 hc
      have hF := wz_free hD hS hA
      refine va_callr (va_runV (As := [.int v3]) (rest := [.long (s_fewest (Int32.toNatClampNeg ((v4 * p_blocks) + v5)))]) ⟨hx, hb, hml, hown, hts⟩ (c_X0_timesBy_0 l D a cI cZ cJ _ x_agesStand x_searchStands p_blocks p_lines p_edges p_pairs g_sets g_size g_penalty g_comeCount s_answered s_codes s_ordered p_times p_touchCounts p_touchSlots p_lineOfSlot p_from p_to p_bounds p_pairA p_pairB p_leaving p_firstLeaving g_come g_outcomes g_greatestTimes g_leastTimes g_changed g_greatest g_least g_greatestNow g_leastNow s_order s_arriving s_unit s_flag s_forbidding s_most s_fewest v3 hc) (cwV 1 hts gX2_lowestEdge_X0_timesBy rfl rfl rfl (by decide +kernel) ⟨Nat.le_of_ble_eq_true rfl, Nat.le_of_ble_eq_true rfl⟩) ⟨wz_blind, va_recv hK hP (ci := 0) (q0 := 2) rfl rfl, fun U hU hW => wz_at hU hW hP hK hD⟩ rfl rfl hl.1 rfl (lv_room (Nat.le_of_ble_eq_true rfl)) dX2_lowestEdge_32 ⟨Nat.zero_le _, Nat.zero_le _⟩) hS (fun q _ hq => hF q hq) hF (fun u ra t H locs ht hvm hw hB hz1 hk1 hS => ?_)
      obtain ⟨rfl, hB⟩ := hB
      obtain ⟨hP, -, hD⟩ := wz_back ht hF hB
      have hP : va_P D vwCl (wC a cI cZ cJ x_agesStand x_searchStands p_blocks p_lines p_edges p_pairs g_sets g_size g_penalty g_comeCount s_answered s_codes s_ordered p_times p_touchCounts p_touchSlots p_lineOfSlot p_from p_to p_bounds p_pairA p_pairB p_leaving p_firstLeaving g_come g_outcomes g_greatestTimes g_leastTimes g_changed g_greatest g_least g_greatestNow g_leastNow s_order s_arriving s_unit s_flag s_forbidding s_most s_fewest) H := hP
      have hD : va_D A (wC a cI cZ cJ x_agesStand x_searchStands p_blocks p_lines p_edges p_pairs g_sets g_size g_penalty g_comeCount s_answered s_codes s_ordered p_times p_touchCounts p_touchSlots p_lineOfSlot p_from p_to p_bounds p_pairA p_pairB p_leaving p_firstLeaving g_come g_outcomes g_greatestTimes g_leastTimes g_changed g_greatest g_least g_greatestNow g_leastNow s_order s_arriving s_unit s_flag s_forbidding s_most s_fewest) := hD
      refine lv_iload hx hb dX2_lowestEdge_35 (lv_at hl 6 rfl) ?_
      obtain ⟨hq, h⟩ := h
      refine va_iald (D := D) hx hb hK hP 17 0 rfl rfl hq dX2_lowestEdge_37 ?_
      refine lv_i2l hx hb dX2_lowestEdge_38 rfl ?_
      refine lv_lsub hx hb dX2_lowestEdge_39 ?_
      refine lv_lstore (lv' := [(7, .long ((s_fewest (Int32.toNatClampNeg ((v4 * p_blocks) + v5))) - (Int32.toInt64 (g_greatestTimes (Int32.toNatClampNeg v5))))), (6, .ref (a 30)), (0, .ref (a 3)), (1, .ref (a 1)), (2, .ref (a 2)), (3, .int v3), (4, .int v4), (5, .int v5)]) hx hb dX2_lowestEdge_40 hl (by decide) rfl (fun ls hl => ?_)
      refine lv_aload_n hx hb dX2_lowestEdge_42 rfl (lv_at hl 3 rfl) ?_
      refine va_get (D := D) (ci := 1) (v := .ref (a 14)) (C := RX1) (T := TX1) (N := 15) hx hb hts hinX1 hown hK hP 1 rfl rfl 14 (by decide) (hts (.fieldLink RX2 98 "WorstPaths$Program" "firstLeaving" "[I") (by decide +kernel)) (fun _ h9 => h9) rfl dX2_lowestEdge_43 ?_
      refine lv_iload hx hb dX2_lowestEdge_46 (lv_at hl 7 rfl) ?_
      obtain ⟨hq, h⟩ := h
      refine va_iald (D := D) hx hb hK hP 14 0 rfl rfl hq dX2_lowestEdge_48 ?_
      refine lv_istore (lv' := [(9, .int (p_firstLeaving (Int32.toNatClampNeg v5))), (7, .long ((s_fewest (Int32.toNatClampNeg ((v4 * p_blocks) + v5))) - (Int32.toInt64 (g_greatestTimes (Int32.toNatClampNeg v5))))), (6, .ref (a 30)), (0, .ref (a 3)), (1, .ref (a 1)), (2, .ref (a 2)), (3, .int v3), (4, .int v4), (5, .int v5)]) hx hb dX2_lowestEdge_49 hl (by decide) rfl (fun ls hl => ?_)
      have LP51 : ∀ (n51 : Nat) (v9_51 : Int32), lp_X2_lowestEdge_51 v4 v5 ((s_fewest (Int32.toNatClampNeg ((v4 * p_blocks) + v5))) - (Int32.toInt64 (g_greatestTimes (Int32.toNatClampNeg v5)))) p_blocks p_to p_bounds p_leaving p_firstLeaving g_greatestTimes g_leastTimes s_unit s_flag s_forbidding s_most s_fewest Q n51 v9_51 → ∀ (H : Heap) (locs : List Loc), va_P D vwCl (wC a cI cZ cJ x_agesStand x_searchStands p_blocks p_lines p_edges p_pairs g_sets g_size g_penalty g_comeCount s_answered s_codes s_ordered p_times p_touchCounts p_touchSlots p_lineOfSlot p_from p_to p_bounds p_pairA p_pairB p_leaving p_firstLeaving g_come g_outcomes g_greatestTimes g_leastTimes g_changed g_greatest g_least g_greatestNow g_leastNow s_order s_arriving s_unit s_flag s_forbidding s_most s_fewest) H → va_D A (wC a cI cZ cJ x_agesStand x_searchStands p_blocks p_lines p_edges p_pairs g_sets g_size g_penalty g_comeCount s_answered s_codes s_ordered p_times p_touchCounts p_touchSlots p_lineOfSlot p_from p_to p_bounds p_pairA p_pairB p_leaving p_firstLeaving g_come g_outcomes g_greatestTimes g_leastTimes g_changed g_greatest g_least g_greatestNow g_leastNow s_order s_arriving s_unit s_flag s_forbidding s_most s_fewest) → va_S A s.heap H locs → ∀ (ls : Array Slot), lv_has ls 11 [(6, .ref (a 30)), (0, .ref (a 3)), (1, .ref (a 1)), (4, .int v4), (5, .int v5), (7, .long ((s_fewest (Int32.toNatClampNeg ((v4 * p_blocks) + v5))) - (Int32.toInt64 (g_greatestTimes (Int32.toNatClampNeg v5))))), (9, .int v9_51)] → W p l e (headSpec wsX2_lowestEdge rm_X2_lowestEdge).room s m ([Value.ref (a 3), Value.ref (a 1), Value.ref (a 2), Value.int v3, Value.int v4, Value.int v5] : List Value).toArray below meth c H locs 0 0 Qz (F0 m 51 ls []) := by
        intro n51
        induction n51 with
        | zero => intro v9_51 h; exact h.elim
        | succ n51 ih51 =>
          intro v9_51 h H locs hP hD hS ls hl
          unfold lp_X2_lowestEdge_51 at h
          refine lv_iload hx hb dX2_lowestEdge_51 (lv_at hl 6 rfl) ?_
          refine lv_aload_n hx hb dX2_lowestEdge_53 rfl (lv_at hl 2 rfl) ?_
          refine va_get (D := D) (ci := 1) (v := .ref (a 14)) (C := RX1) (T := TX1) (N := 15) hx hb hts hinX1 hown hK hP 1 rfl rfl 14 (by decide) (hts (.fieldLink RX2 98 "WorstPaths$Program" "firstLeaving" "[I") (by decide +kernel)) (fun _ h9 => h9) rfl dX2_lowestEdge_54 ?_
          refine lv_iload hx hb dX2_lowestEdge_57 (lv_at hl 4 rfl) ?_
          refine lv_iconst (v := 1) hx hb dX2_lowestEdge_59 (by decide) ?_
          refine lv_iadd hx hb dX2_lowestEdge_60 ?_
          obtain ⟨hq, h⟩ := h
          refine va_iald (D := D) hx hb hK hP 14 0 rfl rfl hq dX2_lowestEdge_61 ?_
          refine lv_icmp_ge (tgt := 112) hx hb dX2_lowestEdge_62 (by decide) (fun hc => ?_) (fun hc => ?_)
          · replace h := h.1 hc
            refine lv_iconst (v := (-1)) hx hb dX2_lowestEdge_112 (by decide) ?_
            refine wz_mono hQz ?_
            exact W.iret (v := (-1)) hx hb hr (fun t ht hW => ⟨⟨(-1), (), rfl, h, by rw [ht]; exact hP, va_K.moved hW.alike hK, hD⟩, hS.F ht⟩) hS.2.2 dX2_lowestEdge_113
          · replace h := h.2 hc
            refine lv_aload_n hx hb dX2_lowestEdge_65 rfl (lv_at hl 1 rfl) ?_
            refine lv_aload_n hx hb dX2_lowestEdge_66 rfl (lv_at hl 2 rfl) ?_
            refine lv_aload_n hx hb dX2_lowestEdge_67 rfl (lv_at hl 2 rfl) ?_
            refine va_get (D := D) (ci := 1) (v := .ref (a 13)) (C := RX1) (T := TX1) (N := 15) hx hb hts hinX1 hown hK hP 1 rfl rfl 13 (by decide) (hts (.fieldLink RX2 101 "WorstPaths$Program" "leaving" "[I") (by decide +kernel)) (fun _ h9 => h9) rfl dX2_lowestEdge_68 ?_
            refine lv_iload hx hb dX2_lowestEdge_71 (lv_at hl 6 rfl) ?_
            obtain ⟨hq, h⟩ := h
            refine va_iald (D := D) hx hb hK hP 13 0 rfl rfl hq dX2_lowestEdge_73 ?_
            refine lv_iload hx hb dX2_lowestEdge_74 (lv_at hl 3 rfl) ?_
            have hF := wz_free hD hS hA
            refine va_calli (va_runV (As := [.ref (a 1), .int (p_leaving (Int32.toNatClampNeg v9_51)), .int v4]) (rest := []) ⟨hx, hb, hml, hown, hts⟩ (c_X2_stateBehind l D a cI cZ cJ _ x_agesStand x_searchStands p_blocks p_lines p_edges p_pairs g_sets g_size g_penalty g_comeCount s_answered s_codes s_ordered p_times p_touchCounts p_touchSlots p_lineOfSlot p_from p_to p_bounds p_pairA p_pairB p_leaving p_firstLeaving g_come g_outcomes g_greatestTimes g_leastTimes g_changed g_greatest g_least g_greatestNow g_leastNow s_order s_arriving s_unit s_flag s_forbidding s_most s_fewest (p_leaving (Int32.toNatClampNeg v9_51)) v4 _ h) (cwV 3 hts gX2_lowestEdge_X2_stateBehind rfl rfl rfl (by decide +kernel) ⟨Nat.le_of_ble_eq_true rfl, Nat.le_of_ble_eq_true rfl⟩) ⟨wz_blind, va_recv hK hP (ci := 2) (q0 := 3) rfl rfl, fun U hU hW => wz_at hU hW hP hK hD⟩ rfl rfl hl.1 rfl (lv_room (Nat.le_of_ble_eq_true rfl)) dX2_lowestEdge_76 ⟨Nat.zero_le _, Nat.zero_le _⟩) hS (fun q _ hq => hF q hq) hF (fun r_76 u t H locs ht hvm h hB hz1 hk1 hS => ?_)
            obtain ⟨hP, -, hD⟩ := wz_back ht hF hB
            have hP : va_P D vwCl (wC a cI cZ cJ x_agesStand x_searchStands p_blocks p_lines p_edges p_pairs g_sets g_size g_penalty g_comeCount s_answered s_codes s_ordered p_times p_touchCounts p_touchSlots p_lineOfSlot p_from p_to p_bounds p_pairA p_pairB p_leaving p_firstLeaving g_come g_outcomes g_greatestTimes g_leastTimes g_changed g_greatest g_least g_greatestNow g_leastNow s_order s_arriving s_unit s_flag s_forbidding s_most s_fewest) H := hP
            have hD : va_D A (wC a cI cZ cJ x_agesStand x_searchStands p_blocks p_lines p_edges p_pairs g_sets g_size g_penalty g_comeCount s_answered s_codes s_ordered p_times p_touchCounts p_touchSlots p_lineOfSlot p_from p_to p_bounds p_pairA p_pairB p_leaving p_firstLeaving g_come g_outcomes g_greatestTimes g_leastTimes g_changed g_greatest g_least g_greatestNow g_leastNow s_order s_arriving s_unit s_flag s_forbidding s_most s_fewest) := hD
            refine lv_istore (lv' := [(10, .int r_76), (6, .ref (a 30)), (0, .ref (a 3)), (1, .ref (a 1)), (4, .int v4), (5, .int v5), (7, .long ((s_fewest (Int32.toNatClampNeg ((v4 * p_blocks) + v5))) - (Int32.toInt64 (g_greatestTimes (Int32.toNatClampNeg v5))))), (9, .int v9_51)]) hx hb dX2_lowestEdge_79 hl (by decide) rfl (fun ls hl => ?_)
            refine lv_iload hx hb dX2_lowestEdge_81 (lv_at hl 0 rfl) ?_
            refine lv_iconst (v := (-1)) hx hb dX2_lowestEdge_83 (by decide) ?_
            refine lv_icmp_eq (tgt := 106) hx hb dX2_lowestEdge_84 (by decide) (fun hc => ?_) (fun hc => ?_)
            · replace h := h.1 hc
              refine lv_iinc (v := (v9_51 + 1)) (lv' := [(9, .int (v9_51 + 1)), (10, .int r_76), (6, .ref (a 30)), (0, .ref (a 3)), (1, .ref (a 1)), (4, .int v4), (5, .int v5), (7, .long ((s_fewest (Int32.toNatClampNeg ((v4 * p_blocks) + v5))) - (Int32.toInt64 (g_greatestTimes (Int32.toNatClampNeg v5)))))]) hx hb dX2_lowestEdge_106 hl (k := 7) rfl rfl (by decide) rfl (fun ls hl => ?_)
              refine lv_goto (tgt := 51) hx hb dX2_lowestEdge_109 (by decide) ?_
              exact ih51 (v9_51 + 1) h _ _ hP hD hS _ (lv_sub hl [2, 3, 4, 5, 6, 7, 0] rfl)
            · replace h := h.2 hc
              refine lv_aload hx hb dX2_lowestEdge_87 (lv_at hl 1 rfl) ?_
              refine lv_iload hx hb dX2_lowestEdge_89 (lv_at hl 0 rfl) ?_
              obtain ⟨hq, h⟩ := h
              refine va_lald (D := D) hx hb hK hP 30 2 rfl rfl hq dX2_lowestEdge_91 ?_
              refine lv_lload hx hb dX2_lowestEdge_92 (lv_at hl 6 rfl) ?_
              refine W.lcmp hx hb dX2_lowestEdge_94 ?_
              refine lv_if_ne (tgt := 106) hx hb dX2_lowestEdge_95 (by decide) (fun hc => ?_) (fun hc => ?_)
              · replace h := h.1 hc
                refine lv_iinc (v := (v9_51 + 1)) (lv' := [(9, .int (v9_51 + 1)), (10, .int r_76), (6, .ref (a 30)), (0, .ref (a 3)), (1, .ref (a 1)), (4, .int v4), (5, .int v5), (7, .long ((s_fewest (Int32.toNatClampNeg ((v4 * p_blocks) + v5))) - (Int32.toInt64 (g_greatestTimes (Int32.toNatClampNeg v5)))))]) hx hb dX2_lowestEdge_106 hl (k := 7) rfl rfl (by decide) rfl (fun ls hl => ?_)
                refine lv_goto (tgt := 51) hx hb dX2_lowestEdge_109 (by decide) ?_
                exact ih51 (v9_51 + 1) h _ _ hP hD hS _ (lv_sub hl [2, 3, 4, 5, 6, 7, 0] rfl)
              · replace h := h.2 hc
                refine lv_aload_n hx hb dX2_lowestEdge_98 rfl (lv_at hl 3 rfl) ?_
                refine va_get (D := D) (ci := 1) (v := .ref (a 13)) (C := RX1) (T := TX1) (N := 15) hx hb hts hinX1 hown hK hP 1 rfl rfl 13 (by decide) (hts (.fieldLink RX2 101 "WorstPaths$Program" "leaving" "[I") (by decide +kernel)) (fun _ h9 => h9) rfl dX2_lowestEdge_99 ?_
                refine lv_iload hx hb dX2_lowestEdge_102 (lv_at hl 7 rfl) ?_
                obtain ⟨hq, h⟩ := h
                refine va_iald (D := D) hx hb hK hP 13 0 rfl rfl hq dX2_lowestEdge_104 ?_
                refine wz_mono hQz ?_
                exact W.iret (v := (p_leaving (Int32.toNatClampNeg v9_51))) hx hb hr (fun t ht hW => ⟨⟨(p_leaving (Int32.toNatClampNeg v9_51)), (), rfl, h, by rw [ht]; exact hP, va_K.moved hW.alike hK, hD⟩, hS.F ht⟩) hS.2.2 dX2_lowestEdge_105
      obtain ⟨k9, h⟩ := h
      exact LP51 k9 (p_firstLeaving (Int32.toNatClampNeg v5)) h _ _ hP hD hS _ (lv_sub hl [2, 3, 4, 7, 8, 1, 0] rfl)
    · replace h := h.2 hc
      have hF := wz_free hD hS hA
      refine va_callr (va_runV (As := [.int v3]) (rest := [.long (s_fewest (Int32.toNatClampNeg ((v4 * p_blocks) + v5)))]) ⟨hx, hb, hml, hown, hts⟩ (c_X0_timesBy_1 l D a cI cZ cJ _ x_agesStand x_searchStands p_blocks p_lines p_edges p_pairs g_sets g_size g_penalty g_comeCount s_answered s_codes s_ordered p_times p_touchCounts p_touchSlots p_lineOfSlot p_from p_to p_bounds p_pairA p_pairB p_leaving p_firstLeaving g_come g_outcomes g_greatestTimes g_leastTimes g_changed g_greatest g_least g_greatestNow g_leastNow s_order s_arriving s_unit s_flag s_forbidding s_most s_fewest v3 hc) (cwV 1 hts gX2_lowestEdge_X0_timesBy rfl rfl rfl (by decide +kernel) ⟨Nat.le_of_ble_eq_true rfl, Nat.le_of_ble_eq_true rfl⟩) ⟨wz_blind, va_recv hK hP (ci := 0) (q0 := 2) rfl rfl, fun U hU hW => wz_at hU hW hP hK hD⟩ rfl rfl hl.1 rfl (lv_room (Nat.le_of_ble_eq_true rfl)) dX2_lowestEdge_32 ⟨Nat.zero_le _, Nat.zero_le _⟩) hS (fun q _ hq => hF q hq) hF (fun u ra t H locs ht hvm hw hB hz1 hk1 hS => ?_)
      obtain ⟨rfl, hB⟩ := hB
      obtain ⟨hP, -, hD⟩ := wz_back ht hF hB
      have hP : va_P D vwCl (wC a cI cZ cJ x_agesStand x_searchStands p_blocks p_lines p_edges p_pairs g_sets g_size g_penalty g_comeCount s_answered s_codes s_ordered p_times p_touchCounts p_touchSlots p_lineOfSlot p_from p_to p_bounds p_pairA p_pairB p_leaving p_firstLeaving g_come g_outcomes g_greatestTimes g_leastTimes g_changed g_greatest g_least g_greatestNow g_leastNow s_order s_arriving s_unit s_flag s_forbidding s_most s_fewest) H := hP
      have hD : va_D A (wC a cI cZ cJ x_agesStand x_searchStands p_blocks p_lines p_edges p_pairs g_sets g_size g_penalty g_comeCount s_answered s_codes s_ordered p_times p_touchCounts p_touchSlots p_lineOfSlot p_from p_to p_bounds p_pairA p_pairB p_leaving p_firstLeaving g_come g_outcomes g_greatestTimes g_leastTimes g_changed g_greatest g_least g_greatestNow g_leastNow s_order s_arriving s_unit s_flag s_forbidding s_most s_fewest) := hD
      refine lv_iload hx hb dX2_lowestEdge_35 (lv_at hl 6 rfl) ?_
      obtain ⟨hq, h⟩ := h
      refine va_iald (D := D) hx hb hK hP 18 0 rfl rfl hq dX2_lowestEdge_37 ?_
      refine lv_i2l hx hb dX2_lowestEdge_38 rfl ?_
      refine lv_lsub hx hb dX2_lowestEdge_39 ?_
      refine lv_lstore (lv' := [(7, .long ((s_fewest (Int32.toNatClampNeg ((v4 * p_blocks) + v5))) - (Int32.toInt64 (g_leastTimes (Int32.toNatClampNeg v5))))), (6, .ref (a 30)), (0, .ref (a 3)), (1, .ref (a 1)), (2, .ref (a 2)), (3, .int v3), (4, .int v4), (5, .int v5)]) hx hb dX2_lowestEdge_40 hl (by decide) rfl (fun ls hl => ?_)
      refine lv_aload_n hx hb dX2_lowestEdge_42 rfl (lv_at hl 3 rfl) ?_
      refine va_get (D := D) (ci := 1) (v := .ref (a 14)) (C := RX1) (T := TX1) (N := 15) hx hb hts hinX1 hown hK hP 1 rfl rfl 14 (by decide) (hts (.fieldLink RX2 98 "WorstPaths$Program" "firstLeaving" "[I") (by decide +kernel)) (fun _ h9 => h9) rfl dX2_lowestEdge_43 ?_
      refine lv_iload hx hb dX2_lowestEdge_46 (lv_at hl 7 rfl) ?_
      obtain ⟨hq, h⟩ := h
      refine va_iald (D := D) hx hb hK hP 14 0 rfl rfl hq dX2_lowestEdge_48 ?_
      refine lv_istore (lv' := [(9, .int (p_firstLeaving (Int32.toNatClampNeg v5))), (7, .long ((s_fewest (Int32.toNatClampNeg ((v4 * p_blocks) + v5))) - (Int32.toInt64 (g_leastTimes (Int32.toNatClampNeg v5))))), (6, .ref (a 30)), (0, .ref (a 3)), (1, .ref (a 1)), (2, .ref (a 2)), (3, .int v3), (4, .int v4), (5, .int v5)]) hx hb dX2_lowestEdge_49 hl (by decide) rfl (fun ls hl => ?_)
      have LP51 : ∀ (n51 : Nat) (v9_51 : Int32), lp_X2_lowestEdge_51 v4 v5 ((s_fewest (Int32.toNatClampNeg ((v4 * p_blocks) + v5))) - (Int32.toInt64 (g_leastTimes (Int32.toNatClampNeg v5)))) p_blocks p_to p_bounds p_leaving p_firstLeaving g_greatestTimes g_leastTimes s_unit s_flag s_forbidding s_most s_fewest Q n51 v9_51 → ∀ (H : Heap) (locs : List Loc), va_P D vwCl (wC a cI cZ cJ x_agesStand x_searchStands p_blocks p_lines p_edges p_pairs g_sets g_size g_penalty g_comeCount s_answered s_codes s_ordered p_times p_touchCounts p_touchSlots p_lineOfSlot p_from p_to p_bounds p_pairA p_pairB p_leaving p_firstLeaving g_come g_outcomes g_greatestTimes g_leastTimes g_changed g_greatest g_least g_greatestNow g_leastNow s_order s_arriving s_unit s_flag s_forbidding s_most s_fewest) H → va_D A (wC a cI cZ cJ x_agesStand x_searchStands p_blocks p_lines p_edges p_pairs g_sets g_size g_penalty g_comeCount s_answered s_codes s_ordered p_times p_touchCounts p_touchSlots p_lineOfSlot p_from p_to p_bounds p_pairA p_pairB p_leaving p_firstLeaving g_come g_outcomes g_greatestTimes g_leastTimes g_changed g_greatest g_least g_greatestNow g_leastNow s_order s_arriving s_unit s_flag s_forbidding s_most s_fewest) → va_S A s.heap H locs → ∀ (ls : Array Slot), lv_has ls 11 [(6, .ref (a 30)), (0, .ref (a 3)), (1, .ref (a 1)), (4, .int v4), (5, .int v5), (7, .long ((s_fewest (Int32.toNatClampNeg ((v4 * p_blocks) + v5))) - (Int32.toInt64 (g_leastTimes (Int32.toNatClampNeg v5))))), (9, .int v9_51)] → W p l e (headSpec wsX2_lowestEdge rm_X2_lowestEdge).room s m ([Value.ref (a 3), Value.ref (a 1), Value.ref (a 2), Value.int v3, Value.int v4, Value.int v5] : List Value).toArray below meth c H locs 0 0 Qz (F0 m 51 ls []) := by
        intro n51
        induction n51 with
        | zero => intro v9_51 h; exact h.elim
        | succ n51 ih51 =>
          intro v9_51 h H locs hP hD hS ls hl
          unfold lp_X2_lowestEdge_51 at h
          refine lv_iload hx hb dX2_lowestEdge_51 (lv_at hl 6 rfl) ?_
          refine lv_aload_n hx hb dX2_lowestEdge_53 rfl (lv_at hl 2 rfl) ?_
          refine va_get (D := D) (ci := 1) (v := .ref (a 14)) (C := RX1) (T := TX1) (N := 15) hx hb hts hinX1 hown hK hP 1 rfl rfl 14 (by decide) (hts (.fieldLink RX2 98 "WorstPaths$Program" "firstLeaving" "[I") (by decide +kernel)) (fun _ h9 => h9) rfl dX2_lowestEdge_54 ?_
          refine lv_iload hx hb dX2_lowestEdge_57 (lv_at hl 4 rfl) ?_
          refine lv_iconst (v := 1) hx hb dX2_lowestEdge_59 (by decide) ?_
          refine lv_iadd hx hb dX2_lowestEdge_60 ?_
          obtain ⟨hq, h⟩ := h
          refine va_iald (D := D) hx hb hK hP 14 0 rfl rfl hq dX2_lowestEdge_61 ?_
          refine lv_icmp_ge (tgt := 112) hx hb dX2_lowestEdge_62 (by decide) (fun hc => ?_) (fun hc => ?_)
          · replace h := h.1 hc
            refine lv_iconst (v := (-1)) hx hb dX2_lowestEdge_112 (by decide) ?_
            refine wz_mono hQz ?_
            exact W.iret (v := (-1)) hx hb hr (fun t ht hW => ⟨⟨(-1), (), rfl, h, by rw [ht]; exact hP, va_K.moved hW.alike hK, hD⟩, hS.F ht⟩) hS.2.2 dX2_lowestEdge_113
          · replace h := h.2 hc
            refine lv_aload_n hx hb dX2_lowestEdge_65 rfl (lv_at hl 1 rfl) ?_
            refine lv_aload_n hx hb dX2_lowestEdge_66 rfl (lv_at hl 2 rfl) ?_
            refine lv_aload_n hx hb dX2_lowestEdge_67 rfl (lv_at hl 2 rfl) ?_
            refine va_get (D := D) (ci := 1) (v := .ref (a 13)) (C := RX1) (T := TX1) (N := 15) hx hb hts hinX1 hown hK hP 1 rfl rfl 13 (by decide) (hts (.fieldLink RX2 101 "WorstPaths$Program" "leaving" "[I") (by decide +kernel)) (fun _ h9 => h9) rfl dX2_lowestEdge_68 ?_
            refine lv_iload hx hb dX2_lowestEdge_71 (lv_at hl 6 rfl) ?_
            obtain ⟨hq, h⟩ := h
            refine va_iald (D := D) hx hb hK hP 13 0 rfl rfl hq dX2_lowestEdge_73 ?_
            refine lv_iload hx hb dX2_lowestEdge_74 (lv_at hl 3 rfl) ?_
            have hF := wz_free hD hS hA
            refine va_calli (va_runV (As := [.ref (a 1), .int (p_leaving (Int32.toNatClampNeg v9_51)), .int v4]) (rest := []) ⟨hx, hb, hml, hown, hts⟩ (c_X2_stateBehind l D a cI cZ cJ _ x_agesStand x_searchStands p_blocks p_lines p_edges p_pairs g_sets g_size g_penalty g_comeCount s_answered s_codes s_ordered p_times p_touchCounts p_touchSlots p_lineOfSlot p_from p_to p_bounds p_pairA p_pairB p_leaving p_firstLeaving g_come g_outcomes g_greatestTimes g_leastTimes g_changed g_greatest g_least g_greatestNow g_leastNow s_order s_arriving s_unit s_flag s_forbidding s_most s_fewest (p_leaving (Int32.toNatClampNeg v9_51)) v4 _ h) (cwV 3 hts gX2_lowestEdge_X2_stateBehind rfl rfl rfl (by decide +kernel) ⟨Nat.le_of_ble_eq_true rfl, Nat.le_of_ble_eq_true rfl⟩) ⟨wz_blind, va_recv hK hP (ci := 2) (q0 := 3) rfl rfl, fun U hU hW => wz_at hU hW hP hK hD⟩ rfl rfl hl.1 rfl (lv_room (Nat.le_of_ble_eq_true rfl)) dX2_lowestEdge_76 ⟨Nat.zero_le _, Nat.zero_le _⟩) hS (fun q _ hq => hF q hq) hF (fun r_76 u t H locs ht hvm h hB hz1 hk1 hS => ?_)
            obtain ⟨hP, -, hD⟩ := wz_back ht hF hB
            have hP : va_P D vwCl (wC a cI cZ cJ x_agesStand x_searchStands p_blocks p_lines p_edges p_pairs g_sets g_size g_penalty g_comeCount s_answered s_codes s_ordered p_times p_touchCounts p_touchSlots p_lineOfSlot p_from p_to p_bounds p_pairA p_pairB p_leaving p_firstLeaving g_come g_outcomes g_greatestTimes g_leastTimes g_changed g_greatest g_least g_greatestNow g_leastNow s_order s_arriving s_unit s_flag s_forbidding s_most s_fewest) H := hP
            have hD : va_D A (wC a cI cZ cJ x_agesStand x_searchStands p_blocks p_lines p_edges p_pairs g_sets g_size g_penalty g_comeCount s_answered s_codes s_ordered p_times p_touchCounts p_touchSlots p_lineOfSlot p_from p_to p_bounds p_pairA p_pairB p_leaving p_firstLeaving g_come g_outcomes g_greatestTimes g_leastTimes g_changed g_greatest g_least g_greatestNow g_leastNow s_order s_arriving s_unit s_flag s_forbidding s_most s_fewest) := hD
            refine lv_istore (lv' := [(10, .int r_76), (6, .ref (a 30)), (0, .ref (a 3)), (1, .ref (a 1)), (4, .int v4), (5, .int v5), (7, .long ((s_fewest (Int32.toNatClampNeg ((v4 * p_blocks) + v5))) - (Int32.toInt64 (g_leastTimes (Int32.toNatClampNeg v5))))), (9, .int v9_51)]) hx hb dX2_lowestEdge_79 hl (by decide) rfl (fun ls hl => ?_)
            refine lv_iload hx hb dX2_lowestEdge_81 (lv_at hl 0 rfl) ?_
            refine lv_iconst (v := (-1)) hx hb dX2_lowestEdge_83 (by decide) ?_
            refine lv_icmp_eq (tgt := 106) hx hb dX2_lowestEdge_84 (by decide) (fun hc => ?_) (fun hc => ?_)
            · replace h := h.1 hc
              refine lv_iinc (v := (v9_51 + 1)) (lv' := [(9, .int (v9_51 + 1)), (10, .int r_76), (6, .ref (a 30)), (0, .ref (a 3)), (1, .ref (a 1)), (4, .int v4), (5, .int v5), (7, .long ((s_fewest (Int32.toNatClampNeg ((v4 * p_blocks) + v5))) - (Int32.toInt64 (g_leastTimes (Int32.toNatClampNeg v5)))))]) hx hb dX2_lowestEdge_106 hl (k := 7) rfl rfl (by decide) rfl (fun ls hl => ?_)
              refine lv_goto (tgt := 51) hx hb dX2_lowestEdge_109 (by decide) ?_
              exact ih51 (v9_51 + 1) h _ _ hP hD hS _ (lv_sub hl [2, 3, 4, 5, 6, 7, 0] rfl)
            · replace h := h.2 hc
              refine lv_aload hx hb dX2_lowestEdge_87 (lv_at hl 1 rfl) ?_
              refine lv_iload hx hb dX2_lowestEdge_89 (lv_at hl 0 rfl) ?_
              obtain ⟨hq, h⟩ := h
              refine va_lald (D := D) hx hb hK hP 30 2 rfl rfl hq dX2_lowestEdge_91 ?_
              refine lv_lload hx hb dX2_lowestEdge_92 (lv_at hl 6 rfl) ?_
              refine W.lcmp hx hb dX2_lowestEdge_94 ?_
              refine lv_if_ne (tgt := 106) hx hb dX2_lowestEdge_95 (by decide) (fun hc => ?_) (fun hc => ?_)
              · replace h := h.1 hc
                refine lv_iinc (v := (v9_51 + 1)) (lv' := [(9, .int (v9_51 + 1)), (10, .int r_76), (6, .ref (a 30)), (0, .ref (a 3)), (1, .ref (a 1)), (4, .int v4), (5, .int v5), (7, .long ((s_fewest (Int32.toNatClampNeg ((v4 * p_blocks) + v5))) - (Int32.toInt64 (g_leastTimes (Int32.toNatClampNeg v5)))))]) hx hb dX2_lowestEdge_106 hl (k := 7) rfl rfl (by decide) rfl (fun ls hl => ?_)
                refine lv_goto (tgt := 51) hx hb dX2_lowestEdge_109 (by decide) ?_
                exact ih51 (v9_51 + 1) h _ _ hP hD hS _ (lv_sub hl [2, 3, 4, 5, 6, 7, 0] rfl)
              · replace h := h.2 hc
                refine lv_aload_n hx hb dX2_lowestEdge_98 rfl (lv_at hl 3 rfl) ?_
                refine va_get (D := D) (ci := 1) (v := .ref (a 13)) (C := RX1) (T := TX1) (N := 15) hx hb hts hinX1 hown hK hP 1 rfl rfl 13 (by decide) (hts (.fieldLink RX2 101 "WorstPaths$Program" "leaving" "[I") (by decide +kernel)) (fun _ h9 => h9) rfl dX2_lowestEdge_99 ?_
                refine lv_iload hx hb dX2_lowestEdge_102 (lv_at hl 7 rfl) ?_
                obtain ⟨hq, h⟩ := h
                refine va_iald (D := D) hx hb hK hP 13 0 rfl rfl hq dX2_lowestEdge_104 ?_
                refine wz_mono hQz ?_
                exact W.iret (v := (p_leaving (Int32.toNatClampNeg v9_51))) hx hb hr (fun t ht hW => ⟨⟨(p_leaving (Int32.toNatClampNeg v9_51)), (), rfl, h, by rw [ht]; exact hP, va_K.moved hW.alike hK, hD⟩, hS.F ht⟩) hS.2.2 dX2_lowestEdge_105
      obtain ⟨k9, h⟩ := h
      exact LP51 k9 (p_firstLeaving (Int32.toNatClampNeg v5)) h _ _ hP hD hS _ (lv_sub hl [2, 3, 4, 7, 8, 1, 0] rfl)
  · replace h := h.2 hc
    refine lv_aload_n hx hb dX2_lowestEdge_4 rfl (lv_at hl 0 rfl) ?_
    refine va_get (D := D) (ci := 2) (v := .ref (a 29)) (C := RX2) (T := TX2) (N := 10) hx hb hts hinX2 hown hK hP 3 rfl rfl 8 (by decide) (hts (.fieldLink RX2 28 "WorstPaths$Search" "most" "[J") (by decide +kernel)) (fun _ h9 => h9) rfl dX2_lowestEdge_5 ?_
    refine lv_goto (tgt := 15) hx hb dX2_lowestEdge_8 (by decide) ?_
    refine lv_astore (lv' := [(6, .ref (a 29)), (0, .ref (a 3)), (1, .ref (a 1)), (2, .ref (a 2)), (3, .int v3), (4, .int v4), (5, .int v5)]) hx hb dX2_lowestEdge_15 hl (by decide) rfl (fun ls hl => ?_)
    refine lv_aload hx hb dX2_lowestEdge_17 (lv_at hl 0 rfl) ?_
    refine lv_iload hx hb dX2_lowestEdge_19 (lv_at hl 5 rfl) ?_
    refine lv_aload_n hx hb dX2_lowestEdge_21 rfl (lv_at hl 2 rfl) ?_
    refine va_get (D := D) (ci := 1) (v := .int p_blocks) (C := RX1) (T := TX1) (N := 15) hx hb hts hinX1 hown hK hP 1 rfl rfl 0 (by decide) (hts (.fieldLink RX2 39 "WorstPaths$Program" "blocks" "I") (by decide +kernel)) (fun _ h9 => h9) rfl dX2_lowestEdge_22 ?_
    refine lv_imul hx hb dX2_lowestEdge_25 ?_
    refine lv_iload hx hb dX2_lowestEdge_26 (lv_at hl 6 rfl) ?_
    refine lv_iadd hx hb dX2_lowestEdge_28 ?_
    obtain ⟨hq, h⟩ := h
    refine va_lald (D := D) hx hb hK hP 29 2 rfl rfl hq dX2_lowestEdge_29 ?_
    refine lv_aload_n hx hb dX2_lowestEdge_30 rfl (lv_at hl 3 rfl) ?_
    refine lv_iload_n hx hb dX2_lowestEdge_31 rfl (lv_at hl 4 rfl) ?_
    by_cases hc : v3 = 0
    · replace h := h.1 hc
      have hF := wz_free hD hS hA
      refine va_callr (va_runV (As := [.int v3]) (rest := [.long (s_most (Int32.toNatClampNeg ((v4 * p_blocks) + v5)))]) ⟨hx, hb, hml, hown, hts⟩ (c_X0_timesBy_0 l D a cI cZ cJ _ x_agesStand x_searchStands p_blocks p_lines p_edges p_pairs g_sets g_size g_penalty g_comeCount s_answered s_codes s_ordered p_times p_touchCounts p_touchSlots p_lineOfSlot p_from p_to p_bounds p_pairA p_pairB p_leaving p_firstLeaving g_come g_outcomes g_greatestTimes g_leastTimes g_changed g_greatest g_least g_greatestNow g_leastNow s_order s_arriving s_unit s_flag s_forbidding s_most s_fewest v3 hc) (cwV 1 hts gX2_lowestEdge_X0_timesBy rfl rfl rfl (by decide +kernel) ⟨Nat.le_of_ble_eq_true rfl, Nat.le_of_ble_eq_true rfl⟩) ⟨wz_blind, va_recv hK hP (ci := 0) (q0 := 2) rfl rfl, fun U hU hW => wz_at hU hW hP hK hD⟩ rfl rfl hl.1 rfl (lv_room (Nat.le_of_ble_eq_true rfl)) dX2_lowestEdge_32 ⟨Nat.zero_le _, Nat.zero_le _⟩) hS (fun q _ hq => hF q hq) hF (fun u ra t H locs ht hvm hw hB hz1 hk1 hS => ?_)
      obtain ⟨rfl, hB⟩ := hB
      obtain ⟨hP, -, hD⟩ := wz_back ht hF hB
      have hP : va_P D vwCl (wC a cI cZ cJ x_agesStand x_searchStands p_blocks p_lines p_edges p_pairs g_sets g_size g_penalty g_comeCount s_answered s_codes s_ordered p_times p_touchCounts p_touchSlots p_lineOfSlot p_from p_to p_bounds p_pairA p_pairB p_leaving p_firstLeaving g_come g_outcomes g_greatestTimes g_leastTimes g_changed g_greatest g_least g_greatestNow g_leastNow s_order s_arriving s_unit s_flag s_forbidding s_most s_fewest) H := hP
      have hD : va_D A (wC a cI cZ cJ x_agesStand x_searchStands p_blocks p_lines p_edges p_pairs g_sets g_size g_penalty g_comeCount s_answered s_codes s_ordered p_times p_touchCounts p_touchSlots p_lineOfSlot p_from p_to p_bounds p_pairA p_pairB p_leaving p_firstLeaving g_come g_outcomes g_greatestTimes g_leastTimes g_changed g_greatest g_least g_greatestNow g_leastNow s_order s_arriving s_unit s_flag s_forbidding s_most s_fewest) := hD
      refine lv_iload hx hb dX2_lowestEdge_35 (lv_at hl 6 rfl) ?_
      obtain ⟨hq, h⟩ := h
      refine va_iald (D := D) hx hb hK hP 17 0 rfl rfl hq dX2_lowestEdge_37 ?_
      refine lv_i2l hx hb dX2_lowestEdge_38 rfl ?_
      refine lv_lsub hx hb dX2_lowestEdge_39 ?_
      refine lv_lstore (lv' := [(7, .long ((s_most (Int32.toNatClampNeg ((v4 * p_blocks) + v5))) - (Int32.toInt64 (g_greatestTimes (Int32.toNatClampNeg v5))))), (6, .ref (a 29)), (0, .ref (a 3)), (1, .ref (a 1)), (2, .ref (a 2)), (3, .int v3), (4, .int v4), (5, .int v5)]) hx hb dX2_lowestEdge_40 hl (by decide) rfl (fun ls hl => ?_)
      refine lv_aload_n hx hb dX2_lowestEdge_42 rfl (lv_at hl 3 rfl) ?_
      refine va_get (D := D) (ci := 1) (v := .ref (a 14)) (C := RX1) (T := TX1) (N := 15) hx hb hts hinX1 hown hK hP 1 rfl rfl 14 (by decide) (hts (.fieldLink RX2 98 "WorstPaths$Program" "firstLeaving" "[I") (by decide +kernel)) (fun _ h9 => h9) rfl dX2_lowestEdge_43 ?_
      refine lv_iload hx hb dX2_lowestEdge_46 (lv_at hl 7 rfl) ?_
      obtain ⟨hq, h⟩ := h
      refine va_iald (D := D) hx hb hK hP 14 0 rfl rfl hq dX2_lowestEdge_48 ?_
      refine lv_istore (lv' := [(9, .int (p_firstLeaving (Int32.toNatClampNeg v5))), (7, .long ((s_most (Int32.toNatClampNeg ((v4 * p_blocks) + v5))) - (Int32.toInt64 (g_greatestTimes (Int32.toNatClampNeg v5))))), (6, .ref (a 29)), (0, .ref (a 3)), (1, .ref (a 1)), (2, .ref (a 2)), (3, .int v3), (4, .int v4), (5, .int v5)]) hx hb dX2_lowestEdge_49 hl (by decide) rfl (fun ls hl => ?_)
      have LP51 : ∀ (n51 : Nat) (v9_51 : Int32), lp_X2_lowestEdge_51_s_most v4 v5 ((s_most (Int32.toNatClampNeg ((v4 * p_blocks) + v5))) - (Int32.toInt64 (g_greatestTimes (Int32.toNatClampNeg v5)))) p_blocks p_to p_bounds p_leaving p_firstLeaving g_greatestTimes g_leastTimes s_unit s_flag s_forbidding s_most s_fewest Q n51 v9_51 → ∀ (H : Heap) (locs : List Loc), va_P D vwCl (wC a cI cZ cJ x_agesStand x_searchStands p_blocks p_lines p_edges p_pairs g_sets g_size g_penalty g_comeCount s_answered s_codes s_ordered p_times p_touchCounts p_touchSlots p_lineOfSlot p_from p_to p_bounds p_pairA p_pairB p_leaving p_firstLeaving g_come g_outcomes g_greatestTimes g_leastTimes g_changed g_greatest g_least g_greatestNow g_leastNow s_order s_arriving s_unit s_flag s_forbidding s_most s_fewest) H → va_D A (wC a cI cZ cJ x_agesStand x_searchStands p_blocks p_lines p_edges p_pairs g_sets g_size g_penalty g_comeCount s_answered s_codes s_ordered p_times p_touchCounts p_touchSlots p_lineOfSlot p_from p_to p_bounds p_pairA p_pairB p_leaving p_firstLeaving g_come g_outcomes g_greatestTimes g_leastTimes g_changed g_greatest g_least g_greatestNow g_leastNow s_order s_arriving s_unit s_flag s_forbidding s_most s_fewest) → va_S A s.heap H locs → ∀ (ls : Array Slot), lv_has ls 11 [(6, .ref (a 29)), (0, .ref (a 3)), (1, .ref (a 1)), (4, .int v4), (5, .int v5), (7, .long ((s_most (Int32.toNatClampNeg ((v4 * p_blocks) + v5))) - (Int32.toInt64 (g_greatestTimes (Int32.toNatClampNeg v5))))), (9, .int v9_51)] → W p l e (headSpec wsX2_lowestEdge rm_X2_lowestEdge).room s m ([Value.ref (a 3), Value.ref (a 1), Value.ref (a 2), Value.int v3, Value.int v4, Value.int v5] : List Value).toArray below meth c H locs 0 0 Qz (F0 m 51 ls []) := by
        intro n51
        induction n51 with
        | zero => intro v9_51 h; exact h.elim
        | succ n51 ih51 =>
          intro v9_51 h H locs hP hD hS ls hl
          unfold lp_X2_lowestEdge_51_s_most at h
          refine lv_iload hx hb dX2_lowestEdge_51 (lv_at hl 6 rfl) ?_
          refine lv_aload_n hx hb dX2_lowestEdge_53 rfl (lv_at hl 2 rfl) ?_
          refine va_get (D := D) (ci := 1) (v := .ref (a 14)) (C := RX1) (T := TX1) (N := 15) hx hb hts hinX1 hown hK hP 1 rfl rfl 14 (by decide) (hts (.fieldLink RX2 98 "WorstPaths$Program" "firstLeaving" "[I") (by decide +kernel)) (fun _ h9 => h9) rfl dX2_lowestEdge_54 ?_
          refine lv_iload hx hb dX2_lowestEdge_57 (lv_at hl 4 rfl) ?_
          refine lv_iconst (v := 1) hx hb dX2_lowestEdge_59 (by decide) ?_
          refine lv_iadd hx hb dX2_lowestEdge_60 ?_
          obtain ⟨hq, h⟩ := h
          refine va_iald (D := D) hx hb hK hP 14 0 rfl rfl hq dX2_lowestEdge_61 ?_
          refine lv_icmp_ge (tgt := 112) hx hb dX2_lowestEdge_62 (by decide) (fun hc => ?_) (fun hc => ?_)
          · replace h := h.1 hc
            refine lv_iconst (v := (-1)) hx hb dX2_lowestEdge_112 (by decide) ?_
            refine wz_mono hQz ?_
            exact W.iret (v := (-1)) hx hb hr (fun t ht hW => ⟨⟨(-1), (), rfl, h, by rw [ht]; exact hP, va_K.moved hW.alike hK, hD⟩, hS.F ht⟩) hS.2.2 dX2_lowestEdge_113
          · replace h := h.2 hc
            refine lv_aload_n hx hb dX2_lowestEdge_65 rfl (lv_at hl 1 rfl) ?_
            refine lv_aload_n hx hb dX2_lowestEdge_66 rfl (lv_at hl 2 rfl) ?_
            refine lv_aload_n hx hb dX2_lowestEdge_67 rfl (lv_at hl 2 rfl) ?_
            refine va_get (D := D) (ci := 1) (v := .ref (a 13)) (C := RX1) (T := TX1) (N := 15) hx hb hts hinX1 hown hK hP 1 rfl rfl 13 (by decide) (hts (.fieldLink RX2 101 "WorstPaths$Program" "leaving" "[I") (by decide +kernel)) (fun _ h9 => h9) rfl dX2_lowestEdge_68 ?_
            refine lv_iload hx hb dX2_lowestEdge_71 (lv_at hl 6 rfl) ?_
            obtain ⟨hq, h⟩ := h
            refine va_iald (D := D) hx hb hK hP 13 0 rfl rfl hq dX2_lowestEdge_73 ?_
            refine lv_iload hx hb dX2_lowestEdge_74 (lv_at hl 3 rfl) ?_
            have hF := wz_free hD hS hA
            refine va_calli (va_runV (As := [.ref (a 1), .int (p_leaving (Int32.toNatClampNeg v9_51)), .int v4]) (rest := []) ⟨hx, hb, hml, hown, hts⟩ (c_X2_stateBehind l D a cI cZ cJ _ x_agesStand x_searchStands p_blocks p_lines p_edges p_pairs g_sets g_size g_penalty g_comeCount s_answered s_codes s_ordered p_times p_touchCounts p_touchSlots p_lineOfSlot p_from p_to p_bounds p_pairA p_pairB p_leaving p_firstLeaving g_come g_outcomes g_greatestTimes g_leastTimes g_changed g_greatest g_least g_greatestNow g_leastNow s_order s_arriving s_unit s_flag s_forbidding s_most s_fewest (p_leaving (Int32.toNatClampNeg v9_51)) v4 _ h) (cwV 3 hts gX2_lowestEdge_X2_stateBehind rfl rfl rfl (by decide +kernel) ⟨Nat.le_of_ble_eq_true rfl, Nat.le_of_ble_eq_true rfl⟩) ⟨wz_blind, va_recv hK hP (ci := 2) (q0 := 3) rfl rfl, fun U hU hW => wz_at hU hW hP hK hD⟩ rfl rfl hl.1 rfl (lv_room (Nat.le_of_ble_eq_true rfl)) dX2_lowestEdge_76 ⟨Nat.zero_le _, Nat.zero_le _⟩) hS (fun q _ hq => hF q hq) hF (fun r_76 u t H locs ht hvm h hB hz1 hk1 hS => ?_)
            obtain ⟨hP, -, hD⟩ := wz_back ht hF hB
            have hP : va_P D vwCl (wC a cI cZ cJ x_agesStand x_searchStands p_blocks p_lines p_edges p_pairs g_sets g_size g_penalty g_comeCount s_answered s_codes s_ordered p_times p_touchCounts p_touchSlots p_lineOfSlot p_from p_to p_bounds p_pairA p_pairB p_leaving p_firstLeaving g_come g_outcomes g_greatestTimes g_leastTimes g_changed g_greatest g_least g_greatestNow g_leastNow s_order s_arriving s_unit s_flag s_forbidding s_most s_fewest) H := hP
            have hD : va_D A (wC a cI cZ cJ x_agesStand x_searchStands p_blocks p_lines p_edges p_pairs g_sets g_size g_penalty g_comeCount s_answered s_codes s_ordered p_times p_touchCounts p_touchSlots p_lineOfSlot p_from p_to p_bounds p_pairA p_pairB p_leaving p_firstLeaving g_come g_outcomes g_greatestTimes g_leastTimes g_changed g_greatest g_least g_greatestNow g_leastNow s_order s_arriving s_unit s_flag s_forbidding s_most s_fewest) := hD
            refine lv_istore (lv' := [(10, .int r_76), (6, .ref (a 29)), (0, .ref (a 3)), (1, .ref (a 1)), (4, .int v4), (5, .int v5), (7, .long ((s_most (Int32.toNatClampNeg ((v4 * p_blocks) + v5))) - (Int32.toInt64 (g_greatestTimes (Int32.toNatClampNeg v5))))), (9, .int v9_51)]) hx hb dX2_lowestEdge_79 hl (by decide) rfl (fun ls hl => ?_)
            refine lv_iload hx hb dX2_lowestEdge_81 (lv_at hl 0 rfl) ?_
            refine lv_iconst (v := (-1)) hx hb dX2_lowestEdge_83 (by decide) ?_
            refine lv_icmp_eq (tgt := 106) hx hb dX2_lowestEdge_84 (by decide) (fun hc => ?_) (fun hc => ?_)
            · replace h := h.1 hc
              refine lv_iinc (v := (v9_51 + 1)) (lv' := [(9, .int (v9_51 + 1)), (10, .int r_76), (6, .ref (a 29)), (0, .ref (a 3)), (1, .ref (a 1)), (4, .int v4), (5, .int v5), (7, .long ((s_most (Int32.toNatClampNeg ((v4 * p_blocks) + v5))) - (Int32.toInt64 (g_greatestTimes (Int32.toNatClampNeg v5)))))]) hx hb dX2_lowestEdge_106 hl (k := 7) rfl rfl (by decide) rfl (fun ls hl => ?_)
              refine lv_goto (tgt := 51) hx hb dX2_lowestEdge_109 (by decide) ?_
              exact ih51 (v9_51 + 1) h _ _ hP hD hS _ (lv_sub hl [2, 3, 4, 5, 6, 7, 0] rfl)
            · replace h := h.2 hc
              refine lv_aload hx hb dX2_lowestEdge_87 (lv_at hl 1 rfl) ?_
              refine lv_iload hx hb dX2_lowestEdge_89 (lv_at hl 0 rfl) ?_
              obtain ⟨hq, h⟩ := h
              refine va_lald (D := D) hx hb hK hP 29 2 rfl rfl hq dX2_lowestEdge_91 ?_
              refine lv_lload hx hb dX2_lowestEdge_92 (lv_at hl 6 rfl) ?_
              refine W.lcmp hx hb dX2_lowestEdge_94 ?_
              refine lv_if_ne (tgt := 106) hx hb dX2_lowestEdge_95 (by decide) (fun hc => ?_) (fun hc => ?_)
              · replace h := h.1 hc
                refine lv_iinc (v := (v9_51 + 1)) (lv' := [(9, .int (v9_51 + 1)), (10, .int r_76), (6, .ref (a 29)), (0, .ref (a 3)), (1, .ref (a 1)), (4, .int v4), (5, .int v5), (7, .long ((s_most (Int32.toNatClampNeg ((v4 * p_blocks) + v5))) - (Int32.toInt64 (g_greatestTimes (Int32.toNatClampNeg v5)))))]) hx hb dX2_lowestEdge_106 hl (k := 7) rfl rfl (by decide) rfl (fun ls hl => ?_)
                refine lv_goto (tgt := 51) hx hb dX2_lowestEdge_109 (by decide) ?_
                exact ih51 (v9_51 + 1) h _ _ hP hD hS _ (lv_sub hl [2, 3, 4, 5, 6, 7, 0] rfl)
              · replace h := h.2 hc
                refine lv_aload_n hx hb dX2_lowestEdge_98 rfl (lv_at hl 3 rfl) ?_
                refine va_get (D := D) (ci := 1) (v := .ref (a 13)) (C := RX1) (T := TX1) (N := 15) hx hb hts hinX1 hown hK hP 1 rfl rfl 13 (by decide) (hts (.fieldLink RX2 101 "WorstPaths$Program" "leaving" "[I") (by decide +kernel)) (fun _ h9 => h9) rfl dX2_lowestEdge_99 ?_
                refine lv_iload hx hb dX2_lowestEdge_102 (lv_at hl 7 rfl) ?_
                obtain ⟨hq, h⟩ := h
                refine va_iald (D := D) hx hb hK hP 13 0 rfl rfl hq dX2_lowestEdge_104 ?_
                refine wz_mono hQz ?_
                exact W.iret (v := (p_leaving (Int32.toNatClampNeg v9_51))) hx hb hr (fun t ht hW => ⟨⟨(p_leaving (Int32.toNatClampNeg v9_51)), (), rfl, h, by rw [ht]; exact hP, va_K.moved hW.alike hK, hD⟩, hS.F ht⟩) hS.2.2 dX2_lowestEdge_105
      obtain ⟨k9, h⟩ := h
      exact LP51 k9 (p_firstLeaving (Int32.toNatClampNeg v5)) h _ _ hP hD hS _ (lv_sub hl [2, 3, 4, 7, 8, 1, 0] rfl)
    · replace h := h.2 hc
      have hF := wz_free hD hS hA
      refine va_callr (va_runV (As := [.int v3]) (rest := [.long (s_most (Int32.toNatClampNeg ((v4 * p_blocks) + v5)))]) ⟨hx, hb, hml, hown, hts⟩ (c_X0_timesBy_1 l D a cI cZ cJ _ x_agesStand x_searchStands p_blocks p_lines p_edges p_pairs g_sets g_size g_penalty g_comeCount s_answered s_codes s_ordered p_times p_touchCounts p_touchSlots p_lineOfSlot p_from p_to p_bounds p_pairA p_pairB p_leaving p_firstLeaving g_come g_outcomes g_greatestTimes g_leastTimes g_changed g_greatest g_least g_greatestNow g_leastNow s_order s_arriving s_unit s_flag s_forbidding s_most s_fewest v3 hc) (cwV 1 hts gX2_lowestEdge_X0_timesBy rfl rfl rfl (by decide +kernel) ⟨Nat.le_of_ble_eq_true rfl, Nat.le_of_ble_eq_true rfl⟩) ⟨wz_blind, va_recv hK hP (ci := 0) (q0 := 2) rfl rfl, fun U hU hW => wz_at hU hW hP hK hD⟩ rfl rfl hl.1 rfl (lv_room (Nat.le_of_ble_eq_true rfl)) dX2_lowestEdge_32 ⟨Nat.zero_le _, Nat.zero_le _⟩) hS (fun q _ hq => hF q hq) hF (fun u ra t H locs ht hvm hw hB hz1 hk1 hS => ?_)
      obtain ⟨rfl, hB⟩ := hB
      obtain ⟨hP, -, hD⟩ := wz_back ht hF hB
      have hP : va_P D vwCl (wC a cI cZ cJ x_agesStand x_searchStands p_blocks p_lines p_edges p_pairs g_sets g_size g_penalty g_comeCount s_answered s_codes s_ordered p_times p_touchCounts p_touchSlots p_lineOfSlot p_from p_to p_bounds p_pairA p_pairB p_leaving p_firstLeaving g_come g_outcomes g_greatestTimes g_leastTimes g_changed g_greatest g_least g_greatestNow g_leastNow s_order s_arriving s_unit s_flag s_forbidding s_most s_fewest) H := hP
      have hD : va_D A (wC a cI cZ cJ x_agesStand x_searchStands p_blocks p_lines p_edges p_pairs g_sets g_size g_penalty g_comeCount s_answered s_codes s_ordered p_times p_touchCounts p_touchSlots p_lineOfSlot p_from p_to p_bounds p_pairA p_pairB p_leaving p_firstLeaving g_come g_outcomes g_greatestTimes g_leastTimes g_changed g_greatest g_least g_greatestNow g_leastNow s_order s_arriving s_unit s_flag s_forbidding s_most s_fewest) := hD
      refine lv_iload hx hb dX2_lowestEdge_35 (lv_at hl 6 rfl) ?_
      obtain ⟨hq, h⟩ := h
      refine va_iald (D := D) hx hb hK hP 18 0 rfl rfl hq dX2_lowestEdge_37 ?_
      refine lv_i2l hx hb dX2_lowestEdge_38 rfl ?_
      refine lv_lsub hx hb dX2_lowestEdge_39 ?_
      refine lv_lstore (lv' := [(7, .long ((s_most (Int32.toNatClampNeg ((v4 * p_blocks) + v5))) - (Int32.toInt64 (g_leastTimes (Int32.toNatClampNeg v5))))), (6, .ref (a 29)), (0, .ref (a 3)), (1, .ref (a 1)), (2, .ref (a 2)), (3, .int v3), (4, .int v4), (5, .int v5)]) hx hb dX2_lowestEdge_40 hl (by decide) rfl (fun ls hl => ?_)
      refine lv_aload_n hx hb dX2_lowestEdge_42 rfl (lv_at hl 3 rfl) ?_
      refine va_get (D := D) (ci := 1) (v := .ref (a 14)) (C := RX1) (T := TX1) (N := 15) hx hb hts hinX1 hown hK hP 1 rfl rfl 14 (by decide) (hts (.fieldLink RX2 98 "WorstPaths$Program" "firstLeaving" "[I") (by decide +kernel)) (fun _ h9 => h9) rfl dX2_lowestEdge_43 ?_
      refine lv_iload hx hb dX2_lowestEdge_46 (lv_at hl 7 rfl) ?_
      obtain ⟨hq, h⟩ := h
      refine va_iald (D := D) hx hb hK hP 14 0 rfl rfl hq dX2_lowestEdge_48 ?_
      refine lv_istore (lv' := [(9, .int (p_firstLeaving (Int32.toNatClampNeg v5))), (7, .long ((s_most (Int32.toNatClampNeg ((v4 * p_blocks) + v5))) - (Int32.toInt64 (g_leastTimes (Int32.toNatClampNeg v5))))), (6, .ref (a 29)), (0, .ref (a 3)), (1, .ref (a 1)), (2, .ref (a 2)), (3, .int v3), (4, .int v4), (5, .int v5)]) hx hb dX2_lowestEdge_49 hl (by decide) rfl (fun ls hl => ?_)
      have LP51 : ∀ (n51 : Nat) (v9_51 : Int32), lp_X2_lowestEdge_51_s_most v4 v5 ((s_most (Int32.toNatClampNeg ((v4 * p_blocks) + v5))) - (Int32.toInt64 (g_leastTimes (Int32.toNatClampNeg v5)))) p_blocks p_to p_bounds p_leaving p_firstLeaving g_greatestTimes g_leastTimes s_unit s_flag s_forbidding s_most s_fewest Q n51 v9_51 → ∀ (H : Heap) (locs : List Loc), va_P D vwCl (wC a cI cZ cJ x_agesStand x_searchStands p_blocks p_lines p_edges p_pairs g_sets g_size g_penalty g_comeCount s_answered s_codes s_ordered p_times p_touchCounts p_touchSlots p_lineOfSlot p_from p_to p_bounds p_pairA p_pairB p_leaving p_firstLeaving g_come g_outcomes g_greatestTimes g_leastTimes g_changed g_greatest g_least g_greatestNow g_leastNow s_order s_arriving s_unit s_flag s_forbidding s_most s_fewest) H → va_D A (wC a cI cZ cJ x_agesStand x_searchStands p_blocks p_lines p_edges p_pairs g_sets g_size g_penalty g_comeCount s_answered s_codes s_ordered p_times p_touchCounts p_touchSlots p_lineOfSlot p_from p_to p_bounds p_pairA p_pairB p_leaving p_firstLeaving g_come g_outcomes g_greatestTimes g_leastTimes g_changed g_greatest g_least g_greatestNow g_leastNow s_order s_arriving s_unit s_flag s_forbidding s_most s_fewest) → va_S A s.heap H locs → ∀ (ls : Array Slot), lv_has ls 11 [(6, .ref (a 29)), (0, .ref (a 3)), (1, .ref (a 1)), (4, .int v4), (5, .int v5), (7, .long ((s_most (Int32.toNatClampNeg ((v4 * p_blocks) + v5))) - (Int32.toInt64 (g_leastTimes (Int32.toNatClampNeg v5))))), (9, .int v9_51)] → W p l e (headSpec wsX2_lowestEdge rm_X2_lowestEdge).room s m ([Value.ref (a 3), Value.ref (a 1), Value.ref (a 2), Value.int v3, Value.int v4, Value.int v5] : List Value).toArray below meth c H locs 0 0 Qz (F0 m 51 ls []) := by
        intro n51
        induction n51 with
        | zero => intro v9_51 h; exact h.elim
        | succ n51 ih51 =>
          intro v9_51 h H locs hP hD hS ls hl
          unfold lp_X2_lowestEdge_51_s_most at h
          refine lv_iload hx hb dX2_lowestEdge_51 (lv_at hl 6 rfl) ?_
          refine lv_aload_n hx hb dX2_lowestEdge_53 rfl (lv_at hl 2 rfl) ?_
          refine va_get (D := D) (ci := 1) (v := .ref (a 14)) (C := RX1) (T := TX1) (N := 15) hx hb hts hinX1 hown hK hP 1 rfl rfl 14 (by decide) (hts (.fieldLink RX2 98 "WorstPaths$Program" "firstLeaving" "[I") (by decide +kernel)) (fun _ h9 => h9) rfl dX2_lowestEdge_54 ?_
          refine lv_iload hx hb dX2_lowestEdge_57 (lv_at hl 4 rfl) ?_
          refine lv_iconst (v := 1) hx hb dX2_lowestEdge_59 (by decide) ?_
          refine lv_iadd hx hb dX2_lowestEdge_60 ?_
          obtain ⟨hq, h⟩ := h
          refine va_iald (D := D) hx hb hK hP 14 0 rfl rfl hq dX2_lowestEdge_61 ?_
          refine lv_icmp_ge (tgt := 112) hx hb dX2_lowestEdge_62 (by decide) (fun hc => ?_) (fun hc => ?_)
          · replace h := h.1 hc
            refine lv_iconst (v := (-1)) hx hb dX2_lowestEdge_112 (by decide) ?_
            refine wz_mono hQz ?_
            exact W.iret (v := (-1)) hx hb hr (fun t ht hW => ⟨⟨(-1), (), rfl, h, by rw [ht]; exact hP, va_K.moved hW.alike hK, hD⟩, hS.F ht⟩) hS.2.2 dX2_lowestEdge_113
          · replace h := h.2 hc
            refine lv_aload_n hx hb dX2_lowestEdge_65 rfl (lv_at hl 1 rfl) ?_
            refine lv_aload_n hx hb dX2_lowestEdge_66 rfl (lv_at hl 2 rfl) ?_
            refine lv_aload_n hx hb dX2_lowestEdge_67 rfl (lv_at hl 2 rfl) ?_
            refine va_get (D := D) (ci := 1) (v := .ref (a 13)) (C := RX1) (T := TX1) (N := 15) hx hb hts hinX1 hown hK hP 1 rfl rfl 13 (by decide) (hts (.fieldLink RX2 101 "WorstPaths$Program" "leaving" "[I") (by decide +kernel)) (fun _ h9 => h9) rfl dX2_lowestEdge_68 ?_
            refine lv_iload hx hb dX2_lowestEdge_71 (lv_at hl 6 rfl) ?_
            obtain ⟨hq, h⟩ := h
            refine va_iald (D := D) hx hb hK hP 13 0 rfl rfl hq dX2_lowestEdge_73 ?_
            refine lv_iload hx hb dX2_lowestEdge_74 (lv_at hl 3 rfl) ?_
            have hF := wz_free hD hS hA
            refine va_calli (va_runV (As := [.ref (a 1), .int (p_leaving (Int32.toNatClampNeg v9_51)), .int v4]) (rest := []) ⟨hx, hb, hml, hown, hts⟩ (c_X2_stateBehind l D a cI cZ cJ _ x_agesStand x_searchStands p_blocks p_lines p_edges p_pairs g_sets g_size g_penalty g_comeCount s_answered s_codes s_ordered p_times p_touchCounts p_touchSlots p_lineOfSlot p_from p_to p_bounds p_pairA p_pairB p_leaving p_firstLeaving g_come g_outcomes g_greatestTimes g_leastTimes g_changed g_greatest g_least g_greatestNow g_leastNow s_order s_arriving s_unit s_flag s_forbidding s_most s_fewest (p_leaving (Int32.toNatClampNeg v9_51)) v4 _ h) (cwV 3 hts gX2_lowestEdge_X2_stateBehind rfl rfl rfl (by decide +kernel) ⟨Nat.le_of_ble_eq_true rfl, Nat.le_of_ble_eq_true rfl⟩) ⟨wz_blind, va_recv hK hP (ci := 2) (q0 := 3) rfl rfl, fun U hU hW => wz_at hU hW hP hK hD⟩ rfl rfl hl.1 rfl (lv_room (Nat.le_of_ble_eq_true rfl)) dX2_lowestEdge_76 ⟨Nat.zero_le _, Nat.zero_le _⟩) hS (fun q _ hq => hF q hq) hF (fun r_76 u t H locs ht hvm h hB hz1 hk1 hS => ?_)
            obtain ⟨hP, -, hD⟩ := wz_back ht hF hB
            have hP : va_P D vwCl (wC a cI cZ cJ x_agesStand x_searchStands p_blocks p_lines p_edges p_pairs g_sets g_size g_penalty g_comeCount s_answered s_codes s_ordered p_times p_touchCounts p_touchSlots p_lineOfSlot p_from p_to p_bounds p_pairA p_pairB p_leaving p_firstLeaving g_come g_outcomes g_greatestTimes g_leastTimes g_changed g_greatest g_least g_greatestNow g_leastNow s_order s_arriving s_unit s_flag s_forbidding s_most s_fewest) H := hP
            have hD : va_D A (wC a cI cZ cJ x_agesStand x_searchStands p_blocks p_lines p_edges p_pairs g_sets g_size g_penalty g_comeCount s_answered s_codes s_ordered p_times p_touchCounts p_touchSlots p_lineOfSlot p_from p_to p_bounds p_pairA p_pairB p_leaving p_firstLeaving g_come g_outcomes g_greatestTimes g_leastTimes g_changed g_greatest g_least g_greatestNow g_leastNow s_order s_arriving s_unit s_flag s_forbidding s_most s_fewest) := hD
            refine lv_istore (lv' := [(10, .int r_76), (6, .ref (a 29)), (0, .ref (a 3)), (1, .ref (a 1)), (4, .int v4), (5, .int v5), (7, .long ((s_most (Int32.toNatClampNeg ((v4 * p_blocks) + v5))) - (Int32.toInt64 (g_leastTimes (Int32.toNatClampNeg v5))))), (9, .int v9_51)]) hx hb dX2_lowestEdge_79 hl (by decide) rfl (fun ls hl => ?_)
            refine lv_iload hx hb dX2_lowestEdge_81 (lv_at hl 0 rfl) ?_
            refine lv_iconst (v := (-1)) hx hb dX2_lowestEdge_83 (by decide) ?_
            refine lv_icmp_eq (tgt := 106) hx hb dX2_lowestEdge_84 (by decide) (fun hc => ?_) (fun hc => ?_)
            · replace h := h.1 hc
              refine lv_iinc (v := (v9_51 + 1)) (lv' := [(9, .int (v9_51 + 1)), (10, .int r_76), (6, .ref (a 29)), (0, .ref (a 3)), (1, .ref (a 1)), (4, .int v4), (5, .int v5), (7, .long ((s_most (Int32.toNatClampNeg ((v4 * p_blocks) + v5))) - (Int32.toInt64 (g_leastTimes (Int32.toNatClampNeg v5)))))]) hx hb dX2_lowestEdge_106 hl (k := 7) rfl rfl (by decide) rfl (fun ls hl => ?_)
              refine lv_goto (tgt := 51) hx hb dX2_lowestEdge_109 (by decide) ?_
              exact ih51 (v9_51 + 1) h _ _ hP hD hS _ (lv_sub hl [2, 3, 4, 5, 6, 7, 0] rfl)
            · replace h := h.2 hc
              refine lv_aload hx hb dX2_lowestEdge_87 (lv_at hl 1 rfl) ?_
              refine lv_iload hx hb dX2_lowestEdge_89 (lv_at hl 0 rfl) ?_
              obtain ⟨hq, h⟩ := h
              refine va_lald (D := D) hx hb hK hP 29 2 rfl rfl hq dX2_lowestEdge_91 ?_
              refine lv_lload hx hb dX2_lowestEdge_92 (lv_at hl 6 rfl) ?_
              refine W.lcmp hx hb dX2_lowestEdge_94 ?_
              refine lv_if_ne (tgt := 106) hx hb dX2_lowestEdge_95 (by decide) (fun hc => ?_) (fun hc => ?_)
              · replace h := h.1 hc
                refine lv_iinc (v := (v9_51 + 1)) (lv' := [(9, .int (v9_51 + 1)), (10, .int r_76), (6, .ref (a 29)), (0, .ref (a 3)), (1, .ref (a 1)), (4, .int v4), (5, .int v5), (7, .long ((s_most (Int32.toNatClampNeg ((v4 * p_blocks) + v5))) - (Int32.toInt64 (g_leastTimes (Int32.toNatClampNeg v5)))))]) hx hb dX2_lowestEdge_106 hl (k := 7) rfl rfl (by decide) rfl (fun ls hl => ?_)
                refine lv_goto (tgt := 51) hx hb dX2_lowestEdge_109 (by decide) ?_
                exact ih51 (v9_51 + 1) h _ _ hP hD hS _ (lv_sub hl [2, 3, 4, 5, 6, 7, 0] rfl)
              · replace h := h.2 hc
                refine lv_aload_n hx hb dX2_lowestEdge_98 rfl (lv_at hl 3 rfl) ?_
                refine va_get (D := D) (ci := 1) (v := .ref (a 13)) (C := RX1) (T := TX1) (N := 15) hx hb hts hinX1 hown hK hP 1 rfl rfl 13 (by decide) (hts (.fieldLink RX2 101 "WorstPaths$Program" "leaving" "[I") (by decide +kernel)) (fun _ h9 => h9) rfl dX2_lowestEdge_99 ?_
                refine lv_iload hx hb dX2_lowestEdge_102 (lv_at hl 7 rfl) ?_
                obtain ⟨hq, h⟩ := h
                refine va_iald (D := D) hx hb hK hP 13 0 rfl rfl hq dX2_lowestEdge_104 ?_
                refine wz_mono hQz ?_
                exact W.iret (v := (p_leaving (Int32.toNatClampNeg v9_51))) hx hb hr (fun t ht hW => ⟨⟨(p_leaving (Int32.toNatClampNeg v9_51)), (), rfl, h, by rw [ht]; exact hP, va_K.moved hW.alike hK, hD⟩, hS.F ht⟩) hS.2.2 dX2_lowestEdge_105
      obtain ⟨k9, h⟩ := h
      exact LP51 k9 (p_firstLeaving (Int32.toNatClampNeg v5)) h _ _ hP hD hS _ (lv_sub hl [2, 3, 4, 7, 8, 1, 0] rfl)
def lp_X2_edgeOnWay_20 (v3 : Int32) (v4 : Int32) (v7 : Int32) (p_blocks : Int32) (s_codes : Int32) (p_to : Nat → Int32) (p_bounds : Nat → Int32) (p_leaving : Nat → Int32) (p_firstLeaving : Nat → Int32) (g_greatestTimes : Nat → Int32) (g_leastTimes : Nat → Int32) (s_unit : Nat → Int32) (s_flag : Nat → Int32) (s_forbidding : Nat → Int32) (s_most : Nat → Int64) (s_fewest : Nat → Int64) (Q : Int32 → Prop) : Nat → Int32 → Int32 → Int32 → Prop
  | 0, _, _, _ => False
  | n + 1, v5, v6, v8 => (v7 ≤ v8 → Q (-1)) ∧ (¬ v7 ≤ v8 → wp_X2_lowestEdge v3 v5 v6 p_blocks p_to p_bounds p_leaving p_firstLeaving g_greatestTimes g_leastTimes s_unit s_flag s_forbidding s_most s_fewest (fun r_35 => (r_35 = (-1) → Q r_35) ∧ (¬ r_35 = (-1) → (¬ v8 = v4 → wp_X2_codeBehind r_35 v5 p_bounds s_unit s_flag s_forbidding (fun r_62 => vp_in r_35 80 ∧ ((lp_X2_edgeOnWay_20 v3 v4 v7 p_blocks s_codes p_to p_bounds p_leaving p_firstLeaving g_greatestTimes g_leastTimes s_unit s_flag s_forbidding s_most s_fewest Q n) r_62 (p_to (Int32.toNatClampNeg r_35)) (v8 + 1)))) ∧ (v8 = v4 → Q r_35))))
def wp_X2_edgeOnWay (v3 : Int32) (v4 : Int32) (p_blocks : Int32) (s_codes : Int32) (p_to : Nat → Int32) (p_bounds : Nat → Int32) (p_leaving : Nat → Int32) (p_firstLeaving : Nat → Int32) (g_greatestTimes : Nat → Int32) (g_leastTimes : Nat → Int32) (s_unit : Nat → Int32) (s_flag : Nat → Int32) (s_forbidding : Nat → Int32) (s_most : Nat → Int64) (s_fewest : Nat → Int64) (Q : Int32 → Prop) : Prop := ∃ k20, lp_X2_edgeOnWay_20 v3 v4 (s_codes * p_blocks) p_blocks s_codes p_to p_bounds p_leaving p_firstLeaving g_greatestTimes g_leastTimes s_unit s_flag s_forbidding s_most s_fewest Q k20 0 0 0
abbrev rm_X2_edgeOnWay : Room := { frames := 3, cells := 0, slots := 0, locals := 78 }
set_option maxHeartbeats 4000000 in
set_option maxRecDepth 100000 in
theorem c_X2_edgeOnWay (l : Launch) (D : va_G) (a : Nat → Nat) (cI : ClassId) (cZ : ClassId) (cJ : ClassId) (sz : Nat) (x_agesStand : Int32) (x_searchStands : Int32) (p_blocks : Int32) (p_lines : Int32) (p_edges : Int32) (p_pairs : Int32) (g_sets : Int32) (g_size : Int32) (g_penalty : Int32) (g_comeCount : Int32) (s_answered : Int32) (s_codes : Int32) (s_ordered : Int32) (p_times : Nat → Int32) (p_touchCounts : Nat → Int32) (p_touchSlots : Nat → Int32) (p_lineOfSlot : Nat → Int32) (p_from : Nat → Int32) (p_to : Nat → Int32) (p_bounds : Nat → Int32) (p_pairA : Nat → Int32) (p_pairB : Nat → Int32) (p_leaving : Nat → Int32) (p_firstLeaving : Nat → Int32) (g_come : Nat → Int32) (g_outcomes : Nat → Int32) (g_greatestTimes : Nat → Int32) (g_leastTimes : Nat → Int32) (g_changed : Nat → Int32) (g_greatest : Nat → Int32) (g_least : Nat → Int32) (g_greatestNow : Nat → Int32) (g_leastNow : Nat → Int32) (s_order : Nat → Int32) (s_arriving : Nat → Int32) (s_unit : Nat → Int32) (s_flag : Nat → Int32) (s_forbidding : Nat → Int32) (s_most : Nat → Int64) (s_fewest : Nat → Int64) (v3 : Int32) (v4 : Int32) (Q : Int32 → Prop) (h : wp_X2_edgeOnWay v3 v4 p_blocks s_codes p_to p_bounds p_leaving p_firstLeaving g_greatestTimes g_leastTimes s_unit s_flag s_forbidding s_most s_fewest Q) : Met l yX2_edgeOnWay wsX2_edgeOnWay rm_X2_edgeOnWay (va_Pc [.ref (a 3), .ref (a 1), .ref (a 2), .int v3, .int v4] (inW D cI cZ cJ sz (wC a cI cZ cJ x_agesStand x_searchStands p_blocks p_lines p_edges p_pairs g_sets g_size g_penalty g_comeCount s_answered s_codes s_ordered p_times p_touchCounts p_touchSlots p_lineOfSlot p_from p_to p_bounds p_pairA p_pairB p_leaving p_firstLeaving g_come g_outcomes g_greatestTimes g_leastTimes g_changed g_greatest g_least g_greatestNow g_leastNow s_order s_arriving s_unit s_flag s_forbidding s_most s_fewest))) (va_Qi (fun (r : Int32) (u : Unit) => Q r) (fun (u : Unit) => outW D cI cZ cJ (va_A (wC a cI cZ cJ x_agesStand x_searchStands p_blocks p_lines p_edges p_pairs g_sets g_size g_penalty g_comeCount s_answered s_codes s_ordered p_times p_touchCounts p_touchSlots p_lineOfSlot p_from p_to p_bounds p_pairA p_pairB p_leaving p_firstLeaving g_come g_outcomes g_greatestTimes g_leastTimes g_changed g_greatest g_least g_greatestNow g_leastNow s_order s_arriving s_unit s_flag s_forbidding s_most s_fewest) sz) (wC a cI cZ cJ x_agesStand x_searchStands p_blocks p_lines p_edges p_pairs g_sets g_size g_penalty g_comeCount s_answered s_codes s_ordered p_times p_touchCounts p_touchSlots p_lineOfSlot p_from p_to p_bounds p_pairA p_pairB p_leaving p_firstLeaving g_come g_outcomes g_greatestTimes g_leastTimes g_changed g_greatest g_least g_greatestNow g_leastNow s_order s_arriving s_unit s_flag s_forbidding s_most s_fewest)) (va_A (wC a cI cZ cJ x_agesStand x_searchStands p_blocks p_lines p_edges p_pairs g_sets g_size g_penalty g_comeCount s_answered s_codes s_ordered p_times p_touchCounts p_touchSlots p_lineOfSlot p_from p_to p_bounds p_pairA p_pairB p_leaving p_firstLeaving g_come g_outcomes g_greatestTimes g_leastTimes g_changed g_greatest g_least g_greatestNow g_leastNow s_order s_arriving s_unit s_flag s_forbidding s_most s_fewest) sz)) 0 0 (va_A (wC a cI cZ cJ x_agesStand x_searchStands p_blocks p_lines p_edges p_pairs g_sets g_size g_penalty g_comeCount s_answered s_codes s_ordered p_times p_touchCounts p_touchSlots p_lineOfSlot p_from p_to p_bounds p_pairA p_pairB p_leaving p_firstLeaving g_come g_outcomes g_greatestTimes g_leastTimes g_changed g_greatest g_least g_greatestNow g_leastNow s_order s_arriving s_unit s_flag s_forbidding s_most s_fewest) sz) := by
  refine Met.ofW (cc := cX2_edgeOnWay) (maxL := 10) (ret := (some .int)) (by decide +kernel) rfl ?_
  intro p e s m args below meth c s₁ B hml hv
  obtain ⟨rfl, hsz, hP, hK, hD0⟩ := hv
  have hx := B.exec
  have hb := B.bytes
  have hr := B.returns
  have hts := atoms_spec (ws := wsX2_edgeOnWay) B.pre
  have hown : s.vm.findClass RX2 = some m.cls := findClass_of_methodNamed B.named
  have hlocks := B.notSynchronized
  have hinX1 : ∀ w ∈ wsX10, w ∈ wsX2_edgeOnWay := by decide +kernel
  have hinX2 : ∀ w ∈ wsX20, w ∈ wsX2_edgeOnWay := by decide +kernel
  subst hsz
  have hD := hD0.self (sz := s.heap.size)
  generalize hAe : va_A (wC a cI cZ cJ x_agesStand x_searchStands p_blocks p_lines p_edges p_pairs g_sets g_size g_penalty g_comeCount s_answered s_codes s_ordered p_times p_touchCounts p_touchSlots p_lineOfSlot p_from p_to p_bounds p_pairA p_pairB p_leaving p_firstLeaving g_come g_outcomes g_greatestTimes g_leastTimes g_changed g_greatest g_least g_greatestNow g_leastNow s_order s_arriving s_unit s_flag s_forbidding s_most s_fewest) s.heap.size = A at hD ⊢
  have hA : ∀ q : Nat, s.heap.size ≤ q → A q := fun q h => by rw [← hAe]; exact Or.inr h
  have hS : va_S A s.heap s.heap [] := va_S.rf
  have hP : va_P D vwCl (wC a cI cZ cJ x_agesStand x_searchStands p_blocks p_lines p_edges p_pairs g_sets g_size g_penalty g_comeCount s_answered s_codes s_ordered p_times p_touchCounts p_touchSlots p_lineOfSlot p_from p_to p_bounds p_pairA p_pairB p_leaving p_firstLeaving g_come g_outcomes g_greatestTimes g_leastTimes g_changed g_greatest g_least g_greatestNow g_leastNow s_order s_arriving s_unit s_flag s_forbidding s_most s_fewest) s.heap := hP
  have hl := lv_entry ([.ref (a 3), .ref (a 1), .ref (a 2), .int v3, .int v4]) (n := 10) (Nat.le_of_ble_eq_true rfl)
  rw [lg_entry_eq]
  generalize (lg_sl ([.ref (a 3), .ref (a 1), .ref (a 2), .int v3, .int v4]) ++ List.replicate (10 - (lg_sl ([.ref (a 3), .ref (a 1), .ref (a 2), .int v3, .int v4])).length) Slot.unset).toArray = ls at hl ⊢
  have hl : lv_has ls 10 [(0, .ref (a 3)), (1, .ref (a 1)), (2, .ref (a 2)), (3, .int v3), (4, .int v4)] := hl
  refine wz_abs (fun Qz hQz => ?_)
  unfold wp_X2_edgeOnWay at h
  refine lv_iconst (v := 0) hx hb dX2_edgeOnWay_0 (by decide) ?_
  refine lv_istore (lv' := [(5, .int 0), (0, .ref (a 3)), (1, .ref (a 1)), (2, .ref (a 2)), (3, .int v3), (4, .int v4)]) hx hb dX2_edgeOnWay_1 hl (by decide) rfl (fun ls hl => ?_)
  refine lv_iconst (v := 0) hx hb dX2_edgeOnWay_3 (by decide) ?_
  refine lv_istore (lv' := [(6, .int 0), (5, .int 0), (0, .ref (a 3)), (1, .ref (a 1)), (2, .ref (a 2)), (3, .int v3), (4, .int v4)]) hx hb dX2_edgeOnWay_4 hl (by decide) rfl (fun ls hl => ?_)
  refine lv_aload_n hx hb dX2_edgeOnWay_6 rfl (lv_at hl 2 rfl) ?_
  refine va_get (D := D) (ci := 2) (v := .int s_codes) (C := RX2) (T := TX2) (N := 10) hx hb hts hinX2 hown hK hP 3 rfl rfl 1 (by decide) (hts (.fieldLink RX2 119 "WorstPaths$Search" "codes" "I") (by decide +kernel)) (fun _ h9 => h9) rfl dX2_edgeOnWay_7 ?_
  refine lv_aload_n hx hb dX2_edgeOnWay_10 rfl (lv_at hl 3 rfl) ?_
  refine va_get (D := D) (ci := 1) (v := .int p_blocks) (C := RX1) (T := TX1) (N := 15) hx hb hts hinX1 hown hK hP 1 rfl rfl 0 (by decide) (hts (.fieldLink RX2 39 "WorstPaths$Program" "blocks" "I") (by decide +kernel)) (fun _ h9 => h9) rfl dX2_edgeOnWay_11 ?_
  refine lv_imul hx hb dX2_edgeOnWay_14 ?_
  refine lv_istore (lv' := [(7, .int (s_codes * p_blocks)), (6, .int 0), (5, .int 0), (0, .ref (a 3)), (1, .ref (a 1)), (2, .ref (a 2)), (3, .int v3), (4, .int v4)]) hx hb dX2_edgeOnWay_15 hl (by decide) rfl (fun ls hl => ?_)
  refine lv_iconst (v := 0) hx hb dX2_edgeOnWay_17 (by decide) ?_
  refine lv_istore (lv' := [(8, .int 0), (7, .int (s_codes * p_blocks)), (6, .int 0), (5, .int 0), (0, .ref (a 3)), (1, .ref (a 1)), (2, .ref (a 2)), (3, .int v3), (4, .int v4)]) hx hb dX2_edgeOnWay_18 hl (by decide) rfl (fun ls hl => ?_)
  have LP20 : ∀ (n20 : Nat) (v5_20 : Int32) (v6_20 : Int32) (v8_20 : Int32), lp_X2_edgeOnWay_20 v3 v4 (s_codes * p_blocks) p_blocks s_codes p_to p_bounds p_leaving p_firstLeaving g_greatestTimes g_leastTimes s_unit s_flag s_forbidding s_most s_fewest Q n20 v5_20 v6_20 v8_20 → ∀ (H : Heap) (locs : List Loc), va_P D vwCl (wC a cI cZ cJ x_agesStand x_searchStands p_blocks p_lines p_edges p_pairs g_sets g_size g_penalty g_comeCount s_answered s_codes s_ordered p_times p_touchCounts p_touchSlots p_lineOfSlot p_from p_to p_bounds p_pairA p_pairB p_leaving p_firstLeaving g_come g_outcomes g_greatestTimes g_leastTimes g_changed g_greatest g_least g_greatestNow g_leastNow s_order s_arriving s_unit s_flag s_forbidding s_most s_fewest) H → va_D A (wC a cI cZ cJ x_agesStand x_searchStands p_blocks p_lines p_edges p_pairs g_sets g_size g_penalty g_comeCount s_answered s_codes s_ordered p_times p_touchCounts p_touchSlots p_lineOfSlot p_from p_to p_bounds p_pairA p_pairB p_leaving p_firstLeaving g_come g_outcomes g_greatestTimes g_leastTimes g_changed g_greatest g_least g_greatestNow g_leastNow s_order s_arriving s_unit s_flag s_forbidding s_most s_fewest) → va_S A s.heap H locs → ∀ (ls : Array Slot), lv_has ls 10 [(0, .ref (a 3)), (1, .ref (a 1)), (2, .ref (a 2)), (3, .int v3), (4, .int v4), (5, .int v5_20), (6, .int v6_20), (7, .int (s_codes * p_blocks)), (8, .int v8_20)] → W p l e (headSpec wsX2_edgeOnWay rm_X2_edgeOnWay).room s m ([Value.ref (a 3), Value.ref (a 1), Value.ref (a 2), Value.int v3, Value.int v4] : List Value).toArray below meth c H locs 0 0 Qz (F0 m 20 ls []) := by
    intro n20
    induction n20 with
    | zero => intro v5_20 v6_20 v8_20 h; exact h.elim
    | succ n20 ih20 =>
      intro v5_20 v6_20 v8_20 h H locs hP hD hS ls hl
      unfold lp_X2_edgeOnWay_20 at h
      refine lv_iload hx hb dX2_edgeOnWay_20 (lv_at hl 8 rfl) ?_
      refine lv_iload hx hb dX2_edgeOnWay_22 (lv_at hl 7 rfl) ?_
      refine lv_icmp_ge (tgt := 82) hx hb dX2_edgeOnWay_24 (by decide) (fun hc => ?_) (fun hc => ?_)
      · replace h := h.1 hc
        refine lv_iconst (v := (-1)) hx hb dX2_edgeOnWay_82 (by decide) ?_
        refine wz_mono hQz ?_
        exact W.iret (v := (-1)) hx hb hr (fun t ht hW => ⟨⟨(-1), (), rfl, h, by rw [ht]; exact hP, va_K.moved hW.alike hK, hD⟩, hS.F ht⟩) hS.2.2 dX2_edgeOnWay_83
      · replace h := h.2 hc
        refine lv_aload_n hx hb dX2_edgeOnWay_27 rfl (lv_at hl 0 rfl) ?_
        refine lv_aload_n hx hb dX2_edgeOnWay_28 rfl (lv_at hl 1 rfl) ?_
        refine lv_aload_n hx hb dX2_edgeOnWay_29 rfl (lv_at hl 2 rfl) ?_
        refine lv_iload_n hx hb dX2_edgeOnWay_30 rfl (lv_at hl 3 rfl) ?_
        refine lv_iload hx hb dX2_edgeOnWay_31 (lv_at hl 5 rfl) ?_
        refine lv_iload hx hb dX2_edgeOnWay_33 (lv_at hl 6 rfl) ?_
        have hF := wz_free hD hS hA
        refine va_calli (va_runV (As := [.ref (a 1), .ref (a 2), .int v3, .int v5_20, .int v6_20]) (rest := []) ⟨hx, hb, hml, hown, hts⟩ (c_X2_lowestEdge l D a cI cZ cJ _ x_agesStand x_searchStands p_blocks p_lines p_edges p_pairs g_sets g_size g_penalty g_comeCount s_answered s_codes s_ordered p_times p_touchCounts p_touchSlots p_lineOfSlot p_from p_to p_bounds p_pairA p_pairB p_leaving p_firstLeaving g_come g_outcomes g_greatestTimes g_leastTimes g_changed g_greatest g_least g_greatestNow g_leastNow s_order s_arriving s_unit s_flag s_forbidding s_most s_fewest v3 v5_20 v6_20 _ h) (cwV 5 hts gX2_edgeOnWay_X2_lowestEdge rfl rfl rfl (by decide +kernel) ⟨Nat.le_of_ble_eq_true rfl, Nat.le_of_ble_eq_true rfl⟩) ⟨wz_blind, va_recv hK hP (ci := 2) (q0 := 3) rfl rfl, fun U hU hW => wz_at hU hW hP hK hD⟩ rfl rfl hl.1 rfl (lv_room (Nat.le_of_ble_eq_true rfl)) dX2_edgeOnWay_35 ⟨Nat.zero_le _, Nat.zero_le _⟩) hS (fun q _ hq => hF q hq) hF (fun r_35 u t H locs ht hvm h hB hz1 hk1 hS => ?_)
        obtain ⟨hP, -, hD⟩ := wz_back ht hF hB
        have hP : va_P D vwCl (wC a cI cZ cJ x_agesStand x_searchStands p_blocks p_lines p_edges p_pairs g_sets g_size g_penalty g_comeCount s_answered s_codes s_ordered p_times p_touchCounts p_touchSlots p_lineOfSlot p_from p_to p_bounds p_pairA p_pairB p_leaving p_firstLeaving g_come g_outcomes g_greatestTimes g_leastTimes g_changed g_greatest g_least g_greatestNow g_leastNow s_order s_arriving s_unit s_flag s_forbidding s_most s_fewest) H := hP
        have hD : va_D A (wC a cI cZ cJ x_agesStand x_searchStands p_blocks p_lines p_edges p_pairs g_sets g_size g_penalty g_comeCount s_answered s_codes s_ordered p_times p_touchCounts p_touchSlots p_lineOfSlot p_from p_to p_bounds p_pairA p_pairB p_leaving p_firstLeaving g_come g_outcomes g_greatestTimes g_leastTimes g_changed g_greatest g_least g_greatestNow g_leastNow s_order s_arriving s_unit s_flag s_forbidding s_most s_fewest) := hD
        refine lv_istore (lv' := [(9, .int r_35), (0, .ref (a 3)), (1, .ref (a 1)), (2, .ref (a 2)), (3, .int v3), (4, .int v4), (5, .int v5_20), (6, .int v6_20), (7, .int (s_codes * p_blocks)), (8, .int v8_20)]) hx hb dX2_edgeOnWay_38 hl (by decide) rfl (fun ls hl => ?_)
        refine lv_iload hx hb dX2_edgeOnWay_40 (lv_at hl 0 rfl) ?_
        refine lv_iconst (v := (-1)) hx hb dX2_edgeOnWay_42 (by decide) ?_
        refine lv_icmp_eq (tgt := 53) hx hb dX2_edgeOnWay_43 (by decide) (fun hc => ?_) (fun hc => ?_)
        · replace h := h.1 hc
          refine lv_iload hx hb dX2_edgeOnWay_53 (lv_at hl 0 rfl) ?_
          refine wz_mono hQz ?_
          exact W.iret (v := r_35) hx hb hr (fun t ht hW => ⟨⟨r_35, (), rfl, h, by rw [ht]; exact hP, va_K.moved hW.alike hK, hD⟩, hS.F ht⟩) hS.2.2 dX2_edgeOnWay_55
        · replace h := h.2 hc
          refine lv_iload hx hb dX2_edgeOnWay_46 (lv_at hl 9 rfl) ?_
          refine lv_iload hx hb dX2_edgeOnWay_48 (lv_at hl 5 rfl) ?_
          refine lv_icmp_ne (tgt := 56) hx hb dX2_edgeOnWay_50 (by decide) (fun hc => ?_) (fun hc => ?_)
          · replace h := h.1 hc
            refine lv_aload_n hx hb dX2_edgeOnWay_56 rfl (lv_at hl 1 rfl) ?_
            refine lv_aload_n hx hb dX2_edgeOnWay_57 rfl (lv_at hl 2 rfl) ?_
            refine lv_iload hx hb dX2_edgeOnWay_58 (lv_at hl 0 rfl) ?_
            refine lv_iload hx hb dX2_edgeOnWay_60 (lv_at hl 6 rfl) ?_
            have hF := wz_free hD hS hA
            refine va_calli (va_runV (As := [.ref (a 1), .int r_35, .int v5_20]) (rest := []) ⟨hx, hb, hml, hown, hts⟩ (c_X2_codeBehind l D a cI cZ cJ _ x_agesStand x_searchStands p_blocks p_lines p_edges p_pairs g_sets g_size g_penalty g_comeCount s_answered s_codes s_ordered p_times p_touchCounts p_touchSlots p_lineOfSlot p_from p_to p_bounds p_pairA p_pairB p_leaving p_firstLeaving g_come g_outcomes g_greatestTimes g_leastTimes g_changed g_greatest g_least g_greatestNow g_leastNow s_order s_arriving s_unit s_flag s_forbidding s_most s_fewest r_35 v5_20 _ h) (cwV 3 hts gX2_edgeOnWay_X2_codeBehind rfl rfl rfl (by decide +kernel) ⟨Nat.le_of_ble_eq_true rfl, Nat.le_of_ble_eq_true rfl⟩) ⟨wz_blind, va_recv hK hP (ci := 2) (q0 := 3) rfl rfl, fun U hU hW => wz_at hU hW hP hK hD⟩ rfl rfl hl.1 rfl (lv_room (Nat.le_of_ble_eq_true rfl)) dX2_edgeOnWay_62 ⟨Nat.zero_le _, Nat.zero_le _⟩) hS (fun q _ hq => hF q hq) hF (fun r_62 u t H locs ht hvm h hB hz1 hk1 hS => ?_)
            obtain ⟨hP, -, hD⟩ := wz_back ht hF hB
            have hP : va_P D vwCl (wC a cI cZ cJ x_agesStand x_searchStands p_blocks p_lines p_edges p_pairs g_sets g_size g_penalty g_comeCount s_answered s_codes s_ordered p_times p_touchCounts p_touchSlots p_lineOfSlot p_from p_to p_bounds p_pairA p_pairB p_leaving p_firstLeaving g_come g_outcomes g_greatestTimes g_leastTimes g_changed g_greatest g_least g_greatestNow g_leastNow s_order s_arriving s_unit s_flag s_forbidding s_most s_fewest) H := hP
            have hD : va_D A (wC a cI cZ cJ x_agesStand x_searchStands p_blocks p_lines p_edges p_pairs g_sets g_size g_penalty g_comeCount s_answered s_codes s_ordered p_times p_touchCounts p_touchSlots p_lineOfSlot p_from p_to p_bounds p_pairA p_pairB p_leaving p_firstLeaving g_come g_outcomes g_greatestTimes g_leastTimes g_changed g_greatest g_least g_greatestNow g_leastNow s_order s_arriving s_unit s_flag s_forbidding s_most s_fewest) := hD
            refine lv_istore (lv' := [(5, .int r_62), (9, .int r_35), (0, .ref (a 3)), (1, .ref (a 1)), (2, .ref (a 2)), (3, .int v3), (4, .int v4), (6, .int v6_20), (7, .int (s_codes * p_blocks)), (8, .int v8_20)]) hx hb dX2_edgeOnWay_65 hl (by decide) rfl (fun ls hl => ?_)
            refine lv_aload_n hx hb dX2_edgeOnWay_67 rfl (lv_at hl 3 rfl) ?_
            refine va_get (D := D) (ci := 1) (v := .ref (a 9)) (C := RX1) (T := TX1) (N := 15) hx hb hts hinX1 hown hK hP 1 rfl rfl 9 (by decide) (hts (.fieldLink RX2 104 "WorstPaths$Program" "to" "[I") (by decide +kernel)) (fun _ h9 => h9) rfl dX2_edgeOnWay_68 ?_
            refine lv_iload hx hb dX2_edgeOnWay_71 (lv_at hl 1 rfl) ?_
            obtain ⟨hq, h⟩ := h
            refine va_iald (D := D) hx hb hK hP 9 0 rfl rfl hq dX2_edgeOnWay_73 ?_
            refine lv_istore (lv' := [(6, .int (p_to (Int32.toNatClampNeg r_35))), (5, .int r_62), (9, .int r_35), (0, .ref (a 3)), (1, .ref (a 1)), (2, .ref (a 2)), (3, .int v3), (4, .int v4), (7, .int (s_codes * p_blocks)), (8, .int v8_20)]) hx hb dX2_edgeOnWay_74 hl (by decide) rfl (fun ls hl => ?_)
            refine lv_iinc (v := (v8_20 + 1)) (lv' := [(8, .int (v8_20 + 1)), (6, .int (p_to (Int32.toNatClampNeg r_35))), (5, .int r_62), (9, .int r_35), (0, .ref (a 3)), (1, .ref (a 1)), (2, .ref (a 2)), (3, .int v3), (4, .int v4), (7, .int (s_codes * p_blocks))]) hx hb dX2_edgeOnWay_76 hl (k := 9) rfl rfl (by decide) rfl (fun ls hl => ?_)
            refine lv_goto (tgt := 20) hx hb dX2_edgeOnWay_79 (by decide) ?_
            exact ih20 r_62 (p_to (Int32.toNatClampNeg r_35)) (v8_20 + 1) h _ _ hP hD hS _ (lv_sub hl [4, 5, 6, 7, 8, 2, 1, 9, 0] rfl)
          · replace h := h.2 hc
            refine lv_iload hx hb dX2_edgeOnWay_53 (lv_at hl 0 rfl) ?_
            refine wz_mono hQz ?_
            exact W.iret (v := r_35) hx hb hr (fun t ht hW => ⟨⟨r_35, (), rfl, h, by rw [ht]; exact hP, va_K.moved hW.alike hK, hD⟩, hS.F ht⟩) hS.2.2 dX2_edgeOnWay_55
  obtain ⟨k9, h⟩ := h
  exact LP20 k9 0 0 0 h _ _ hP hD hS _ (lv_sub hl [4, 5, 6, 7, 8, 3, 2, 1, 0] rfl)
def wp_X2_solve (p_blocks : Int32) (p_edges : Int32) (p_pairs : Int32) (g_comeCount : Int32) (s_answered : Int32) (s_codes : Int32) (s_ordered : Int32) (p_from : Nat → Int32) (p_to : Nat → Int32) (p_bounds : Nat → Int32) (p_pairA : Nat → Int32) (p_pairB : Nat → Int32) (p_leaving : Nat → Int32) (p_firstLeaving : Nat → Int32) (g_come : Nat → Int32) (g_greatestTimes : Nat → Int32) (g_leastTimes : Nat → Int32) (s_order : Nat → Int32) (s_arriving : Nat → Int32) (s_unit : Nat → Int32) (s_flag : Nat → Int32) (s_forbidding : Nat → Int32) (s_most : Nat → Int64) (s_fewest : Nat → Int64) (Q : Int32 → Int32 → Int32 → (Nat → Int32) → (Nat → Int32) → (Nat → Int32) → (Nat → Int32) → (Nat → Int32) → (Nat → Int64) → (Nat → Int64) → Prop) : Prop := (p_blocks = 0 → Q 0 s_codes s_ordered s_order s_arriving s_unit s_flag s_forbidding s_most s_fewest) ∧ (¬ p_blocks = 0 → wp_X2_fitsInStates p_blocks p_edges p_pairs p_bounds p_pairA p_pairB (fun r_14 => (r_14 = 0 → Q 0 s_codes s_ordered s_order s_arriving s_unit s_flag s_forbidding s_most s_fewest) ∧ (¬ r_14 = 0 → wp_X2_orderBlocks p_blocks p_edges g_comeCount s_ordered p_from p_to p_bounds p_leaving p_firstLeaving g_come s_order s_arriving (fun r_23 s_ordered_23 s_order_23 s_arriving_23 => (¬ r_23 = 0 → wp_X2_layOutCode p_edges p_pairs s_codes p_bounds p_pairA p_pairB s_unit s_flag s_forbidding (fun s_codes_32 s_unit_32 s_flag_32 s_forbidding_32 => wp_X2_valueStates p_blocks s_codes_32 s_ordered_23 p_to p_bounds p_leaving p_firstLeaving g_greatestTimes g_leastTimes s_order_23 s_unit_32 s_flag_32 s_forbidding_32 s_most s_fewest (fun s_most_38 s_fewest_38 => vp_in 0 40000 ∧ (((lg_cmp (s_most_38 (Int32.toNatClampNeg 0)) (-1)) = 0 → Q 0 s_codes_32 s_ordered_23 s_order_23 s_arriving_23 s_unit_32 s_flag_32 s_forbidding_32 s_most_38 s_fewest_38) ∧ (¬ (lg_cmp (s_most_38 (Int32.toNatClampNeg 0)) (-1)) = 0 → Q 1 s_codes_32 s_ordered_23 s_order_23 s_arriving_23 s_unit_32 s_flag_32 s_forbidding_32 s_most_38 s_fewest_38))))) ∧ (r_23 = 0 → Q 0 s_codes s_ordered_23 s_order_23 s_arriving_23 s_unit s_flag s_forbidding s_most s_fewest)))))
abbrev rm_X2_solve : Room := { frames := 4, cells := 0, slots := 0, locals := 103 }
set_option maxHeartbeats 4000000 in
set_option maxRecDepth 100000 in
theorem c_X2_solve (l : Launch) (D : va_G) (a : Nat → Nat) (cI : ClassId) (cZ : ClassId) (cJ : ClassId) (sz : Nat) (x_agesStand : Int32) (x_searchStands : Int32) (p_blocks : Int32) (p_lines : Int32) (p_edges : Int32) (p_pairs : Int32) (g_sets : Int32) (g_size : Int32) (g_penalty : Int32) (g_comeCount : Int32) (s_answered : Int32) (s_codes : Int32) (s_ordered : Int32) (p_times : Nat → Int32) (p_touchCounts : Nat → Int32) (p_touchSlots : Nat → Int32) (p_lineOfSlot : Nat → Int32) (p_from : Nat → Int32) (p_to : Nat → Int32) (p_bounds : Nat → Int32) (p_pairA : Nat → Int32) (p_pairB : Nat → Int32) (p_leaving : Nat → Int32) (p_firstLeaving : Nat → Int32) (g_come : Nat → Int32) (g_outcomes : Nat → Int32) (g_greatestTimes : Nat → Int32) (g_leastTimes : Nat → Int32) (g_changed : Nat → Int32) (g_greatest : Nat → Int32) (g_least : Nat → Int32) (g_greatestNow : Nat → Int32) (g_leastNow : Nat → Int32) (s_order : Nat → Int32) (s_arriving : Nat → Int32) (s_unit : Nat → Int32) (s_flag : Nat → Int32) (s_forbidding : Nat → Int32) (s_most : Nat → Int64) (s_fewest : Nat → Int64) (Q : Int32 → Int32 → Int32 → (Nat → Int32) → (Nat → Int32) → (Nat → Int32) → (Nat → Int32) → (Nat → Int32) → (Nat → Int64) → (Nat → Int64) → Prop) (h : wp_X2_solve p_blocks p_edges p_pairs g_comeCount s_answered s_codes s_ordered p_from p_to p_bounds p_pairA p_pairB p_leaving p_firstLeaving g_come g_greatestTimes g_leastTimes s_order s_arriving s_unit s_flag s_forbidding s_most s_fewest Q) : Met l yX2_solve wsX2_solve rm_X2_solve (va_Pc [.ref (a 3), .ref (a 1), .ref (a 2)] (inW D cI cZ cJ sz (wC a cI cZ cJ x_agesStand x_searchStands p_blocks p_lines p_edges p_pairs g_sets g_size g_penalty g_comeCount s_answered s_codes s_ordered p_times p_touchCounts p_touchSlots p_lineOfSlot p_from p_to p_bounds p_pairA p_pairB p_leaving p_firstLeaving g_come g_outcomes g_greatestTimes g_leastTimes g_changed g_greatest g_least g_greatestNow g_leastNow s_order s_arriving s_unit s_flag s_forbidding s_most s_fewest))) (va_Qv (fun (u : Int32 × Int32 × Int32 × (Nat → Int32) × (Nat → Int32) × (Nat → Int32) × (Nat → Int32) × (Nat → Int32) × (Nat → Int64) × (Nat → Int64)) => Q u.1 u.2.1 u.2.2.1 u.2.2.2.1 u.2.2.2.2.1 u.2.2.2.2.2.1 u.2.2.2.2.2.2.1 u.2.2.2.2.2.2.2.1 u.2.2.2.2.2.2.2.2.1 u.2.2.2.2.2.2.2.2.2) (fun (u : Int32 × Int32 × Int32 × (Nat → Int32) × (Nat → Int32) × (Nat → Int32) × (Nat → Int32) × (Nat → Int32) × (Nat → Int64) × (Nat → Int64)) => outW D cI cZ cJ (va_A (wC a cI cZ cJ x_agesStand x_searchStands p_blocks p_lines p_edges p_pairs g_sets g_size g_penalty g_comeCount s_answered s_codes s_ordered p_times p_touchCounts p_touchSlots p_lineOfSlot p_from p_to p_bounds p_pairA p_pairB p_leaving p_firstLeaving g_come g_outcomes g_greatestTimes g_leastTimes g_changed g_greatest g_least g_greatestNow g_leastNow s_order s_arriving s_unit s_flag s_forbidding s_most s_fewest) sz) (wC a cI cZ cJ x_agesStand x_searchStands p_blocks p_lines p_edges p_pairs g_sets g_size g_penalty g_comeCount u.1 u.2.1 u.2.2.1 p_times p_touchCounts p_touchSlots p_lineOfSlot p_from p_to p_bounds p_pairA p_pairB p_leaving p_firstLeaving g_come g_outcomes g_greatestTimes g_leastTimes g_changed g_greatest g_least g_greatestNow g_leastNow u.2.2.2.1 u.2.2.2.2.1 u.2.2.2.2.2.1 u.2.2.2.2.2.2.1 u.2.2.2.2.2.2.2.1 u.2.2.2.2.2.2.2.2.1 u.2.2.2.2.2.2.2.2.2)) (va_A (wC a cI cZ cJ x_agesStand x_searchStands p_blocks p_lines p_edges p_pairs g_sets g_size g_penalty g_comeCount s_answered s_codes s_ordered p_times p_touchCounts p_touchSlots p_lineOfSlot p_from p_to p_bounds p_pairA p_pairB p_leaving p_firstLeaving g_come g_outcomes g_greatestTimes g_leastTimes g_changed g_greatest g_least g_greatestNow g_leastNow s_order s_arriving s_unit s_flag s_forbidding s_most s_fewest) sz)) 0 0 (va_A (wC a cI cZ cJ x_agesStand x_searchStands p_blocks p_lines p_edges p_pairs g_sets g_size g_penalty g_comeCount s_answered s_codes s_ordered p_times p_touchCounts p_touchSlots p_lineOfSlot p_from p_to p_bounds p_pairA p_pairB p_leaving p_firstLeaving g_come g_outcomes g_greatestTimes g_leastTimes g_changed g_greatest g_least g_greatestNow g_leastNow s_order s_arriving s_unit s_flag s_forbidding s_most s_fewest) sz) := by
  refine Met.ofW (cc := cX2_solve) (maxL := 3) (ret := none) (by decide +kernel) rfl ?_
  intro p e s m args below meth c s₁ B hml hv
  obtain ⟨rfl, hsz, hP, hK, hD0⟩ := hv
  have hx := B.exec
  have hb := B.bytes
  have hr := B.returns
  have hts := atoms_spec (ws := wsX2_solve) B.pre
  have hown : s.vm.findClass RX2 = some m.cls := findClass_of_methodNamed B.named
  have hlocks := B.notSynchronized
  have hinX1 : ∀ w ∈ wsX10, w ∈ wsX2_solve := by decide +kernel
  have hinX2 : ∀ w ∈ wsX20, w ∈ wsX2_solve := by decide +kernel
  subst hsz
  have hD := hD0.self (sz := s.heap.size)
  generalize hAe : va_A (wC a cI cZ cJ x_agesStand x_searchStands p_blocks p_lines p_edges p_pairs g_sets g_size g_penalty g_comeCount s_answered s_codes s_ordered p_times p_touchCounts p_touchSlots p_lineOfSlot p_from p_to p_bounds p_pairA p_pairB p_leaving p_firstLeaving g_come g_outcomes g_greatestTimes g_leastTimes g_changed g_greatest g_least g_greatestNow g_leastNow s_order s_arriving s_unit s_flag s_forbidding s_most s_fewest) s.heap.size = A at hD ⊢
  have hA : ∀ q : Nat, s.heap.size ≤ q → A q := fun q h => by rw [← hAe]; exact Or.inr h
  have hS : va_S A s.heap s.heap [] := va_S.rf
  have hP : va_P D vwCl (wC a cI cZ cJ x_agesStand x_searchStands p_blocks p_lines p_edges p_pairs g_sets g_size g_penalty g_comeCount s_answered s_codes s_ordered p_times p_touchCounts p_touchSlots p_lineOfSlot p_from p_to p_bounds p_pairA p_pairB p_leaving p_firstLeaving g_come g_outcomes g_greatestTimes g_leastTimes g_changed g_greatest g_least g_greatestNow g_leastNow s_order s_arriving s_unit s_flag s_forbidding s_most s_fewest) s.heap := hP
  have hl := lv_entry ([.ref (a 3), .ref (a 1), .ref (a 2)]) (n := 3) (Nat.le_of_ble_eq_true rfl)
  rw [lg_entry_eq]
  generalize (lg_sl ([.ref (a 3), .ref (a 1), .ref (a 2)]) ++ List.replicate (3 - (lg_sl ([.ref (a 3), .ref (a 1), .ref (a 2)])).length) Slot.unset).toArray = ls at hl ⊢
  have hl : lv_has ls 3 [(0, .ref (a 3)), (1, .ref (a 1)), (2, .ref (a 2))] := hl
  refine wz_abs (fun Qz hQz => ?_)
  unfold wp_X2_solve at h
  refine lv_aload_n hx hb dX2_solve_0 rfl (lv_at hl 0 rfl) ?_
  refine lv_iconst (v := 0) hx hb dX2_solve_1 (by decide) ?_
  refine va_put (D := D) (ci := 2) (v := .int 0) (ty := .boolean) (C := RX2) (T := TX2) (N := 10) hx hb hts hinX2 tyX2 tyX2_ok nmX2 hown hK hP hD hS 3 rfl rfl 0 (by decide) (hts (.fieldLink RX2 35 "WorstPaths$Search" "answered" "Z") (by decide +kernel)) (fun _ h9 => h9) rfl (by decide +kernel) rfl rfl (Nat.le_of_ble_eq_true rfl) dX2_solve_2 (fun H locs hP hD hS => ?_)
  have hP : va_P D vwCl (wC a cI cZ cJ x_agesStand x_searchStands p_blocks p_lines p_edges p_pairs g_sets g_size g_penalty g_comeCount 0 s_codes s_ordered p_times p_touchCounts p_touchSlots p_lineOfSlot p_from p_to p_bounds p_pairA p_pairB p_leaving p_firstLeaving g_come g_outcomes g_greatestTimes g_leastTimes g_changed g_greatest g_least g_greatestNow g_leastNow s_order s_arriving s_unit s_flag s_forbidding s_most s_fewest) H := hP
  have hD : va_D A (wC a cI cZ cJ x_agesStand x_searchStands p_blocks p_lines p_edges p_pairs g_sets g_size g_penalty g_comeCount 0 s_codes s_ordered p_times p_touchCounts p_touchSlots p_lineOfSlot p_from p_to p_bounds p_pairA p_pairB p_leaving p_firstLeaving g_come g_outcomes g_greatestTimes g_leastTimes g_changed g_greatest g_least g_greatestNow g_leastNow s_order s_arriving s_unit s_flag s_forbidding s_most s_fewest) := hD
  refine lv_aload_n hx hb dX2_solve_5 rfl (lv_at hl 1 rfl) ?_
  refine va_get (D := D) (ci := 1) (v := .int p_blocks) (C := RX1) (T := TX1) (N := 15) hx hb hts hinX1 hown hK hP 1 rfl rfl 0 (by decide) (hts (.fieldLink RX2 39 "WorstPaths$Program" "blocks" "I") (by decide +kernel)) (fun _ h9 => h9) rfl dX2_solve_6 ?_
  refine lv_if_eq (tgt := 29) hx hb dX2_solve_9 (by decide) (fun hc => ?_) (fun hc => ?_)
  · replace h := h.1 hc
    refine wz_mono hQz ?_
    exact W.vret hx hb hr (fun t ht hW => ⟨⟨(0, s_codes, s_ordered, s_order, s_arriving, s_unit, s_flag, s_forbidding, s_most, s_fewest), rfl, h, by rw [ht]; exact hP, va_K.moved hW.alike hK, hD⟩, hS.F ht⟩) hS.2.2 dX2_solve_29
  · replace h := h.2 hc
    refine lv_aload_n hx hb dX2_solve_12 rfl (lv_at hl 0 rfl) ?_
    refine lv_aload_n hx hb dX2_solve_13 rfl (lv_at hl 1 rfl) ?_
    have hF := wz_free hD hS hA
    refine va_calli (va_runV (As := [.ref (a 1)]) (rest := []) ⟨hx, hb, hml, hown, hts⟩ (c_X2_fitsInStates l D a cI cZ cJ _ x_agesStand x_searchStands p_blocks p_lines p_edges p_pairs g_sets g_size g_penalty g_comeCount 0 s_codes s_ordered p_times p_touchCounts p_touchSlots p_lineOfSlot p_from p_to p_bounds p_pairA p_pairB p_leaving p_firstLeaving g_come g_outcomes g_greatestTimes g_leastTimes g_changed g_greatest g_least g_greatestNow g_leastNow s_order s_arriving s_unit s_flag s_forbidding s_most s_fewest _ h) (cwV 1 hts gX2_solve_X2_fitsInStates rfl rfl rfl (by decide +kernel) ⟨Nat.le_of_ble_eq_true rfl, Nat.le_of_ble_eq_true rfl⟩) ⟨wz_blind, va_recv hK hP (ci := 2) (q0 := 3) rfl rfl, fun U hU hW => wz_at hU hW hP hK hD⟩ rfl rfl hl.1 rfl (lv_room (Nat.le_of_ble_eq_true rfl)) dX2_solve_14 ⟨Nat.zero_le _, Nat.zero_le _⟩) hS (fun q _ hq => hF q hq) hF (fun r_14 u t H locs ht hvm h hB hz1 hk1 hS => ?_)
    obtain ⟨hP, -, hD⟩ := wz_back ht hF hB
    have hP : va_P D vwCl (wC a cI cZ cJ x_agesStand x_searchStands p_blocks p_lines p_edges p_pairs g_sets g_size g_penalty g_comeCount 0 s_codes s_ordered p_times p_touchCounts p_touchSlots p_lineOfSlot p_from p_to p_bounds p_pairA p_pairB p_leaving p_firstLeaving g_come g_outcomes g_greatestTimes g_leastTimes g_changed g_greatest g_least g_greatestNow g_leastNow s_order s_arriving s_unit s_flag s_forbidding s_most s_fewest) H := hP
    have hD : va_D A (wC a cI cZ cJ x_agesStand x_searchStands p_blocks p_lines p_edges p_pairs g_sets g_size g_penalty g_comeCount 0 s_codes s_ordered p_times p_touchCounts p_touchSlots p_lineOfSlot p_from p_to p_bounds p_pairA p_pairB p_leaving p_firstLeaving g_come g_outcomes g_greatestTimes g_leastTimes g_changed g_greatest g_least g_greatestNow g_leastNow s_order s_arriving s_unit s_flag s_forbidding s_most s_fewest) := hD
    refine lv_if_eq (tgt := 29) hx hb dX2_solve_17 (by decide) (fun hc => ?_) (fun hc => ?_)
    · replace h := h.1 hc
      refine wz_mono hQz ?_
      exact W.vret hx hb hr (fun t ht hW => ⟨⟨(0, s_codes, s_ordered, s_order, s_arriving, s_unit, s_flag, s_forbidding, s_most, s_fewest), rfl, h, by rw [ht]; exact hP, va_K.moved hW.alike hK, hD⟩, hS.F ht⟩) hS.2.2 dX2_solve_29
    · replace h := h.2 hc
      refine lv_aload_n hx hb dX2_solve_20 rfl (lv_at hl 0 rfl) ?_
      refine lv_aload_n hx hb dX2_solve_21 rfl (lv_at hl 1 rfl) ?_
      refine lv_aload_n hx hb dX2_solve_22 rfl (lv_at hl 2 rfl) ?_
      have hF := wz_free hD hS hA
      refine va_calli (va_runV (As := [.ref (a 1), .ref (a 2)]) (rest := []) ⟨hx, hb, hml, hown, hts⟩ (c_X2_orderBlocks l D a cI cZ cJ _ x_agesStand x_searchStands p_blocks p_lines p_edges p_pairs g_sets g_size g_penalty g_comeCount 0 s_codes s_ordered p_times p_touchCounts p_touchSlots p_lineOfSlot p_from p_to p_bounds p_pairA p_pairB p_leaving p_firstLeaving g_come g_outcomes g_greatestTimes g_leastTimes g_changed g_greatest g_least g_greatestNow g_leastNow s_order s_arriving s_unit s_flag s_forbidding s_most s_fewest _ h) (cwV 2 hts gX2_solve_X2_orderBlocks rfl rfl rfl (by decide +kernel) ⟨Nat.le_of_ble_eq_true rfl, Nat.le_of_ble_eq_true rfl⟩) ⟨wz_blind, va_recv hK hP (ci := 2) (q0 := 3) rfl rfl, fun U hU hW => wz_at hU hW hP hK hD⟩ rfl rfl hl.1 rfl (lv_room (Nat.le_of_ble_eq_true rfl)) dX2_solve_23 ⟨Nat.zero_le _, Nat.zero_le _⟩) hS (fun q _ hq => hF q hq) hF (fun r_23 u t H locs ht hvm h hB hz1 hk1 hS => ?_)
      obtain ⟨s_ordered_23, s_order_23, s_arriving_23⟩ := u
      dsimp only at h hB
      obtain ⟨hP, -, hD⟩ := wz_back ht hF hB
      have hP : va_P D vwCl (wC a cI cZ cJ x_agesStand x_searchStands p_blocks p_lines p_edges p_pairs g_sets g_size g_penalty g_comeCount 0 s_codes s_ordered_23 p_times p_touchCounts p_touchSlots p_lineOfSlot p_from p_to p_bounds p_pairA p_pairB p_leaving p_firstLeaving g_come g_outcomes g_greatestTimes g_leastTimes g_changed g_greatest g_least g_greatestNow g_leastNow s_order_23 s_arriving_23 s_unit s_flag s_forbidding s_most s_fewest) H := hP
      have hD : va_D A (wC a cI cZ cJ x_agesStand x_searchStands p_blocks p_lines p_edges p_pairs g_sets g_size g_penalty g_comeCount 0 s_codes s_ordered_23 p_times p_touchCounts p_touchSlots p_lineOfSlot p_from p_to p_bounds p_pairA p_pairB p_leaving p_firstLeaving g_come g_outcomes g_greatestTimes g_leastTimes g_changed g_greatest g_least g_greatestNow g_leastNow s_order_23 s_arriving_23 s_unit s_flag s_forbidding s_most s_fewest) := hD
      refine lv_if_ne (tgt := 30) hx hb dX2_solve_26 (by decide) (fun hc => ?_) (fun hc => ?_)
      · replace h := h.1 hc
        refine lv_aload_n hx hb dX2_solve_30 rfl (lv_at hl 0 rfl) ?_
        refine lv_aload_n hx hb dX2_solve_31 rfl (lv_at hl 1 rfl) ?_
        have hF := wz_free hD hS hA
        refine va_callv (va_runV (As := [.ref (a 1)]) (rest := []) ⟨hx, hb, hml, hown, hts⟩ (c_X2_layOutCode l D a cI cZ cJ _ x_agesStand x_searchStands p_blocks p_lines p_edges p_pairs g_sets g_size g_penalty g_comeCount 0 s_codes s_ordered_23 p_times p_touchCounts p_touchSlots p_lineOfSlot p_from p_to p_bounds p_pairA p_pairB p_leaving p_firstLeaving g_come g_outcomes g_greatestTimes g_leastTimes g_changed g_greatest g_least g_greatestNow g_leastNow s_order_23 s_arriving_23 s_unit s_flag s_forbidding s_most s_fewest _ h) (cwV 1 hts gX2_solve_X2_layOutCode rfl rfl rfl (by decide +kernel) ⟨Nat.le_of_ble_eq_true rfl, Nat.le_of_ble_eq_true rfl⟩) ⟨wz_blind, va_recv hK hP (ci := 2) (q0 := 3) rfl rfl, fun U hU hW => wz_at hU hW hP hK hD⟩ rfl rfl hl.1 rfl (lv_room (Nat.le_of_ble_eq_true rfl)) dX2_solve_32 ⟨Nat.zero_le _, Nat.zero_le _⟩) hS (fun q _ hq => hF q hq) hF (fun u t H locs ht hvm h hB hz1 hk1 hS => ?_)
        obtain ⟨s_codes_32, s_unit_32, s_flag_32, s_forbidding_32⟩ := u
        dsimp only at h hB
        obtain ⟨hP, -, hD⟩ := wz_back ht hF hB
        have hP : va_P D vwCl (wC a cI cZ cJ x_agesStand x_searchStands p_blocks p_lines p_edges p_pairs g_sets g_size g_penalty g_comeCount 0 s_codes_32 s_ordered_23 p_times p_touchCounts p_touchSlots p_lineOfSlot p_from p_to p_bounds p_pairA p_pairB p_leaving p_firstLeaving g_come g_outcomes g_greatestTimes g_leastTimes g_changed g_greatest g_least g_greatestNow g_leastNow s_order_23 s_arriving_23 s_unit_32 s_flag_32 s_forbidding_32 s_most s_fewest) H := hP
        have hD : va_D A (wC a cI cZ cJ x_agesStand x_searchStands p_blocks p_lines p_edges p_pairs g_sets g_size g_penalty g_comeCount 0 s_codes_32 s_ordered_23 p_times p_touchCounts p_touchSlots p_lineOfSlot p_from p_to p_bounds p_pairA p_pairB p_leaving p_firstLeaving g_come g_outcomes g_greatestTimes g_leastTimes g_changed g_greatest g_least g_greatestNow g_leastNow s_order_23 s_arriving_23 s_unit_32 s_flag_32 s_forbidding_32 s_most s_fewest) := hD
        refine lv_aload_n hx hb dX2_solve_35 rfl (lv_at hl 0 rfl) ?_
        refine lv_aload_n hx hb dX2_solve_36 rfl (lv_at hl 1 rfl) ?_
        refine lv_aload_n hx hb dX2_solve_37 rfl (lv_at hl 2 rfl) ?_
        have hF := wz_free hD hS hA
        refine va_callv (va_runV (As := [.ref (a 1), .ref (a 2)]) (rest := []) ⟨hx, hb, hml, hown, hts⟩ (c_X2_valueStates l D a cI cZ cJ _ x_agesStand x_searchStands p_blocks p_lines p_edges p_pairs g_sets g_size g_penalty g_comeCount 0 s_codes_32 s_ordered_23 p_times p_touchCounts p_touchSlots p_lineOfSlot p_from p_to p_bounds p_pairA p_pairB p_leaving p_firstLeaving g_come g_outcomes g_greatestTimes g_leastTimes g_changed g_greatest g_least g_greatestNow g_leastNow s_order_23 s_arriving_23 s_unit_32 s_flag_32 s_forbidding_32 s_most s_fewest _ h) (cwV 2 hts gX2_solve_X2_valueStates rfl rfl rfl (by decide +kernel) ⟨Nat.le_of_ble_eq_true rfl, Nat.le_of_ble_eq_true rfl⟩) ⟨wz_blind, va_recv hK hP (ci := 2) (q0 := 3) rfl rfl, fun U hU hW => wz_at hU hW hP hK hD⟩ rfl rfl hl.1 rfl (lv_room (Nat.le_of_ble_eq_true rfl)) dX2_solve_38 ⟨Nat.zero_le _, Nat.zero_le _⟩) hS (fun q _ hq => hF q hq) hF (fun u t H locs ht hvm h hB hz1 hk1 hS => ?_)
        obtain ⟨s_most_38, s_fewest_38⟩ := u
        dsimp only at h hB
        obtain ⟨hP, -, hD⟩ := wz_back ht hF hB
        have hP : va_P D vwCl (wC a cI cZ cJ x_agesStand x_searchStands p_blocks p_lines p_edges p_pairs g_sets g_size g_penalty g_comeCount 0 s_codes_32 s_ordered_23 p_times p_touchCounts p_touchSlots p_lineOfSlot p_from p_to p_bounds p_pairA p_pairB p_leaving p_firstLeaving g_come g_outcomes g_greatestTimes g_leastTimes g_changed g_greatest g_least g_greatestNow g_leastNow s_order_23 s_arriving_23 s_unit_32 s_flag_32 s_forbidding_32 s_most_38 s_fewest_38) H := hP
        have hD : va_D A (wC a cI cZ cJ x_agesStand x_searchStands p_blocks p_lines p_edges p_pairs g_sets g_size g_penalty g_comeCount 0 s_codes_32 s_ordered_23 p_times p_touchCounts p_touchSlots p_lineOfSlot p_from p_to p_bounds p_pairA p_pairB p_leaving p_firstLeaving g_come g_outcomes g_greatestTimes g_leastTimes g_changed g_greatest g_least g_greatestNow g_leastNow s_order_23 s_arriving_23 s_unit_32 s_flag_32 s_forbidding_32 s_most_38 s_fewest_38) := hD
        refine lv_aload_n hx hb dX2_solve_41 rfl (lv_at hl 0 rfl) ?_
        refine lv_aload_n hx hb dX2_solve_42 rfl (lv_at hl 0 rfl) ?_
        refine va_get (D := D) (ci := 2) (v := .ref (a 29)) (C := RX2) (T := TX2) (N := 10) hx hb hts hinX2 hown hK hP 3 rfl rfl 8 (by decide) (hts (.fieldLink RX2 28 "WorstPaths$Search" "most" "[J") (by decide +kernel)) (fun _ h9 => h9) rfl dX2_solve_43 ?_
        refine lv_iconst (v := 0) hx hb dX2_solve_46 (by decide) ?_
        obtain ⟨hq, h⟩ := h
        refine va_lald (D := D) hx hb hK hP 29 2 rfl rfl hq dX2_solve_47 ?_
        refine lv_ldc2 (v := (-1)) hx hb hown (hts (.constantLong RX2 61 ((-1))) (by decide +kernel)) dX2_solve_48 ?_
        refine W.lcmp hx hb dX2_solve_51 ?_
        refine lv_if_eq (tgt := 59) hx hb dX2_solve_52 (by decide) (fun hc => ?_) (fun hc => ?_)
        · replace h := h.1 hc
          refine lv_iconst (v := 0) hx hb dX2_solve_59 (by decide) ?_
          refine va_put (D := D) (ci := 2) (v := .int 0) (ty := .boolean) (C := RX2) (T := TX2) (N := 10) hx hb hts hinX2 tyX2 tyX2_ok nmX2 hown hK hP hD hS 3 rfl rfl 0 (by decide) (hts (.fieldLink RX2 35 "WorstPaths$Search" "answered" "Z") (by decide +kernel)) (fun _ h9 => h9) rfl (by decide +kernel) rfl rfl (Nat.le_of_ble_eq_true rfl) dX2_solve_60 (fun H locs hP hD hS => ?_)
          have hP : va_P D vwCl (wC a cI cZ cJ x_agesStand x_searchStands p_blocks p_lines p_edges p_pairs g_sets g_size g_penalty g_comeCount 0 s_codes_32 s_ordered_23 p_times p_touchCounts p_touchSlots p_lineOfSlot p_from p_to p_bounds p_pairA p_pairB p_leaving p_firstLeaving g_come g_outcomes g_greatestTimes g_leastTimes g_changed g_greatest g_least g_greatestNow g_leastNow s_order_23 s_arriving_23 s_unit_32 s_flag_32 s_forbidding_32 s_most_38 s_fewest_38) H := hP
          have hD : va_D A (wC a cI cZ cJ x_agesStand x_searchStands p_blocks p_lines p_edges p_pairs g_sets g_size g_penalty g_comeCount 0 s_codes_32 s_ordered_23 p_times p_touchCounts p_touchSlots p_lineOfSlot p_from p_to p_bounds p_pairA p_pairB p_leaving p_firstLeaving g_come g_outcomes g_greatestTimes g_leastTimes g_changed g_greatest g_least g_greatestNow g_leastNow s_order_23 s_arriving_23 s_unit_32 s_flag_32 s_forbidding_32 s_most_38 s_fewest_38) := hD
          refine wz_mono hQz ?_
          exact W.vret hx hb hr (fun t ht hW => ⟨⟨(0, s_codes_32, s_ordered_23, s_order_23, s_arriving_23, s_unit_32, s_flag_32, s_forbidding_32, s_most_38, s_fewest_38), rfl, h, by rw [ht]; exact hP, va_K.moved hW.alike hK, hD⟩, hS.F ht⟩) hS.2.2 dX2_solve_63
        · replace h := h.2 hc
          refine lv_iconst (v := 1) hx hb dX2_solve_55 (by decide) ?_
          refine lv_goto (tgt := 60) hx hb dX2_solve_56 (by decide) ?_
          refine va_put (D := D) (ci := 2) (v := .int 1) (ty := .boolean) (C := RX2) (T := TX2) (N := 10) hx hb hts hinX2 tyX2 tyX2_ok nmX2 hown hK hP hD hS 3 rfl rfl 0 (by decide) (hts (.fieldLink RX2 35 "WorstPaths$Search" "answered" "Z") (by decide +kernel)) (fun _ h9 => h9) rfl (by decide +kernel) rfl rfl (Nat.le_of_ble_eq_true rfl) dX2_solve_60 (fun H locs hP hD hS => ?_)
          have hP : va_P D vwCl (wC a cI cZ cJ x_agesStand x_searchStands p_blocks p_lines p_edges p_pairs g_sets g_size g_penalty g_comeCount 1 s_codes_32 s_ordered_23 p_times p_touchCounts p_touchSlots p_lineOfSlot p_from p_to p_bounds p_pairA p_pairB p_leaving p_firstLeaving g_come g_outcomes g_greatestTimes g_leastTimes g_changed g_greatest g_least g_greatestNow g_leastNow s_order_23 s_arriving_23 s_unit_32 s_flag_32 s_forbidding_32 s_most_38 s_fewest_38) H := hP
          have hD : va_D A (wC a cI cZ cJ x_agesStand x_searchStands p_blocks p_lines p_edges p_pairs g_sets g_size g_penalty g_comeCount 1 s_codes_32 s_ordered_23 p_times p_touchCounts p_touchSlots p_lineOfSlot p_from p_to p_bounds p_pairA p_pairB p_leaving p_firstLeaving g_come g_outcomes g_greatestTimes g_leastTimes g_changed g_greatest g_least g_greatestNow g_leastNow s_order_23 s_arriving_23 s_unit_32 s_flag_32 s_forbidding_32 s_most_38 s_fewest_38) := hD
          refine wz_mono hQz ?_
          exact W.vret hx hb hr (fun t ht hW => ⟨⟨(1, s_codes_32, s_ordered_23, s_order_23, s_arriving_23, s_unit_32, s_flag_32, s_forbidding_32, s_most_38, s_fewest_38), rfl, h, by rw [ht]; exact hP, va_K.moved hW.alike hK, hD⟩, hS.F ht⟩) hS.2.2 dX2_solve_63
      · replace h := h.2 hc
        refine wz_mono hQz ?_
        exact W.vret hx hb hr (fun t ht hW => ⟨⟨(0, s_codes, s_ordered_23, s_order_23, s_arriving_23, s_unit, s_flag, s_forbidding, s_most, s_fewest), rfl, h, by rw [ht]; exact hP, va_K.moved hW.alike hK, hD⟩, hS.F ht⟩) hS.2.2 dX2_solve_29
