def wp_X4_isOfSet (v1 : Int32) (v2 : Int32) (m_sets : Int32) (m_line : Nat → Int32) (Q : Int32 → Prop) : Prop := vp_in v1 40 ∧ (vp_in v2 40 ∧ ((¬ (((m_line (Int32.toNatClampNeg v1)) ^^^ (m_line (Int32.toNatClampNeg v2))) &&& (m_sets - 1)) = 0 → Q 0) ∧ ((((m_line (Int32.toNatClampNeg v1)) ^^^ (m_line (Int32.toNatClampNeg v2))) &&& (m_sets - 1)) = 0 → Q 1)))
abbrev rm_X4_isOfSet : Room := { frames := 0, cells := 0, slots := 0, locals := 0 }
set_option maxHeartbeats 4000000 in
set_option maxRecDepth 100000 in
theorem c_X4_isOfSet (l : Launch) (D : va_G) (a : Nat → Nat) (cI : ClassId) (cZ : ClassId) (cJ : ClassId) (sz : Nat) (m_thrown : Int32) (m_sets : Int32) (m_ways : Int32) (m_penalty : Int32) (m_blocks : Int32) (m_edges : Int32) (m_pairs : Int32) (m_lines : Int32) (m_isFresh : Int32) (m_isAnswer : Int32) (m_time : Nat → Int32) (m_touchMany : Nat → Int32) (m_touch : Nat → Int32) (m_line : Nat → Int32) (m_from : Nat → Int32) (m_to : Nat → Int32) (m_bound : Nat → Int32) (m_pairA : Nat → Int32) (m_pairB : Nat → Int32) (m_comeTo : Nat → Int32) (m_greatest : Nat → Int32) (m_least : Nat → Int32) (m_nowGreatest : Nat → Int32) (m_nowLeast : Nat → Int32) (m_does : Nat → Int32) (m_mostTime : Nat → Int64) (m_leastTime : Nat → Int64) (m_countUnit : Nat → Int32) (m_flagUnit : Nat → Int32) (m_worst : Nat → Int64) (m_best : Nat → Int64) (m_stack : Nat → Int32) (v1 : Int32) (v2 : Int32) (Q : Int32 → Prop) (h : wp_X4_isOfSet v1 v2 m_sets m_line Q) : Met l yX4_isOfSet wsX4_isOfSet rm_X4_isOfSet (va_Pc [.ref (a 0), .int v1, .int v2] (inW D cI cZ cJ sz (wM a cI cZ cJ m_thrown m_sets m_ways m_penalty m_blocks m_edges m_pairs m_lines m_isFresh m_isAnswer m_time m_touchMany m_touch m_line m_from m_to m_bound m_pairA m_pairB m_comeTo m_greatest m_least m_nowGreatest m_nowLeast m_does m_mostTime m_leastTime m_countUnit m_flagUnit m_worst m_best m_stack))) (va_Qi (fun (r : Int32) (u : Unit) => Q r) (fun (u : Unit) => outW D cI cZ cJ (va_A (wM a cI cZ cJ m_thrown m_sets m_ways m_penalty m_blocks m_edges m_pairs m_lines m_isFresh m_isAnswer m_time m_touchMany m_touch m_line m_from m_to m_bound m_pairA m_pairB m_comeTo m_greatest m_least m_nowGreatest m_nowLeast m_does m_mostTime m_leastTime m_countUnit m_flagUnit m_worst m_best m_stack) sz) (wM a cI cZ cJ m_thrown m_sets m_ways m_penalty m_blocks m_edges m_pairs m_lines m_isFresh m_isAnswer m_time m_touchMany m_touch m_line m_from m_to m_bound m_pairA m_pairB m_comeTo m_greatest m_least m_nowGreatest m_nowLeast m_does m_mostTime m_leastTime m_countUnit m_flagUnit m_worst m_best m_stack)) (va_A (wM a cI cZ cJ m_thrown m_sets m_ways m_penalty m_blocks m_edges m_pairs m_lines m_isFresh m_isAnswer m_time m_touchMany m_touch m_line m_from m_to m_bound m_pairA m_pairB m_comeTo m_greatest m_least m_nowGreatest m_nowLeast m_does m_mostTime m_leastTime m_countUnit m_flagUnit m_worst m_best m_stack) sz)) 0 0 (va_A (wM a cI cZ cJ m_thrown m_sets m_ways m_penalty m_blocks m_edges m_pairs m_lines m_isFresh m_isAnswer m_time m_touchMany m_touch m_line m_from m_to m_bound m_pairA m_pairB m_comeTo m_greatest m_least m_nowGreatest m_nowLeast m_does m_mostTime m_leastTime m_countUnit m_flagUnit m_worst m_best m_stack) sz) := by
  refine Met.ofW (cc := cX4_isOfSet) (maxL := 3) (ret := (some .boolean)) (by decide +kernel) rfl ?_
  intro p e s m args below meth c s₁ B hml hv
  obtain ⟨rfl, hsz, hP, hK, hD0⟩ := hv
  have hx := B.exec
  have hb := B.bytes
  have hr := B.returns
  have hts := atoms_spec (ws := wsX4_isOfSet) B.pre
  have hown : s.vm.findClass RX4 = some m.cls := findClass_of_methodNamed B.named
  have hlocks := B.notSynchronized
  have hinX4 : ∀ w ∈ wsX40, w ∈ wsX4_isOfSet := by decide +kernel
  subst hsz
  have hD := hD0.self (sz := s.heap.size)
  generalize hAe : va_A (wM a cI cZ cJ m_thrown m_sets m_ways m_penalty m_blocks m_edges m_pairs m_lines m_isFresh m_isAnswer m_time m_touchMany m_touch m_line m_from m_to m_bound m_pairA m_pairB m_comeTo m_greatest m_least m_nowGreatest m_nowLeast m_does m_mostTime m_leastTime m_countUnit m_flagUnit m_worst m_best m_stack) s.heap.size = A at hD ⊢
  have hA : ∀ q : Nat, s.heap.size ≤ q → A q := fun q h => by rw [← hAe]; exact Or.inr h
  have hS : va_S A s.heap s.heap [] := va_S.rf
  have hP : va_P D vwCl (wM a cI cZ cJ m_thrown m_sets m_ways m_penalty m_blocks m_edges m_pairs m_lines m_isFresh m_isAnswer m_time m_touchMany m_touch m_line m_from m_to m_bound m_pairA m_pairB m_comeTo m_greatest m_least m_nowGreatest m_nowLeast m_does m_mostTime m_leastTime m_countUnit m_flagUnit m_worst m_best m_stack) s.heap := hP
  have hl := lv_entry ([.ref (a 0), .int v1, .int v2]) (n := 3) (Nat.le_of_ble_eq_true rfl)
  rw [lg_entry_eq]
  generalize (lg_sl ([.ref (a 0), .int v1, .int v2]) ++ List.replicate (3 - (lg_sl ([.ref (a 0), .int v1, .int v2])).length) Slot.unset).toArray = ls at hl ⊢
  have hl : lv_has ls 3 [(0, .ref (a 0)), (1, .int v1), (2, .int v2)] := hl
  refine wz_abs (fun Qz hQz => ?_)
  unfold wp_X4_isOfSet at h
  refine lv_aload_n hx hb dX4_isOfSet_0 rfl (lv_at hl 0 rfl) ?_
  refine va_get (D := D) (ci := 4) (v := .ref (a 4)) (C := RX4) (T := TX4) (N := 32) hx hb hts hinX4 hown hK hP 0 rfl rfl 11 (by decide) (hts (.fieldLink RX4 19 "WorstPathsModel" "line" "[I") (by decide +kernel)) (fun _ h9 => h9) rfl dX4_isOfSet_1 ?_
  refine lv_iload_n hx hb dX4_isOfSet_4 rfl (lv_at hl 1 rfl) ?_
  obtain ⟨hq, h⟩ := h
  refine va_iald (D := D) hx hb hK hP 4 0 rfl rfl hq dX4_isOfSet_5 ?_
  refine lv_aload_n hx hb dX4_isOfSet_6 rfl (lv_at hl 0 rfl) ?_
  refine va_get (D := D) (ci := 4) (v := .ref (a 4)) (C := RX4) (T := TX4) (N := 32) hx hb hts hinX4 hown hK hP 0 rfl rfl 11 (by decide) (hts (.fieldLink RX4 19 "WorstPathsModel" "line" "[I") (by decide +kernel)) (fun _ h9 => h9) rfl dX4_isOfSet_7 ?_
  refine lv_iload_n hx hb dX4_isOfSet_10 rfl (lv_at hl 2 rfl) ?_
  obtain ⟨hq, h⟩ := h
  refine va_iald (D := D) hx hb hK hP 4 0 rfl rfl hq dX4_isOfSet_11 ?_
  refine lv_ixor hx hb dX4_isOfSet_12 ?_
  refine lv_aload_n hx hb dX4_isOfSet_13 rfl (lv_at hl 0 rfl) ?_
  refine va_get (D := D) (ci := 4) (v := .int m_sets) (C := RX4) (T := TX4) (N := 32) hx hb hts hinX4 hown hK hP 0 rfl rfl 1 (by decide) (hts (.fieldLink RX4 84 "WorstPathsModel" "sets" "I") (by decide +kernel)) (fun _ h9 => h9) rfl dX4_isOfSet_14 ?_
  refine lv_iconst (v := 1) hx hb dX4_isOfSet_17 (by decide) ?_
  refine lv_isub hx hb dX4_isOfSet_18 ?_
  refine lv_iand hx hb dX4_isOfSet_19 ?_
  refine lv_if_ne (tgt := 27) hx hb dX4_isOfSet_20 (by decide) (fun hc => ?_) (fun hc => ?_)
  · replace h := h.1 hc
    refine lv_iconst (v := 0) hx hb dX4_isOfSet_27 (by decide) ?_
    refine wz_mono hQz ?_
    exact W.zret (v := 0) hx hb hr rfl (fun t ht hW => ⟨⟨0, (), rfl, h, by rw [ht]; exact hP, va_K.moved hW.alike hK, hD⟩, hS.F ht⟩) hS.2.2 dX4_isOfSet_28
  · replace h := h.2 hc
    refine lv_iconst (v := 1) hx hb dX4_isOfSet_23 (by decide) ?_
    refine lv_goto (tgt := 28) hx hb dX4_isOfSet_24 (by decide) ?_
    refine wz_mono hQz ?_
    exact W.zret (v := 1) hx hb hr rfl (fun t ht hW => ⟨⟨1, (), rfl, h, by rw [ht]; exact hP, va_K.moved hW.alike hK, hD⟩, hS.F ht⟩) hS.2.2 dX4_isOfSet_28
def jn_X4_touchNow_131 (v1 : Int32) (v2 : Int32) (v3 : Int32) (v4 : Int32) (m_sets : Int32) (m_ways : Int32) (m_lines : Int32) (m_line : Nat → Int32) (m_nowGreatest : Nat → Int32) (m_nowLeast : Nat → Int32) (K49 : Int32 → (Nat → Int32) → (Nat → Int32) → Prop) (Q : (Nat → Int32) → (Nat → Int32) → Prop) : Prop := vp_in v4 40 ∧ (((m_nowLeast (Int32.toNatClampNeg v4)) < 0 → K49 (v4 + 1) m_nowGreatest m_nowLeast) ∧ (¬ (m_nowLeast (Int32.toNatClampNeg v4)) < 0 → vp_in v4 40 ∧ ((v3 < (m_nowLeast (Int32.toNatClampNeg v4)) → K49 (v4 + 1) m_nowGreatest m_nowLeast) ∧ (¬ v3 < (m_nowLeast (Int32.toNatClampNeg v4)) → vp_in v4 40 ∧ ((m_ways ≤ ((m_nowLeast (Int32.toNatClampNeg v4)) + 1) → vp_in v4 40 ∧ (K49 (v4 + 1) m_nowGreatest (upd m_nowLeast (Int32.toNatClampNeg v4) (-1)))) ∧ (¬ m_ways ≤ ((m_nowLeast (Int32.toNatClampNeg v4)) + 1) → vp_in v4 40 ∧ (vp_in v4 40 ∧ (K49 (v4 + 1) m_nowGreatest (upd m_nowLeast (Int32.toNatClampNeg v4) ((m_nowLeast (Int32.toNatClampNeg v4)) + 1))))))))))
def lp_X4_touchNow_49 (v1 : Int32) (v2 : Int32) (v3 : Int32) (m_sets : Int32) (m_ways : Int32) (m_lines : Int32) (m_line : Nat → Int32) (Q : (Nat → Int32) → (Nat → Int32) → Prop) : Nat → Int32 → (Nat → Int32) → (Nat → Int32) → Prop
  | 0, _, _, _ => False
  | n + 1, v4, m_nowGreatest, m_nowLeast => (m_lines ≤ v4 → vp_in v1 40 ∧ (vp_in v1 40 ∧ (Q (upd m_nowGreatest (Int32.toNatClampNeg v1) 0) (upd m_nowLeast (Int32.toNatClampNeg v1) 0)))) ∧ (¬ m_lines ≤ v4 → (v4 = v1 → (lp_X4_touchNow_49 v1 v2 v3 m_sets m_ways m_lines m_line Q n) (v4 + 1) m_nowGreatest m_nowLeast) ∧ (¬ v4 = v1 → wp_X4_isOfSet v4 v1 m_sets m_line (fun r_68 => (r_68 = 0 → (lp_X4_touchNow_49 v1 v2 v3 m_sets m_ways m_lines m_line Q n) (v4 + 1) m_nowGreatest m_nowLeast) ∧ (¬ r_68 = 0 → vp_in v4 40 ∧ (((m_nowGreatest (Int32.toNatClampNeg v4)) < 0 → jn_X4_touchNow_131 v1 v2 v3 v4 m_sets m_ways m_lines m_line m_nowGreatest m_nowLeast (lp_X4_touchNow_49 v1 v2 v3 m_sets m_ways m_lines m_line Q n) Q) ∧ (¬ (m_nowGreatest (Int32.toNatClampNeg v4)) < 0 → vp_in v4 40 ∧ ((v2 ≤ (m_nowGreatest (Int32.toNatClampNeg v4)) → jn_X4_touchNow_131 v1 v2 v3 v4 m_sets m_ways m_lines m_line m_nowGreatest m_nowLeast (lp_X4_touchNow_49 v1 v2 v3 m_sets m_ways m_lines m_line Q n) Q) ∧ (¬ v2 ≤ (m_nowGreatest (Int32.toNatClampNeg v4)) → vp_in v4 40 ∧ ((m_ways ≤ ((m_nowGreatest (Int32.toNatClampNeg v4)) + 1) → vp_in v4 40 ∧ (jn_X4_touchNow_131 v1 v2 v3 v4 m_sets m_ways m_lines m_line (upd m_nowGreatest (Int32.toNatClampNeg v4) (-1)) m_nowLeast (lp_X4_touchNow_49 v1 v2 v3 m_sets m_ways m_lines m_line Q n) Q)) ∧ (¬ m_ways ≤ ((m_nowGreatest (Int32.toNatClampNeg v4)) + 1) → vp_in v4 40 ∧ (vp_in v4 40 ∧ (jn_X4_touchNow_131 v1 v2 v3 v4 m_sets m_ways m_lines m_line (upd m_nowGreatest (Int32.toNatClampNeg v4) ((m_nowGreatest (Int32.toNatClampNeg v4)) + 1)) m_nowLeast (lp_X4_touchNow_49 v1 v2 v3 m_sets m_ways m_lines m_line Q n) Q))))))))))))
def jn_X4_touchNow_22 (v1 : Int32) (m_sets : Int32) (m_ways : Int32) (m_lines : Int32) (m_line : Nat → Int32) (m_nowGreatest : Nat → Int32) (m_nowLeast : Nat → Int32) (t0 : Int32) (Q : (Nat → Int32) → (Nat → Int32) → Prop) : Prop := vp_in v1 40 ∧ ((0 ≤ (m_nowLeast (Int32.toNatClampNeg v1)) → vp_in v1 40 ∧ (∃ k49, lp_X4_touchNow_49 v1 t0 (m_nowLeast (Int32.toNatClampNeg v1)) m_sets m_ways m_lines m_line Q k49 0 m_nowGreatest m_nowLeast)) ∧ (¬ 0 ≤ (m_nowLeast (Int32.toNatClampNeg v1)) → ∃ k49, lp_X4_touchNow_49 v1 t0 m_ways m_sets m_ways m_lines m_line Q k49 0 m_nowGreatest m_nowLeast))
def wp_X4_touchNow (v1 : Int32) (m_sets : Int32) (m_ways : Int32) (m_lines : Int32) (m_line : Nat → Int32) (m_nowGreatest : Nat → Int32) (m_nowLeast : Nat → Int32) (Q : (Nat → Int32) → (Nat → Int32) → Prop) : Prop := vp_in v1 40 ∧ ((0 ≤ (m_nowGreatest (Int32.toNatClampNeg v1)) → vp_in v1 40 ∧ (jn_X4_touchNow_22 v1 m_sets m_ways m_lines m_line m_nowGreatest m_nowLeast (m_nowGreatest (Int32.toNatClampNeg v1)) Q)) ∧ (¬ 0 ≤ (m_nowGreatest (Int32.toNatClampNeg v1)) → jn_X4_touchNow_22 v1 m_sets m_ways m_lines m_line m_nowGreatest m_nowLeast m_ways Q))
abbrev rm_X4_touchNow : Room := { frames := 1, cells := 0, slots := 0, locals := 22 }
set_option maxHeartbeats 4000000 in
set_option maxRecDepth 100000 in
theorem c_X4_touchNow (l : Launch) (D : va_G) (a : Nat → Nat) (cI : ClassId) (cZ : ClassId) (cJ : ClassId) (sz : Nat) (m_thrown : Int32) (m_sets : Int32) (m_ways : Int32) (m_penalty : Int32) (m_blocks : Int32) (m_edges : Int32) (m_pairs : Int32) (m_lines : Int32) (m_isFresh : Int32) (m_isAnswer : Int32) (m_time : Nat → Int32) (m_touchMany : Nat → Int32) (m_touch : Nat → Int32) (m_line : Nat → Int32) (m_from : Nat → Int32) (m_to : Nat → Int32) (m_bound : Nat → Int32) (m_pairA : Nat → Int32) (m_pairB : Nat → Int32) (m_comeTo : Nat → Int32) (m_greatest : Nat → Int32) (m_least : Nat → Int32) (m_nowGreatest : Nat → Int32) (m_nowLeast : Nat → Int32) (m_does : Nat → Int32) (m_mostTime : Nat → Int64) (m_leastTime : Nat → Int64) (m_countUnit : Nat → Int32) (m_flagUnit : Nat → Int32) (m_worst : Nat → Int64) (m_best : Nat → Int64) (m_stack : Nat → Int32) (v1 : Int32) (Q : (Nat → Int32) → (Nat → Int32) → Prop) (h : wp_X4_touchNow v1 m_sets m_ways m_lines m_line m_nowGreatest m_nowLeast Q) : Met l yX4_touchNow wsX4_touchNow rm_X4_touchNow (va_Pc [.ref (a 0), .int v1] (inW D cI cZ cJ sz (wM a cI cZ cJ m_thrown m_sets m_ways m_penalty m_blocks m_edges m_pairs m_lines m_isFresh m_isAnswer m_time m_touchMany m_touch m_line m_from m_to m_bound m_pairA m_pairB m_comeTo m_greatest m_least m_nowGreatest m_nowLeast m_does m_mostTime m_leastTime m_countUnit m_flagUnit m_worst m_best m_stack))) (va_Qv (fun (u : (Nat → Int32) × (Nat → Int32)) => Q u.1 u.2) (fun (u : (Nat → Int32) × (Nat → Int32)) => outW D cI cZ cJ (va_A (wM a cI cZ cJ m_thrown m_sets m_ways m_penalty m_blocks m_edges m_pairs m_lines m_isFresh m_isAnswer m_time m_touchMany m_touch m_line m_from m_to m_bound m_pairA m_pairB m_comeTo m_greatest m_least m_nowGreatest m_nowLeast m_does m_mostTime m_leastTime m_countUnit m_flagUnit m_worst m_best m_stack) sz) (wM a cI cZ cJ m_thrown m_sets m_ways m_penalty m_blocks m_edges m_pairs m_lines m_isFresh m_isAnswer m_time m_touchMany m_touch m_line m_from m_to m_bound m_pairA m_pairB m_comeTo m_greatest m_least u.1 u.2 m_does m_mostTime m_leastTime m_countUnit m_flagUnit m_worst m_best m_stack)) (va_A (wM a cI cZ cJ m_thrown m_sets m_ways m_penalty m_blocks m_edges m_pairs m_lines m_isFresh m_isAnswer m_time m_touchMany m_touch m_line m_from m_to m_bound m_pairA m_pairB m_comeTo m_greatest m_least m_nowGreatest m_nowLeast m_does m_mostTime m_leastTime m_countUnit m_flagUnit m_worst m_best m_stack) sz)) 0 0 (va_A (wM a cI cZ cJ m_thrown m_sets m_ways m_penalty m_blocks m_edges m_pairs m_lines m_isFresh m_isAnswer m_time m_touchMany m_touch m_line m_from m_to m_bound m_pairA m_pairB m_comeTo m_greatest m_least m_nowGreatest m_nowLeast m_does m_mostTime m_leastTime m_countUnit m_flagUnit m_worst m_best m_stack) sz) := by
  refine Met.ofW (cc := cX4_touchNow) (maxL := 5) (ret := none) (by decide +kernel) rfl ?_
  intro p e s m args below meth c s₁ B hml hv
  obtain ⟨rfl, hsz, hP, hK, hD0⟩ := hv
  have hx := B.exec
  have hb := B.bytes
  have hr := B.returns
  have hts := atoms_spec (ws := wsX4_touchNow) B.pre
  have hown : s.vm.findClass RX4 = some m.cls := findClass_of_methodNamed B.named
  have hlocks := B.notSynchronized
  have hinX4 : ∀ w ∈ wsX40, w ∈ wsX4_touchNow := by decide +kernel
  subst hsz
  have hD := hD0.self (sz := s.heap.size)
  generalize hAe : va_A (wM a cI cZ cJ m_thrown m_sets m_ways m_penalty m_blocks m_edges m_pairs m_lines m_isFresh m_isAnswer m_time m_touchMany m_touch m_line m_from m_to m_bound m_pairA m_pairB m_comeTo m_greatest m_least m_nowGreatest m_nowLeast m_does m_mostTime m_leastTime m_countUnit m_flagUnit m_worst m_best m_stack) s.heap.size = A at hD ⊢
  have hA : ∀ q : Nat, s.heap.size ≤ q → A q := fun q h => by rw [← hAe]; exact Or.inr h
  have hS : va_S A s.heap s.heap [] := va_S.rf
  have hP : va_P D vwCl (wM a cI cZ cJ m_thrown m_sets m_ways m_penalty m_blocks m_edges m_pairs m_lines m_isFresh m_isAnswer m_time m_touchMany m_touch m_line m_from m_to m_bound m_pairA m_pairB m_comeTo m_greatest m_least m_nowGreatest m_nowLeast m_does m_mostTime m_leastTime m_countUnit m_flagUnit m_worst m_best m_stack) s.heap := hP
  have hl := lv_entry ([.ref (a 0), .int v1]) (n := 5) (Nat.le_of_ble_eq_true rfl)
  rw [lg_entry_eq]
  generalize (lg_sl ([.ref (a 0), .int v1]) ++ List.replicate (5 - (lg_sl ([.ref (a 0), .int v1])).length) Slot.unset).toArray = ls at hl ⊢
  have hl : lv_has ls 5 [(0, .ref (a 0)), (1, .int v1)] := hl
  refine wz_abs (fun Qz hQz => ?_)
  unfold wp_X4_touchNow at h
  refine lv_aload_n hx hb dX4_touchNow_0 rfl (lv_at hl 0 rfl) ?_
  refine va_get (D := D) (ci := 4) (v := .ref (a 13)) (C := RX4) (T := TX4) (N := 32) hx hb hts hinX4 hown hK hP 0 rfl rfl 21 (by decide) (hts (.fieldLink RX4 47 "WorstPathsModel" "nowGreatest" "[I") (by decide +kernel)) (fun _ h9 => h9) rfl dX4_touchNow_1 ?_
  refine lv_iload_n hx hb dX4_touchNow_4 rfl (lv_at hl 1 rfl) ?_
  obtain ⟨hq, h⟩ := h
  refine va_iald (D := D) hx hb hK hP 13 0 rfl rfl hq dX4_touchNow_5 ?_
  have JP22 : ∀ (t0_22 : Int32), jn_X4_touchNow_22 v1 m_sets m_ways m_lines m_line m_nowGreatest m_nowLeast t0_22 Q → ∀ (H : Heap) (locs : List Loc), va_P D vwCl (wM a cI cZ cJ m_thrown m_sets m_ways m_penalty m_blocks m_edges m_pairs m_lines m_isFresh m_isAnswer m_time m_touchMany m_touch m_line m_from m_to m_bound m_pairA m_pairB m_comeTo m_greatest m_least m_nowGreatest m_nowLeast m_does m_mostTime m_leastTime m_countUnit m_flagUnit m_worst m_best m_stack) H → va_D A (wM a cI cZ cJ m_thrown m_sets m_ways m_penalty m_blocks m_edges m_pairs m_lines m_isFresh m_isAnswer m_time m_touchMany m_touch m_line m_from m_to m_bound m_pairA m_pairB m_comeTo m_greatest m_least m_nowGreatest m_nowLeast m_does m_mostTime m_leastTime m_countUnit m_flagUnit m_worst m_best m_stack) → va_S A s.heap H locs → ∀ (ls : Array Slot), lv_has ls 5 [(0, .ref (a 0)), (1, .int v1)] → W p l e (headSpec wsX4_touchNow rm_X4_touchNow).room s m ([Value.ref (a 0), Value.int v1] : List Value).toArray below meth c H locs 0 0 Qz (F0 m 22 ls [.int t0_22]) := by
    intro t0_22 h H locs hP hD hS ls hl
    unfold jn_X4_touchNow_22 at h
    refine lv_istore_n (lv' := [(2, .int t0_22), (0, .ref (a 0)), (1, .int v1)]) hx hb dX4_touchNow_22 rfl hl (by decide) rfl (fun ls hl => ?_)
    refine lv_aload_n hx hb dX4_touchNow_23 rfl (lv_at hl 1 rfl) ?_
    refine va_get (D := D) (ci := 4) (v := .ref (a 14)) (C := RX4) (T := TX4) (N := 32) hx hb hts hinX4 hown hK hP 0 rfl rfl 22 (by decide) (hts (.fieldLink RX4 50 "WorstPathsModel" "nowLeast" "[I") (by decide +kernel)) (fun _ h9 => h9) rfl dX4_touchNow_24 ?_
    refine lv_iload_n hx hb dX4_touchNow_27 rfl (lv_at hl 2 rfl) ?_
    obtain ⟨hq, h⟩ := h
    refine va_iald (D := D) hx hb hK hP 14 0 rfl rfl hq dX4_touchNow_28 ?_
    refine lv_if_ge (tgt := 39) hx hb dX4_touchNow_29 (by decide) (fun hc => ?_) (fun hc => ?_)
    · replace h := h.1 hc
      refine lv_aload_n hx hb dX4_touchNow_39 rfl (lv_at hl 1 rfl) ?_
      refine va_get (D := D) (ci := 4) (v := .ref (a 14)) (C := RX4) (T := TX4) (N := 32) hx hb hts hinX4 hown hK hP 0 rfl rfl 22 (by decide) (hts (.fieldLink RX4 50 "WorstPathsModel" "nowLeast" "[I") (by decide +kernel)) (fun _ h9 => h9) rfl dX4_touchNow_40 ?_
      refine lv_iload_n hx hb dX4_touchNow_43 rfl (lv_at hl 2 rfl) ?_
      obtain ⟨hq, h⟩ := h
      refine va_iald (D := D) hx hb hK hP 14 0 rfl rfl hq dX4_touchNow_44 ?_
      refine lv_istore_n (lv' := [(3, .int (m_nowLeast (Int32.toNatClampNeg v1))), (2, .int t0_22), (0, .ref (a 0)), (1, .int v1)]) hx hb dX4_touchNow_45 rfl hl (by decide) rfl (fun ls hl => ?_)
      refine lv_iconst (v := 0) hx hb dX4_touchNow_46 (by decide) ?_
      refine lv_istore (lv' := [(4, .int 0), (3, .int (m_nowLeast (Int32.toNatClampNeg v1))), (2, .int t0_22), (0, .ref (a 0)), (1, .int v1)]) hx hb dX4_touchNow_47 hl (by decide) rfl (fun ls hl => ?_)
      have LP49 : ∀ (n49 : Nat) (v4_49 : Int32) (m_nowGreatest_49 : Nat → Int32) (m_nowLeast_49 : Nat → Int32), lp_X4_touchNow_49 v1 t0_22 (m_nowLeast (Int32.toNatClampNeg v1)) m_sets m_ways m_lines m_line Q n49 v4_49 m_nowGreatest_49 m_nowLeast_49 → ∀ (H : Heap) (locs : List Loc), va_P D vwCl (wM a cI cZ cJ m_thrown m_sets m_ways m_penalty m_blocks m_edges m_pairs m_lines m_isFresh m_isAnswer m_time m_touchMany m_touch m_line m_from m_to m_bound m_pairA m_pairB m_comeTo m_greatest m_least m_nowGreatest_49 m_nowLeast_49 m_does m_mostTime m_leastTime m_countUnit m_flagUnit m_worst m_best m_stack) H → va_D A (wM a cI cZ cJ m_thrown m_sets m_ways m_penalty m_blocks m_edges m_pairs m_lines m_isFresh m_isAnswer m_time m_touchMany m_touch m_line m_from m_to m_bound m_pairA m_pairB m_comeTo m_greatest m_least m_nowGreatest_49 m_nowLeast_49 m_does m_mostTime m_leastTime m_countUnit m_flagUnit m_worst m_best m_stack) → va_S A s.heap H locs → ∀ (ls : Array Slot), lv_has ls 5 [(0, .ref (a 0)), (1, .int v1), (2, .int t0_22), (3, .int (m_nowLeast (Int32.toNatClampNeg v1))), (4, .int v4_49)] → W p l e (headSpec wsX4_touchNow rm_X4_touchNow).room s m ([Value.ref (a 0), Value.int v1] : List Value).toArray below meth c H locs 0 0 Qz (F0 m 49 ls []) := by
        intro n49
        induction n49 with
        | zero => intro v4_49 m_nowGreatest_49 m_nowLeast_49 h; exact h.elim
        | succ n49 ih49 =>
          intro v4_49 m_nowGreatest_49 m_nowLeast_49 h H locs hP hD hS ls hl
          unfold lp_X4_touchNow_49 at h
          refine lv_iload hx hb dX4_touchNow_49 (lv_at hl 4 rfl) ?_
          refine lv_aload_n hx hb dX4_touchNow_51 rfl (lv_at hl 0 rfl) ?_
          refine va_get (D := D) (ci := 4) (v := .int m_lines) (C := RX4) (T := TX4) (N := 32) hx hb hts hinX4 hown hK hP 0 rfl rfl 7 (by decide) (hts (.fieldLink RX4 113 "WorstPathsModel" "lines" "I") (by decide +kernel)) (fun _ h9 => h9) rfl dX4_touchNow_52 ?_
          refine lv_icmp_ge (tgt := 194) hx hb dX4_touchNow_55 (by decide) (fun hc => ?_) (fun hc => ?_)
          · replace h := h.1 hc
            refine lv_aload_n hx hb dX4_touchNow_194 rfl (lv_at hl 0 rfl) ?_
            refine va_get (D := D) (ci := 4) (v := .ref (a 13)) (C := RX4) (T := TX4) (N := 32) hx hb hts hinX4 hown hK hP 0 rfl rfl 21 (by decide) (hts (.fieldLink RX4 47 "WorstPathsModel" "nowGreatest" "[I") (by decide +kernel)) (fun _ h9 => h9) rfl dX4_touchNow_195 ?_
            refine lv_iload_n hx hb dX4_touchNow_198 rfl (lv_at hl 1 rfl) ?_
            refine lv_iconst (v := 0) hx hb dX4_touchNow_199 (by decide) ?_
            obtain ⟨hq, h⟩ := h
            refine va_iast (D := D) hx hb hK hP hD hS 13 0 rfl rfl hq dX4_touchNow_200 (fun H locs hP hD hS => ?_)
            have hP : va_P D vwCl (wM a cI cZ cJ m_thrown m_sets m_ways m_penalty m_blocks m_edges m_pairs m_lines m_isFresh m_isAnswer m_time m_touchMany m_touch m_line m_from m_to m_bound m_pairA m_pairB m_comeTo m_greatest m_least (upd m_nowGreatest_49 (Int32.toNatClampNeg v1) 0) m_nowLeast_49 m_does m_mostTime m_leastTime m_countUnit m_flagUnit m_worst m_best m_stack) H := hP
            have hD : va_D A (wM a cI cZ cJ m_thrown m_sets m_ways m_penalty m_blocks m_edges m_pairs m_lines m_isFresh m_isAnswer m_time m_touchMany m_touch m_line m_from m_to m_bound m_pairA m_pairB m_comeTo m_greatest m_least (upd m_nowGreatest_49 (Int32.toNatClampNeg v1) 0) m_nowLeast_49 m_does m_mostTime m_leastTime m_countUnit m_flagUnit m_worst m_best m_stack) := hD
            refine lv_aload_n hx hb dX4_touchNow_201 rfl (lv_at hl 0 rfl) ?_
            refine va_get (D := D) (ci := 4) (v := .ref (a 14)) (C := RX4) (T := TX4) (N := 32) hx hb hts hinX4 hown hK hP 0 rfl rfl 22 (by decide) (hts (.fieldLink RX4 50 "WorstPathsModel" "nowLeast" "[I") (by decide +kernel)) (fun _ h9 => h9) rfl dX4_touchNow_202 ?_
            refine lv_iload_n hx hb dX4_touchNow_205 rfl (lv_at hl 1 rfl) ?_
            refine lv_iconst (v := 0) hx hb dX4_touchNow_206 (by decide) ?_
            obtain ⟨hq, h⟩ := h
            refine va_iast (D := D) hx hb hK hP hD hS 14 0 rfl rfl hq dX4_touchNow_207 (fun H locs hP hD hS => ?_)
            have hP : va_P D vwCl (wM a cI cZ cJ m_thrown m_sets m_ways m_penalty m_blocks m_edges m_pairs m_lines m_isFresh m_isAnswer m_time m_touchMany m_touch m_line m_from m_to m_bound m_pairA m_pairB m_comeTo m_greatest m_least (upd m_nowGreatest_49 (Int32.toNatClampNeg v1) 0) (upd m_nowLeast_49 (Int32.toNatClampNeg v1) 0) m_does m_mostTime m_leastTime m_countUnit m_flagUnit m_worst m_best m_stack) H := hP
            have hD : va_D A (wM a cI cZ cJ m_thrown m_sets m_ways m_penalty m_blocks m_edges m_pairs m_lines m_isFresh m_isAnswer m_time m_touchMany m_touch m_line m_from m_to m_bound m_pairA m_pairB m_comeTo m_greatest m_least (upd m_nowGreatest_49 (Int32.toNatClampNeg v1) 0) (upd m_nowLeast_49 (Int32.toNatClampNeg v1) 0) m_does m_mostTime m_leastTime m_countUnit m_flagUnit m_worst m_best m_stack) := hD
            refine wz_mono hQz ?_
            exact W.vret hx hb hr (fun t ht hW => ⟨⟨((upd m_nowGreatest_49 (Int32.toNatClampNeg v1) 0), (upd m_nowLeast_49 (Int32.toNatClampNeg v1) 0)), rfl, h, by rw [ht]; exact hP, va_K.moved hW.alike hK, hD⟩, hS.F ht⟩) hS.2.2 dX4_touchNow_208
          · replace h := h.2 hc
            refine lv_iload hx hb dX4_touchNow_58 (lv_at hl 4 rfl) ?_
            refine lv_iload_n hx hb dX4_touchNow_60 rfl (lv_at hl 1 rfl) ?_
            refine lv_icmp_eq (tgt := 188) hx hb dX4_touchNow_61 (by decide) (fun hc => ?_) (fun hc => ?_)
            · replace h := h.1 hc
              refine lv_iinc (v := (v4_49 + 1)) (lv' := [(4, .int (v4_49 + 1)), (0, .ref (a 0)), (1, .int v1), (2, .int t0_22), (3, .int (m_nowLeast (Int32.toNatClampNeg v1)))]) hx hb dX4_touchNow_188 hl (k := 4) rfl rfl (by decide) rfl (fun ls hl => ?_)
              refine lv_goto (tgt := 49) hx hb dX4_touchNow_191 (by decide) ?_
              exact ih49 (v4_49 + 1) m_nowGreatest_49 m_nowLeast_49 h _ _ hP hD hS _ (lv_sub hl [1, 2, 3, 4, 0] rfl)
            · replace h := h.2 hc
              refine lv_aload_n hx hb dX4_touchNow_64 rfl (lv_at hl 0 rfl) ?_
              refine lv_iload hx hb dX4_touchNow_65 (lv_at hl 4 rfl) ?_
              refine lv_iload_n hx hb dX4_touchNow_67 rfl (lv_at hl 1 rfl) ?_
              have hF := wz_free hD hS hA
              refine va_calli (va_runV (As := [.int v4_49, .int v1]) (rest := []) ⟨hx, hb, hml, hown, hts⟩ (c_X4_isOfSet l D a cI cZ cJ _ m_thrown m_sets m_ways m_penalty m_blocks m_edges m_pairs m_lines m_isFresh m_isAnswer m_time m_touchMany m_touch m_line m_from m_to m_bound m_pairA m_pairB m_comeTo m_greatest m_least m_nowGreatest_49 m_nowLeast_49 m_does m_mostTime m_leastTime m_countUnit m_flagUnit m_worst m_best m_stack v4_49 v1 _ h) (cwV 2 hts gX4_touchNow_X4_isOfSet rfl rfl rfl (by decide +kernel) ⟨Nat.le_of_ble_eq_true rfl, Nat.le_of_ble_eq_true rfl⟩) ⟨wz_blind, va_recv hK hP (ci := 4) (q0 := 0) rfl rfl, fun U hU hW => wz_at hU hW hP hK hD⟩ rfl rfl hl.1 rfl (lv_room (Nat.le_of_ble_eq_true rfl)) dX4_touchNow_68 ⟨Nat.zero_le _, Nat.zero_le _⟩) hS (fun q _ hq => hF q hq) hF (fun r_68 u t H locs ht hvm h hB hz1 hk1 hS => ?_)
              obtain ⟨hP, -, hD⟩ := wz_back ht hF hB
              have hP : va_P D vwCl (wM a cI cZ cJ m_thrown m_sets m_ways m_penalty m_blocks m_edges m_pairs m_lines m_isFresh m_isAnswer m_time m_touchMany m_touch m_line m_from m_to m_bound m_pairA m_pairB m_comeTo m_greatest m_least m_nowGreatest_49 m_nowLeast_49 m_does m_mostTime m_leastTime m_countUnit m_flagUnit m_worst m_best m_stack) H := hP
              have hD : va_D A (wM a cI cZ cJ m_thrown m_sets m_ways m_penalty m_blocks m_edges m_pairs m_lines m_isFresh m_isAnswer m_time m_touchMany m_touch m_line m_from m_to m_bound m_pairA m_pairB m_comeTo m_greatest m_least m_nowGreatest_49 m_nowLeast_49 m_does m_mostTime m_leastTime m_countUnit m_flagUnit m_worst m_best m_stack) := hD
              refine lv_if_eq (tgt := 188) hx hb dX4_touchNow_71 (by decide) (fun hc => ?_) (fun hc => ?_)
              · replace h := h.1 hc
                refine lv_iinc (v := (v4_49 + 1)) (lv' := [(4, .int (v4_49 + 1)), (0, .ref (a 0)), (1, .int v1), (2, .int t0_22), (3, .int (m_nowLeast (Int32.toNatClampNeg v1)))]) hx hb dX4_touchNow_188 hl (k := 4) rfl rfl (by decide) rfl (fun ls hl => ?_)
                refine lv_goto (tgt := 49) hx hb dX4_touchNow_191 (by decide) ?_
                exact ih49 (v4_49 + 1) m_nowGreatest_49 m_nowLeast_49 h _ _ hP hD hS _ (lv_sub hl [1, 2, 3, 4, 0] rfl)
              · replace h := h.2 hc
                refine lv_aload_n hx hb dX4_touchNow_74 rfl (lv_at hl 0 rfl) ?_
                refine va_get (D := D) (ci := 4) (v := .ref (a 13)) (C := RX4) (T := TX4) (N := 32) hx hb hts hinX4 hown hK hP 0 rfl rfl 21 (by decide) (hts (.fieldLink RX4 47 "WorstPathsModel" "nowGreatest" "[I") (by decide +kernel)) (fun _ h9 => h9) rfl dX4_touchNow_75 ?_
                refine lv_iload hx hb dX4_touchNow_78 (lv_at hl 4 rfl) ?_
                obtain ⟨hq, h⟩ := h
                refine va_iald (D := D) hx hb hK hP 13 0 rfl rfl hq dX4_touchNow_80 ?_
                have JP131 : ∀ (m_nowGreatest_131 : Nat → Int32), jn_X4_touchNow_131 v1 t0_22 (m_nowLeast (Int32.toNatClampNeg v1)) v4_49 m_sets m_ways m_lines m_line m_nowGreatest_131 m_nowLeast_49 (lp_X4_touchNow_49 v1 t0_22 (m_nowLeast (Int32.toNatClampNeg v1)) m_sets m_ways m_lines m_line Q n49) Q → ∀ (H : Heap) (locs : List Loc), va_P D vwCl (wM a cI cZ cJ m_thrown m_sets m_ways m_penalty m_blocks m_edges m_pairs m_lines m_isFresh m_isAnswer m_time m_touchMany m_touch m_line m_from m_to m_bound m_pairA m_pairB m_comeTo m_greatest m_least m_nowGreatest_131 m_nowLeast_49 m_does m_mostTime m_leastTime m_countUnit m_flagUnit m_worst m_best m_stack) H → va_D A (wM a cI cZ cJ m_thrown m_sets m_ways m_penalty m_blocks m_edges m_pairs m_lines m_isFresh m_isAnswer m_time m_touchMany m_touch m_line m_from m_to m_bound m_pairA m_pairB m_comeTo m_greatest m_least m_nowGreatest_131 m_nowLeast_49 m_does m_mostTime m_leastTime m_countUnit m_flagUnit m_worst m_best m_stack) → va_S A s.heap H locs → ∀ (ls : Array Slot), lv_has ls 5 [(0, .ref (a 0)), (1, .int v1), (2, .int t0_22), (3, .int (m_nowLeast (Int32.toNatClampNeg v1))), (4, .int v4_49)] → W p l e (headSpec wsX4_touchNow rm_X4_touchNow).room s m ([Value.ref (a 0), Value.int v1] : List Value).toArray below meth c H locs 0 0 Qz (F0 m 131 ls []) := by
                  intro m_nowGreatest_131 h H locs hP hD hS ls hl
                  unfold jn_X4_touchNow_131 at h
                  refine lv_aload_n hx hb dX4_touchNow_131 rfl (lv_at hl 0 rfl) ?_
                  refine va_get (D := D) (ci := 4) (v := .ref (a 14)) (C := RX4) (T := TX4) (N := 32) hx hb hts hinX4 hown hK hP 0 rfl rfl 22 (by decide) (hts (.fieldLink RX4 50 "WorstPathsModel" "nowLeast" "[I") (by decide +kernel)) (fun _ h9 => h9) rfl dX4_touchNow_132 ?_
                  refine lv_iload hx hb dX4_touchNow_135 (lv_at hl 4 rfl) ?_
                  obtain ⟨hq, h⟩ := h
                  refine va_iald (D := D) hx hb hK hP 14 0 rfl rfl hq dX4_touchNow_137 ?_
                  refine lv_if_lt (tgt := 188) hx hb dX4_touchNow_138 (by decide) (fun hc => ?_) (fun hc => ?_)
                  · replace h := h.1 hc
                    refine lv_iinc (v := (v4_49 + 1)) (lv' := [(4, .int (v4_49 + 1)), (0, .ref (a 0)), (1, .int v1), (2, .int t0_22), (3, .int (m_nowLeast (Int32.toNatClampNeg v1)))]) hx hb dX4_touchNow_188 hl (k := 4) rfl rfl (by decide) rfl (fun ls hl => ?_)
                    refine lv_goto (tgt := 49) hx hb dX4_touchNow_191 (by decide) ?_
                    exact ih49 (v4_49 + 1) m_nowGreatest_131 m_nowLeast_49 h _ _ hP hD hS _ (lv_sub hl [1, 2, 3, 4, 0] rfl)
                  · replace h := h.2 hc
                    refine lv_aload_n hx hb dX4_touchNow_141 rfl (lv_at hl 0 rfl) ?_
                    refine va_get (D := D) (ci := 4) (v := .ref (a 14)) (C := RX4) (T := TX4) (N := 32) hx hb hts hinX4 hown hK hP 0 rfl rfl 22 (by decide) (hts (.fieldLink RX4 50 "WorstPathsModel" "nowLeast" "[I") (by decide +kernel)) (fun _ h9 => h9) rfl dX4_touchNow_142 ?_
                    refine lv_iload hx hb dX4_touchNow_145 (lv_at hl 4 rfl) ?_
                    obtain ⟨hq, h⟩ := h
                    refine va_iald (D := D) hx hb hK hP 14 0 rfl rfl hq dX4_touchNow_147 ?_
                    refine lv_iload_n hx hb dX4_touchNow_148 rfl (lv_at hl 3 rfl) ?_
                    refine lv_icmp_gt (tgt := 188) hx hb dX4_touchNow_149 (by decide) (fun hc => ?_) (fun hc => ?_)
                    · replace h := h.1 hc
                      refine lv_iinc (v := (v4_49 + 1)) (lv' := [(4, .int (v4_49 + 1)), (0, .ref (a 0)), (1, .int v1), (2, .int t0_22), (3, .int (m_nowLeast (Int32.toNatClampNeg v1)))]) hx hb dX4_touchNow_188 hl (k := 4) rfl rfl (by decide) rfl (fun ls hl => ?_)
                      refine lv_goto (tgt := 49) hx hb dX4_touchNow_191 (by decide) ?_
                      exact ih49 (v4_49 + 1) m_nowGreatest_131 m_nowLeast_49 h _ _ hP hD hS _ (lv_sub hl [1, 2, 3, 4, 0] rfl)
                    · replace h := h.2 hc
                      refine lv_aload_n hx hb dX4_touchNow_152 rfl (lv_at hl 0 rfl) ?_
                      refine va_get (D := D) (ci := 4) (v := .ref (a 14)) (C := RX4) (T := TX4) (N := 32) hx hb hts hinX4 hown hK hP 0 rfl rfl 22 (by decide) (hts (.fieldLink RX4 50 "WorstPathsModel" "nowLeast" "[I") (by decide +kernel)) (fun _ h9 => h9) rfl dX4_touchNow_153 ?_
                      refine lv_iload hx hb dX4_touchNow_156 (lv_at hl 4 rfl) ?_
                      refine lv_aload_n hx hb dX4_touchNow_158 rfl (lv_at hl 0 rfl) ?_
                      refine va_get (D := D) (ci := 4) (v := .ref (a 14)) (C := RX4) (T := TX4) (N := 32) hx hb hts hinX4 hown hK hP 0 rfl rfl 22 (by decide) (hts (.fieldLink RX4 50 "WorstPathsModel" "nowLeast" "[I") (by decide +kernel)) (fun _ h9 => h9) rfl dX4_touchNow_159 ?_
                      refine lv_iload hx hb dX4_touchNow_162 (lv_at hl 4 rfl) ?_
                      obtain ⟨hq, h⟩ := h
                      refine va_iald (D := D) hx hb hK hP 14 0 rfl rfl hq dX4_touchNow_164 ?_
                      refine lv_iconst (v := 1) hx hb dX4_touchNow_165 (by decide) ?_
                      refine lv_iadd hx hb dX4_touchNow_166 ?_
                      refine lv_aload_n hx hb dX4_touchNow_167 rfl (lv_at hl 0 rfl) ?_
                      refine va_get (D := D) (ci := 4) (v := .int m_ways) (C := RX4) (T := TX4) (N := 32) hx hb hts hinX4 hown hK hP 0 rfl rfl 2 (by decide) (hts (.fieldLink RX4 88 "WorstPathsModel" "ways" "I") (by decide +kernel)) (fun _ h9 => h9) rfl dX4_touchNow_168 ?_
                      refine lv_icmp_ge (tgt := 186) hx hb dX4_touchNow_171 (by decide) (fun hc => ?_) (fun hc => ?_)
                      · replace h := h.1 hc
                        refine lv_iconst (v := (-1)) hx hb dX4_touchNow_186 (by decide) ?_
                        obtain ⟨hq, h⟩ := h
                        refine va_iast (D := D) hx hb hK hP hD hS 14 0 rfl rfl hq dX4_touchNow_187 (fun H locs hP hD hS => ?_)
                        have hP : va_P D vwCl (wM a cI cZ cJ m_thrown m_sets m_ways m_penalty m_blocks m_edges m_pairs m_lines m_isFresh m_isAnswer m_time m_touchMany m_touch m_line m_from m_to m_bound m_pairA m_pairB m_comeTo m_greatest m_least m_nowGreatest_131 (upd m_nowLeast_49 (Int32.toNatClampNeg v4_49) (-1)) m_does m_mostTime m_leastTime m_countUnit m_flagUnit m_worst m_best m_stack) H := hP
                        have hD : va_D A (wM a cI cZ cJ m_thrown m_sets m_ways m_penalty m_blocks m_edges m_pairs m_lines m_isFresh m_isAnswer m_time m_touchMany m_touch m_line m_from m_to m_bound m_pairA m_pairB m_comeTo m_greatest m_least m_nowGreatest_131 (upd m_nowLeast_49 (Int32.toNatClampNeg v4_49) (-1)) m_does m_mostTime m_leastTime m_countUnit m_flagUnit m_worst m_best m_stack) := hD
                        refine lv_iinc (v := (v4_49 + 1)) (lv' := [(4, .int (v4_49 + 1)), (0, .ref (a 0)), (1, .int v1), (2, .int t0_22), (3, .int (m_nowLeast (Int32.toNatClampNeg v1)))]) hx hb dX4_touchNow_188 hl (k := 4) rfl rfl (by decide) rfl (fun ls hl => ?_)
                        refine lv_goto (tgt := 49) hx hb dX4_touchNow_191 (by decide) ?_
                        exact ih49 (v4_49 + 1) m_nowGreatest_131 (upd m_nowLeast_49 (Int32.toNatClampNeg v4_49) (-1)) h _ _ hP hD hS _ (lv_sub hl [1, 2, 3, 4, 0] rfl)
                      · replace h := h.2 hc
                        refine lv_aload_n hx hb dX4_touchNow_174 rfl (lv_at hl 0 rfl) ?_
                        refine va_get (D := D) (ci := 4) (v := .ref (a 14)) (C := RX4) (T := TX4) (N := 32) hx hb hts hinX4 hown hK hP 0 rfl rfl 22 (by decide) (hts (.fieldLink RX4 50 "WorstPathsModel" "nowLeast" "[I") (by decide +kernel)) (fun _ h9 => h9) rfl dX4_touchNow_175 ?_
                        refine lv_iload hx hb dX4_touchNow_178 (lv_at hl 4 rfl) ?_
                        obtain ⟨hq, h⟩ := h
                        refine va_iald (D := D) hx hb hK hP 14 0 rfl rfl hq dX4_touchNow_180 ?_
                        refine lv_iconst (v := 1) hx hb dX4_touchNow_181 (by decide) ?_
                        refine lv_iadd hx hb dX4_touchNow_182 ?_
                        refine lv_goto (tgt := 187) hx hb dX4_touchNow_183 (by decide) ?_
                        obtain ⟨hq, h⟩ := h
                        refine va_iast (D := D) hx hb hK hP hD hS 14 0 rfl rfl hq dX4_touchNow_187 (fun H locs hP hD hS => ?_)
                        have hP : va_P D vwCl (wM a cI cZ cJ m_thrown m_sets m_ways m_penalty m_blocks m_edges m_pairs m_lines m_isFresh m_isAnswer m_time m_touchMany m_touch m_line m_from m_to m_bound m_pairA m_pairB m_comeTo m_greatest m_least m_nowGreatest_131 (upd m_nowLeast_49 (Int32.toNatClampNeg v4_49) ((m_nowLeast_49 (Int32.toNatClampNeg v4_49)) + 1)) m_does m_mostTime m_leastTime m_countUnit m_flagUnit m_worst m_best m_stack) H := hP
                        have hD : va_D A (wM a cI cZ cJ m_thrown m_sets m_ways m_penalty m_blocks m_edges m_pairs m_lines m_isFresh m_isAnswer m_time m_touchMany m_touch m_line m_from m_to m_bound m_pairA m_pairB m_comeTo m_greatest m_least m_nowGreatest_131 (upd m_nowLeast_49 (Int32.toNatClampNeg v4_49) ((m_nowLeast_49 (Int32.toNatClampNeg v4_49)) + 1)) m_does m_mostTime m_leastTime m_countUnit m_flagUnit m_worst m_best m_stack) := hD
                        refine lv_iinc (v := (v4_49 + 1)) (lv' := [(4, .int (v4_49 + 1)), (0, .ref (a 0)), (1, .int v1), (2, .int t0_22), (3, .int (m_nowLeast (Int32.toNatClampNeg v1)))]) hx hb dX4_touchNow_188 hl (k := 4) rfl rfl (by decide) rfl (fun ls hl => ?_)
                        refine lv_goto (tgt := 49) hx hb dX4_touchNow_191 (by decide) ?_
                        exact ih49 (v4_49 + 1) m_nowGreatest_131 (upd m_nowLeast_49 (Int32.toNatClampNeg v4_49) ((m_nowLeast_49 (Int32.toNatClampNeg v4_49)) + 1)) h _ _ hP hD hS _ (lv_sub hl [1, 2, 3, 4, 0] rfl)
                refine lv_if_lt (tgt := 131) hx hb dX4_touchNow_81 (by decide) (fun hc => ?_) (fun hc => ?_)
                · replace h := h.1 hc
                  exact JP131 m_nowGreatest_49 h _ _ hP hD hS _ (lv_sub hl [0, 1, 2, 3, 4] rfl)
                · replace h := h.2 hc
                  refine lv_aload_n hx hb dX4_touchNow_84 rfl (lv_at hl 0 rfl) ?_
                  refine va_get (D := D) (ci := 4) (v := .ref (a 13)) (C := RX4) (T := TX4) (N := 32) hx hb hts hinX4 hown hK hP 0 rfl rfl 21 (by decide) (hts (.fieldLink RX4 47 "WorstPathsModel" "nowGreatest" "[I") (by decide +kernel)) (fun _ h9 => h9) rfl dX4_touchNow_85 ?_
                  refine lv_iload hx hb dX4_touchNow_88 (lv_at hl 4 rfl) ?_
                  obtain ⟨hq, h⟩ := h
                  refine va_iald (D := D) hx hb hK hP 13 0 rfl rfl hq dX4_touchNow_90 ?_
                  refine lv_iload_n hx hb dX4_touchNow_91 rfl (lv_at hl 2 rfl) ?_
                  refine lv_icmp_ge (tgt := 131) hx hb dX4_touchNow_92 (by decide) (fun hc => ?_) (fun hc => ?_)
                  · replace h := h.1 hc
                    exact JP131 m_nowGreatest_49 h _ _ hP hD hS _ (lv_sub hl [0, 1, 2, 3, 4] rfl)
                  · replace h := h.2 hc
                    refine lv_aload_n hx hb dX4_touchNow_95 rfl (lv_at hl 0 rfl) ?_
                    refine va_get (D := D) (ci := 4) (v := .ref (a 13)) (C := RX4) (T := TX4) (N := 32) hx hb hts hinX4 hown hK hP 0 rfl rfl 21 (by decide) (hts (.fieldLink RX4 47 "WorstPathsModel" "nowGreatest" "[I") (by decide +kernel)) (fun _ h9 => h9) rfl dX4_touchNow_96 ?_
                    refine lv_iload hx hb dX4_touchNow_99 (lv_at hl 4 rfl) ?_
                    refine lv_aload_n hx hb dX4_touchNow_101 rfl (lv_at hl 0 rfl) ?_
                    refine va_get (D := D) (ci := 4) (v := .ref (a 13)) (C := RX4) (T := TX4) (N := 32) hx hb hts hinX4 hown hK hP 0 rfl rfl 21 (by decide) (hts (.fieldLink RX4 47 "WorstPathsModel" "nowGreatest" "[I") (by decide +kernel)) (fun _ h9 => h9) rfl dX4_touchNow_102 ?_
                    refine lv_iload hx hb dX4_touchNow_105 (lv_at hl 4 rfl) ?_
                    obtain ⟨hq, h⟩ := h
                    refine va_iald (D := D) hx hb hK hP 13 0 rfl rfl hq dX4_touchNow_107 ?_
                    refine lv_iconst (v := 1) hx hb dX4_touchNow_108 (by decide) ?_
                    refine lv_iadd hx hb dX4_touchNow_109 ?_
                    refine lv_aload_n hx hb dX4_touchNow_110 rfl (lv_at hl 0 rfl) ?_
                    refine va_get (D := D) (ci := 4) (v := .int m_ways) (C := RX4) (T := TX4) (N := 32) hx hb hts hinX4 hown hK hP 0 rfl rfl 2 (by decide) (hts (.fieldLink RX4 88 "WorstPathsModel" "ways" "I") (by decide +kernel)) (fun _ h9 => h9) rfl dX4_touchNow_111 ?_
                    refine lv_icmp_ge (tgt := 129) hx hb dX4_touchNow_114 (by decide) (fun hc => ?_) (fun hc => ?_)
                    · replace h := h.1 hc
                      refine lv_iconst (v := (-1)) hx hb dX4_touchNow_129 (by decide) ?_
                      obtain ⟨hq, h⟩ := h
                      refine va_iast (D := D) hx hb hK hP hD hS 13 0 rfl rfl hq dX4_touchNow_130 (fun H locs hP hD hS => ?_)
                      have hP : va_P D vwCl (wM a cI cZ cJ m_thrown m_sets m_ways m_penalty m_blocks m_edges m_pairs m_lines m_isFresh m_isAnswer m_time m_touchMany m_touch m_line m_from m_to m_bound m_pairA m_pairB m_comeTo m_greatest m_least (upd m_nowGreatest_49 (Int32.toNatClampNeg v4_49) (-1)) m_nowLeast_49 m_does m_mostTime m_leastTime m_countUnit m_flagUnit m_worst m_best m_stack) H := hP
                      have hD : va_D A (wM a cI cZ cJ m_thrown m_sets m_ways m_penalty m_blocks m_edges m_pairs m_lines m_isFresh m_isAnswer m_time m_touchMany m_touch m_line m_from m_to m_bound m_pairA m_pairB m_comeTo m_greatest m_least (upd m_nowGreatest_49 (Int32.toNatClampNeg v4_49) (-1)) m_nowLeast_49 m_does m_mostTime m_leastTime m_countUnit m_flagUnit m_worst m_best m_stack) := hD
                      exact JP131 (upd m_nowGreatest_49 (Int32.toNatClampNeg v4_49) (-1)) h _ _ hP hD hS _ (lv_sub hl [0, 1, 2, 3, 4] rfl)
                    · replace h := h.2 hc
                      refine lv_aload_n hx hb dX4_touchNow_117 rfl (lv_at hl 0 rfl) ?_
                      refine va_get (D := D) (ci := 4) (v := .ref (a 13)) (C := RX4) (T := TX4) (N := 32) hx hb hts hinX4 hown hK hP 0 rfl rfl 21 (by decide) (hts (.fieldLink RX4 47 "WorstPathsModel" "nowGreatest" "[I") (by decide +kernel)) (fun _ h9 => h9) rfl dX4_touchNow_118 ?_
                      refine lv_iload hx hb dX4_touchNow_121 (lv_at hl 4 rfl) ?_
                      obtain ⟨hq, h⟩ := h
                      refine va_iald (D := D) hx hb hK hP 13 0 rfl rfl hq dX4_touchNow_123 ?_
                      refine lv_iconst (v := 1) hx hb dX4_touchNow_124 (by decide) ?_
                      refine lv_iadd hx hb dX4_touchNow_125 ?_
                      refine lv_goto (tgt := 130) hx hb dX4_touchNow_126 (by decide) ?_
                      obtain ⟨hq, h⟩ := h
                      refine va_iast (D := D) hx hb hK hP hD hS 13 0 rfl rfl hq dX4_touchNow_130 (fun H locs hP hD hS => ?_)
                      have hP : va_P D vwCl (wM a cI cZ cJ m_thrown m_sets m_ways m_penalty m_blocks m_edges m_pairs m_lines m_isFresh m_isAnswer m_time m_touchMany m_touch m_line m_from m_to m_bound m_pairA m_pairB m_comeTo m_greatest m_least (upd m_nowGreatest_49 (Int32.toNatClampNeg v4_49) ((m_nowGreatest_49 (Int32.toNatClampNeg v4_49)) + 1)) m_nowLeast_49 m_does m_mostTime m_leastTime m_countUnit m_flagUnit m_worst m_best m_stack) H := hP
                      have hD : va_D A (wM a cI cZ cJ m_thrown m_sets m_ways m_penalty m_blocks m_edges m_pairs m_lines m_isFresh m_isAnswer m_time m_touchMany m_touch m_line m_from m_to m_bound m_pairA m_pairB m_comeTo m_greatest m_least (upd m_nowGreatest_49 (Int32.toNatClampNeg v4_49) ((m_nowGreatest_49 (Int32.toNatClampNeg v4_49)) + 1)) m_nowLeast_49 m_does m_mostTime m_leastTime m_countUnit m_flagUnit m_worst m_best m_stack) := hD
                      exact JP131 (upd m_nowGreatest_49 (Int32.toNatClampNeg v4_49) ((m_nowGreatest_49 (Int32.toNatClampNeg v4_49)) + 1)) h _ _ hP hD hS _ (lv_sub hl [0, 1, 2, 3, 4] rfl)
      obtain ⟨k9, h⟩ := h
      exact LP49 k9 0 m_nowGreatest m_nowLeast h _ _ hP hD hS _ (lv_sub hl [3, 4, 2, 1, 0] rfl)
    · replace h := h.2 hc
      refine lv_aload_n hx hb dX4_touchNow_32 rfl (lv_at hl 1 rfl) ?_
      refine va_get (D := D) (ci := 4) (v := .int m_ways) (C := RX4) (T := TX4) (N := 32) hx hb hts hinX4 hown hK hP 0 rfl rfl 2 (by decide) (hts (.fieldLink RX4 88 "WorstPathsModel" "ways" "I") (by decide +kernel)) (fun _ h9 => h9) rfl dX4_touchNow_33 ?_
      refine lv_goto (tgt := 45) hx hb dX4_touchNow_36 (by decide) ?_
      refine lv_istore_n (lv' := [(3, .int m_ways), (2, .int t0_22), (0, .ref (a 0)), (1, .int v1)]) hx hb dX4_touchNow_45 rfl hl (by decide) rfl (fun ls hl => ?_)
      refine lv_iconst (v := 0) hx hb dX4_touchNow_46 (by decide) ?_
      refine lv_istore (lv' := [(4, .int 0), (3, .int m_ways), (2, .int t0_22), (0, .ref (a 0)), (1, .int v1)]) hx hb dX4_touchNow_47 hl (by decide) rfl (fun ls hl => ?_)
      have LP49 : ∀ (n49 : Nat) (v4_49 : Int32) (m_nowGreatest_49 : Nat → Int32) (m_nowLeast_49 : Nat → Int32), lp_X4_touchNow_49 v1 t0_22 m_ways m_sets m_ways m_lines m_line Q n49 v4_49 m_nowGreatest_49 m_nowLeast_49 → ∀ (H : Heap) (locs : List Loc), va_P D vwCl (wM a cI cZ cJ m_thrown m_sets m_ways m_penalty m_blocks m_edges m_pairs m_lines m_isFresh m_isAnswer m_time m_touchMany m_touch m_line m_from m_to m_bound m_pairA m_pairB m_comeTo m_greatest m_least m_nowGreatest_49 m_nowLeast_49 m_does m_mostTime m_leastTime m_countUnit m_flagUnit m_worst m_best m_stack) H → va_D A (wM a cI cZ cJ m_thrown m_sets m_ways m_penalty m_blocks m_edges m_pairs m_lines m_isFresh m_isAnswer m_time m_touchMany m_touch m_line m_from m_to m_bound m_pairA m_pairB m_comeTo m_greatest m_least m_nowGreatest_49 m_nowLeast_49 m_does m_mostTime m_leastTime m_countUnit m_flagUnit m_worst m_best m_stack) → va_S A s.heap H locs → ∀ (ls : Array Slot), lv_has ls 5 [(0, .ref (a 0)), (1, .int v1), (2, .int t0_22), (3, .int m_ways), (4, .int v4_49)] → W p l e (headSpec wsX4_touchNow rm_X4_touchNow).room s m ([Value.ref (a 0), Value.int v1] : List Value).toArray below meth c H locs 0 0 Qz (F0 m 49 ls []) := by
        intro n49
        induction n49 with
        | zero => intro v4_49 m_nowGreatest_49 m_nowLeast_49 h; exact h.elim
        | succ n49 ih49 =>
          intro v4_49 m_nowGreatest_49 m_nowLeast_49 h H locs hP hD hS ls hl
          unfold lp_X4_touchNow_49 at h
          refine lv_iload hx hb dX4_touchNow_49 (lv_at hl 4 rfl) ?_
          refine lv_aload_n hx hb dX4_touchNow_51 rfl (lv_at hl 0 rfl) ?_
          refine va_get (D := D) (ci := 4) (v := .int m_lines) (C := RX4) (T := TX4) (N := 32) hx hb hts hinX4 hown hK hP 0 rfl rfl 7 (by decide) (hts (.fieldLink RX4 113 "WorstPathsModel" "lines" "I") (by decide +kernel)) (fun _ h9 => h9) rfl dX4_touchNow_52 ?_
          refine lv_icmp_ge (tgt := 194) hx hb dX4_touchNow_55 (by decide) (fun hc => ?_) (fun hc => ?_)
          · replace h := h.1 hc
            refine lv_aload_n hx hb dX4_touchNow_194 rfl (lv_at hl 0 rfl) ?_
            refine va_get (D := D) (ci := 4) (v := .ref (a 13)) (C := RX4) (T := TX4) (N := 32) hx hb hts hinX4 hown hK hP 0 rfl rfl 21 (by decide) (hts (.fieldLink RX4 47 "WorstPathsModel" "nowGreatest" "[I") (by decide +kernel)) (fun _ h9 => h9) rfl dX4_touchNow_195 ?_
            refine lv_iload_n hx hb dX4_touchNow_198 rfl (lv_at hl 1 rfl) ?_
            refine lv_iconst (v := 0) hx hb dX4_touchNow_199 (by decide) ?_
            obtain ⟨hq, h⟩ := h
            refine va_iast (D := D) hx hb hK hP hD hS 13 0 rfl rfl hq dX4_touchNow_200 (fun H locs hP hD hS => ?_)
            have hP : va_P D vwCl (wM a cI cZ cJ m_thrown m_sets m_ways m_penalty m_blocks m_edges m_pairs m_lines m_isFresh m_isAnswer m_time m_touchMany m_touch m_line m_from m_to m_bound m_pairA m_pairB m_comeTo m_greatest m_least (upd m_nowGreatest_49 (Int32.toNatClampNeg v1) 0) m_nowLeast_49 m_does m_mostTime m_leastTime m_countUnit m_flagUnit m_worst m_best m_stack) H := hP
            have hD : va_D A (wM a cI cZ cJ m_thrown m_sets m_ways m_penalty m_blocks m_edges m_pairs m_lines m_isFresh m_isAnswer m_time m_touchMany m_touch m_line m_from m_to m_bound m_pairA m_pairB m_comeTo m_greatest m_least (upd m_nowGreatest_49 (Int32.toNatClampNeg v1) 0) m_nowLeast_49 m_does m_mostTime m_leastTime m_countUnit m_flagUnit m_worst m_best m_stack) := hD
            refine lv_aload_n hx hb dX4_touchNow_201 rfl (lv_at hl 0 rfl) ?_
            refine va_get (D := D) (ci := 4) (v := .ref (a 14)) (C := RX4) (T := TX4) (N := 32) hx hb hts hinX4 hown hK hP 0 rfl rfl 22 (by decide) (hts (.fieldLink RX4 50 "WorstPathsModel" "nowLeast" "[I") (by decide +kernel)) (fun _ h9 => h9) rfl dX4_touchNow_202 ?_
            refine lv_iload_n hx hb dX4_touchNow_205 rfl (lv_at hl 1 rfl) ?_
            refine lv_iconst (v := 0) hx hb dX4_touchNow_206 (by decide) ?_
            obtain ⟨hq, h⟩ := h
            refine va_iast (D := D) hx hb hK hP hD hS 14 0 rfl rfl hq dX4_touchNow_207 (fun H locs hP hD hS => ?_)
            have hP : va_P D vwCl (wM a cI cZ cJ m_thrown m_sets m_ways m_penalty m_blocks m_edges m_pairs m_lines m_isFresh m_isAnswer m_time m_touchMany m_touch m_line m_from m_to m_bound m_pairA m_pairB m_comeTo m_greatest m_least (upd m_nowGreatest_49 (Int32.toNatClampNeg v1) 0) (upd m_nowLeast_49 (Int32.toNatClampNeg v1) 0) m_does m_mostTime m_leastTime m_countUnit m_flagUnit m_worst m_best m_stack) H := hP
            have hD : va_D A (wM a cI cZ cJ m_thrown m_sets m_ways m_penalty m_blocks m_edges m_pairs m_lines m_isFresh m_isAnswer m_time m_touchMany m_touch m_line m_from m_to m_bound m_pairA m_pairB m_comeTo m_greatest m_least (upd m_nowGreatest_49 (Int32.toNatClampNeg v1) 0) (upd m_nowLeast_49 (Int32.toNatClampNeg v1) 0) m_does m_mostTime m_leastTime m_countUnit m_flagUnit m_worst m_best m_stack) := hD
            refine wz_mono hQz ?_
            exact W.vret hx hb hr (fun t ht hW => ⟨⟨((upd m_nowGreatest_49 (Int32.toNatClampNeg v1) 0), (upd m_nowLeast_49 (Int32.toNatClampNeg v1) 0)), rfl, h, by rw [ht]; exact hP, va_K.moved hW.alike hK, hD⟩, hS.F ht⟩) hS.2.2 dX4_touchNow_208
          · replace h := h.2 hc
            refine lv_iload hx hb dX4_touchNow_58 (lv_at hl 4 rfl) ?_
            refine lv_iload_n hx hb dX4_touchNow_60 rfl (lv_at hl 1 rfl) ?_
            refine lv_icmp_eq (tgt := 188) hx hb dX4_touchNow_61 (by decide) (fun hc => ?_) (fun hc => ?_)
            · replace h := h.1 hc
              refine lv_iinc (v := (v4_49 + 1)) (lv' := [(4, .int (v4_49 + 1)), (0, .ref (a 0)), (1, .int v1), (2, .int t0_22), (3, .int m_ways)]) hx hb dX4_touchNow_188 hl (k := 4) rfl rfl (by decide) rfl (fun ls hl => ?_)
              refine lv_goto (tgt := 49) hx hb dX4_touchNow_191 (by decide) ?_
              exact ih49 (v4_49 + 1) m_nowGreatest_49 m_nowLeast_49 h _ _ hP hD hS _ (lv_sub hl [1, 2, 3, 4, 0] rfl)
            · replace h := h.2 hc
              refine lv_aload_n hx hb dX4_touchNow_64 rfl (lv_at hl 0 rfl) ?_
              refine lv_iload hx hb dX4_touchNow_65 (lv_at hl 4 rfl) ?_
              refine lv_iload_n hx hb dX4_touchNow_67 rfl (lv_at hl 1 rfl) ?_
              have hF := wz_free hD hS hA
              refine va_calli (va_runV (As := [.int v4_49, .int v1]) (rest := []) ⟨hx, hb, hml, hown, hts⟩ (c_X4_isOfSet l D a cI cZ cJ _ m_thrown m_sets m_ways m_penalty m_blocks m_edges m_pairs m_lines m_isFresh m_isAnswer m_time m_touchMany m_touch m_line m_from m_to m_bound m_pairA m_pairB m_comeTo m_greatest m_least m_nowGreatest_49 m_nowLeast_49 m_does m_mostTime m_leastTime m_countUnit m_flagUnit m_worst m_best m_stack v4_49 v1 _ h) (cwV 2 hts gX4_touchNow_X4_isOfSet rfl rfl rfl (by decide +kernel) ⟨Nat.le_of_ble_eq_true rfl, Nat.le_of_ble_eq_true rfl⟩) ⟨wz_blind, va_recv hK hP (ci := 4) (q0 := 0) rfl rfl, fun U hU hW => wz_at hU hW hP hK hD⟩ rfl rfl hl.1 rfl (lv_room (Nat.le_of_ble_eq_true rfl)) dX4_touchNow_68 ⟨Nat.zero_le _, Nat.zero_le _⟩) hS (fun q _ hq => hF q hq) hF (fun r_68 u t H locs ht hvm h hB hz1 hk1 hS => ?_)
              obtain ⟨hP, -, hD⟩ := wz_back ht hF hB
              have hP : va_P D vwCl (wM a cI cZ cJ m_thrown m_sets m_ways m_penalty m_blocks m_edges m_pairs m_lines m_isFresh m_isAnswer m_time m_touchMany m_touch m_line m_from m_to m_bound m_pairA m_pairB m_comeTo m_greatest m_least m_nowGreatest_49 m_nowLeast_49 m_does m_mostTime m_leastTime m_countUnit m_flagUnit m_worst m_best m_stack) H := hP
              have hD : va_D A (wM a cI cZ cJ m_thrown m_sets m_ways m_penalty m_blocks m_edges m_pairs m_lines m_isFresh m_isAnswer m_time m_touchMany m_touch m_line m_from m_to m_bound m_pairA m_pairB m_comeTo m_greatest m_least m_nowGreatest_49 m_nowLeast_49 m_does m_mostTime m_leastTime m_countUnit m_flagUnit m_worst m_best m_stack) := hD
              refine lv_if_eq (tgt := 188) hx hb dX4_touchNow_71 (by decide) (fun hc => ?_) (fun hc => ?_)
              · replace h := h.1 hc
                refine lv_iinc (v := (v4_49 + 1)) (lv' := [(4, .int (v4_49 + 1)), (0, .ref (a 0)), (1, .int v1), (2, .int t0_22), (3, .int m_ways)]) hx hb dX4_touchNow_188 hl (k := 4) rfl rfl (by decide) rfl (fun ls hl => ?_)
                refine lv_goto (tgt := 49) hx hb dX4_touchNow_191 (by decide) ?_
                exact ih49 (v4_49 + 1) m_nowGreatest_49 m_nowLeast_49 h _ _ hP hD hS _ (lv_sub hl [1, 2, 3, 4, 0] rfl)
              · replace h := h.2 hc
                refine lv_aload_n hx hb dX4_touchNow_74 rfl (lv_at hl 0 rfl) ?_
                refine va_get (D := D) (ci := 4) (v := .ref (a 13)) (C := RX4) (T := TX4) (N := 32) hx hb hts hinX4 hown hK hP 0 rfl rfl 21 (by decide) (hts (.fieldLink RX4 47 "WorstPathsModel" "nowGreatest" "[I") (by decide +kernel)) (fun _ h9 => h9) rfl dX4_touchNow_75 ?_
                refine lv_iload hx hb dX4_touchNow_78 (lv_at hl 4 rfl) ?_
                obtain ⟨hq, h⟩ := h
                refine va_iald (D := D) hx hb hK hP 13 0 rfl rfl hq dX4_touchNow_80 ?_
                have JP131 : ∀ (m_nowGreatest_131 : Nat → Int32), jn_X4_touchNow_131 v1 t0_22 m_ways v4_49 m_sets m_ways m_lines m_line m_nowGreatest_131 m_nowLeast_49 (lp_X4_touchNow_49 v1 t0_22 m_ways m_sets m_ways m_lines m_line Q n49) Q → ∀ (H : Heap) (locs : List Loc), va_P D vwCl (wM a cI cZ cJ m_thrown m_sets m_ways m_penalty m_blocks m_edges m_pairs m_lines m_isFresh m_isAnswer m_time m_touchMany m_touch m_line m_from m_to m_bound m_pairA m_pairB m_comeTo m_greatest m_least m_nowGreatest_131 m_nowLeast_49 m_does m_mostTime m_leastTime m_countUnit m_flagUnit m_worst m_best m_stack) H → va_D A (wM a cI cZ cJ m_thrown m_sets m_ways m_penalty m_blocks m_edges m_pairs m_lines m_isFresh m_isAnswer m_time m_touchMany m_touch m_line m_from m_to m_bound m_pairA m_pairB m_comeTo m_greatest m_least m_nowGreatest_131 m_nowLeast_49 m_does m_mostTime m_leastTime m_countUnit m_flagUnit m_worst m_best m_stack) → va_S A s.heap H locs → ∀ (ls : Array Slot), lv_has ls 5 [(0, .ref (a 0)), (1, .int v1), (2, .int t0_22), (3, .int m_ways), (4, .int v4_49)] → W p l e (headSpec wsX4_touchNow rm_X4_touchNow).room s m ([Value.ref (a 0), Value.int v1] : List Value).toArray below meth c H locs 0 0 Qz (F0 m 131 ls []) := by
                  intro m_nowGreatest_131 h H locs hP hD hS ls hl
                  unfold jn_X4_touchNow_131 at h
                  refine lv_aload_n hx hb dX4_touchNow_131 rfl (lv_at hl 0 rfl) ?_
                  refine va_get (D := D) (ci := 4) (v := .ref (a 14)) (C := RX4) (T := TX4) (N := 32) hx hb hts hinX4 hown hK hP 0 rfl rfl 22 (by decide) (hts (.fieldLink RX4 50 "WorstPathsModel" "nowLeast" "[I") (by decide +kernel)) (fun _ h9 => h9) rfl dX4_touchNow_132 ?_
                  refine lv_iload hx hb dX4_touchNow_135 (lv_at hl 4 rfl) ?_
                  obtain ⟨hq, h⟩ := h
                  refine va_iald (D := D) hx hb hK hP 14 0 rfl rfl hq dX4_touchNow_137 ?_
                  refine lv_if_lt (tgt := 188) hx hb dX4_touchNow_138 (by decide) (fun hc => ?_) (fun hc => ?_)
                  · replace h := h.1 hc
                    refine lv_iinc (v := (v4_49 + 1)) (lv' := [(4, .int (v4_49 + 1)), (0, .ref (a 0)), (1, .int v1), (2, .int t0_22), (3, .int m_ways)]) hx hb dX4_touchNow_188 hl (k := 4) rfl rfl (by decide) rfl (fun ls hl => ?_)
                    refine lv_goto (tgt := 49) hx hb dX4_touchNow_191 (by decide) ?_
                    exact ih49 (v4_49 + 1) m_nowGreatest_131 m_nowLeast_49 h _ _ hP hD hS _ (lv_sub hl [1, 2, 3, 4, 0] rfl)
                  · replace h := h.2 hc
                    refine lv_aload_n hx hb dX4_touchNow_141 rfl (lv_at hl 0 rfl) ?_
                    refine va_get (D := D) (ci := 4) (v := .ref (a 14)) (C := RX4) (T := TX4) (N := 32) hx hb hts hinX4 hown hK hP 0 rfl rfl 22 (by decide) (hts (.fieldLink RX4 50 "WorstPathsModel" "nowLeast" "[I") (by decide +kernel)) (fun _ h9 => h9) rfl dX4_touchNow_142 ?_
                    refine lv_iload hx hb dX4_touchNow_145 (lv_at hl 4 rfl) ?_
                    obtain ⟨hq, h⟩ := h
                    refine va_iald (D := D) hx hb hK hP 14 0 rfl rfl hq dX4_touchNow_147 ?_
                    refine lv_iload_n hx hb dX4_touchNow_148 rfl (lv_at hl 3 rfl) ?_
                    refine lv_icmp_gt (tgt := 188) hx hb dX4_touchNow_149 (by decide) (fun hc => ?_) (fun hc => ?_)
                    · replace h := h.1 hc
                      refine lv_iinc (v := (v4_49 + 1)) (lv' := [(4, .int (v4_49 + 1)), (0, .ref (a 0)), (1, .int v1), (2, .int t0_22), (3, .int m_ways)]) hx hb dX4_touchNow_188 hl (k := 4) rfl rfl (by decide) rfl (fun ls hl => ?_)
                      refine lv_goto (tgt := 49) hx hb dX4_touchNow_191 (by decide) ?_
                      exact ih49 (v4_49 + 1) m_nowGreatest_131 m_nowLeast_49 h _ _ hP hD hS _ (lv_sub hl [1, 2, 3, 4, 0] rfl)
                    · replace h := h.2 hc
                      refine lv_aload_n hx hb dX4_touchNow_152 rfl (lv_at hl 0 rfl) ?_
                      refine va_get (D := D) (ci := 4) (v := .ref (a 14)) (C := RX4) (T := TX4) (N := 32) hx hb hts hinX4 hown hK hP 0 rfl rfl 22 (by decide) (hts (.fieldLink RX4 50 "WorstPathsModel" "nowLeast" "[I") (by decide +kernel)) (fun _ h9 => h9) rfl dX4_touchNow_153 ?_
                      refine lv_iload hx hb dX4_touchNow_156 (lv_at hl 4 rfl) ?_
                      refine lv_aload_n hx hb dX4_touchNow_158 rfl (lv_at hl 0 rfl) ?_
                      refine va_get (D := D) (ci := 4) (v := .ref (a 14)) (C := RX4) (T := TX4) (N := 32) hx hb hts hinX4 hown hK hP 0 rfl rfl 22 (by decide) (hts (.fieldLink RX4 50 "WorstPathsModel" "nowLeast" "[I") (by decide +kernel)) (fun _ h9 => h9) rfl dX4_touchNow_159 ?_
                      refine lv_iload hx hb dX4_touchNow_162 (lv_at hl 4 rfl) ?_
                      obtain ⟨hq, h⟩ := h
                      refine va_iald (D := D) hx hb hK hP 14 0 rfl rfl hq dX4_touchNow_164 ?_
                      refine lv_iconst (v := 1) hx hb dX4_touchNow_165 (by decide) ?_
                      refine lv_iadd hx hb dX4_touchNow_166 ?_
                      refine lv_aload_n hx hb dX4_touchNow_167 rfl (lv_at hl 0 rfl) ?_
                      refine va_get (D := D) (ci := 4) (v := .int m_ways) (C := RX4) (T := TX4) (N := 32) hx hb hts hinX4 hown hK hP 0 rfl rfl 2 (by decide) (hts (.fieldLink RX4 88 "WorstPathsModel" "ways" "I") (by decide +kernel)) (fun _ h9 => h9) rfl dX4_touchNow_168 ?_
                      refine lv_icmp_ge (tgt := 186) hx hb dX4_touchNow_171 (by decide) (fun hc => ?_) (fun hc => ?_)
                      · replace h := h.1 hc
                        refine lv_iconst (v := (-1)) hx hb dX4_touchNow_186 (by decide) ?_
                        obtain ⟨hq, h⟩ := h
                        refine va_iast (D := D) hx hb hK hP hD hS 14 0 rfl rfl hq dX4_touchNow_187 (fun H locs hP hD hS => ?_)
                        have hP : va_P D vwCl (wM a cI cZ cJ m_thrown m_sets m_ways m_penalty m_blocks m_edges m_pairs m_lines m_isFresh m_isAnswer m_time m_touchMany m_touch m_line m_from m_to m_bound m_pairA m_pairB m_comeTo m_greatest m_least m_nowGreatest_131 (upd m_nowLeast_49 (Int32.toNatClampNeg v4_49) (-1)) m_does m_mostTime m_leastTime m_countUnit m_flagUnit m_worst m_best m_stack) H := hP
                        have hD : va_D A (wM a cI cZ cJ m_thrown m_sets m_ways m_penalty m_blocks m_edges m_pairs m_lines m_isFresh m_isAnswer m_time m_touchMany m_touch m_line m_from m_to m_bound m_pairA m_pairB m_comeTo m_greatest m_least m_nowGreatest_131 (upd m_nowLeast_49 (Int32.toNatClampNeg v4_49) (-1)) m_does m_mostTime m_leastTime m_countUnit m_flagUnit m_worst m_best m_stack) := hD
                        refine lv_iinc (v := (v4_49 + 1)) (lv' := [(4, .int (v4_49 + 1)), (0, .ref (a 0)), (1, .int v1), (2, .int t0_22), (3, .int m_ways)]) hx hb dX4_touchNow_188 hl (k := 4) rfl rfl (by decide) rfl (fun ls hl => ?_)
                        refine lv_goto (tgt := 49) hx hb dX4_touchNow_191 (by decide) ?_
                        exact ih49 (v4_49 + 1) m_nowGreatest_131 (upd m_nowLeast_49 (Int32.toNatClampNeg v4_49) (-1)) h _ _ hP hD hS _ (lv_sub hl [1, 2, 3, 4, 0] rfl)
                      · replace h := h.2 hc
                        refine lv_aload_n hx hb dX4_touchNow_174 rfl (lv_at hl 0 rfl) ?_
                        refine va_get (D := D) (ci := 4) (v := .ref (a 14)) (C := RX4) (T := TX4) (N := 32) hx hb hts hinX4 hown hK hP 0 rfl rfl 22 (by decide) (hts (.fieldLink RX4 50 "WorstPathsModel" "nowLeast" "[I") (by decide +kernel)) (fun _ h9 => h9) rfl dX4_touchNow_175 ?_
                        refine lv_iload hx hb dX4_touchNow_178 (lv_at hl 4 rfl) ?_
                        obtain ⟨hq, h⟩ := h
                        refine va_iald (D := D) hx hb hK hP 14 0 rfl rfl hq dX4_touchNow_180 ?_
                        refine lv_iconst (v := 1) hx hb dX4_touchNow_181 (by decide) ?_
                        refine lv_iadd hx hb dX4_touchNow_182 ?_
                        refine lv_goto (tgt := 187) hx hb dX4_touchNow_183 (by decide) ?_
                        obtain ⟨hq, h⟩ := h
                        refine va_iast (D := D) hx hb hK hP hD hS 14 0 rfl rfl hq dX4_touchNow_187 (fun H locs hP hD hS => ?_)
                        have hP : va_P D vwCl (wM a cI cZ cJ m_thrown m_sets m_ways m_penalty m_blocks m_edges m_pairs m_lines m_isFresh m_isAnswer m_time m_touchMany m_touch m_line m_from m_to m_bound m_pairA m_pairB m_comeTo m_greatest m_least m_nowGreatest_131 (upd m_nowLeast_49 (Int32.toNatClampNeg v4_49) ((m_nowLeast_49 (Int32.toNatClampNeg v4_49)) + 1)) m_does m_mostTime m_leastTime m_countUnit m_flagUnit m_worst m_best m_stack) H := hP
                        have hD : va_D A (wM a cI cZ cJ m_thrown m_sets m_ways m_penalty m_blocks m_edges m_pairs m_lines m_isFresh m_isAnswer m_time m_touchMany m_touch m_line m_from m_to m_bound m_pairA m_pairB m_comeTo m_greatest m_least m_nowGreatest_131 (upd m_nowLeast_49 (Int32.toNatClampNeg v4_49) ((m_nowLeast_49 (Int32.toNatClampNeg v4_49)) + 1)) m_does m_mostTime m_leastTime m_countUnit m_flagUnit m_worst m_best m_stack) := hD
                        refine lv_iinc (v := (v4_49 + 1)) (lv' := [(4, .int (v4_49 + 1)), (0, .ref (a 0)), (1, .int v1), (2, .int t0_22), (3, .int m_ways)]) hx hb dX4_touchNow_188 hl (k := 4) rfl rfl (by decide) rfl (fun ls hl => ?_)
                        refine lv_goto (tgt := 49) hx hb dX4_touchNow_191 (by decide) ?_
                        exact ih49 (v4_49 + 1) m_nowGreatest_131 (upd m_nowLeast_49 (Int32.toNatClampNeg v4_49) ((m_nowLeast_49 (Int32.toNatClampNeg v4_49)) + 1)) h _ _ hP hD hS _ (lv_sub hl [1, 2, 3, 4, 0] rfl)
                refine lv_if_lt (tgt := 131) hx hb dX4_touchNow_81 (by decide) (fun hc => ?_) (fun hc => ?_)
                · replace h := h.1 hc
                  exact JP131 m_nowGreatest_49 h _ _ hP hD hS _ (lv_sub hl [0, 1, 2, 3, 4] rfl)
                · replace h := h.2 hc
                  refine lv_aload_n hx hb dX4_touchNow_84 rfl (lv_at hl 0 rfl) ?_
                  refine va_get (D := D) (ci := 4) (v := .ref (a 13)) (C := RX4) (T := TX4) (N := 32) hx hb hts hinX4 hown hK hP 0 rfl rfl 21 (by decide) (hts (.fieldLink RX4 47 "WorstPathsModel" "nowGreatest" "[I") (by decide +kernel)) (fun _ h9 => h9) rfl dX4_touchNow_85 ?_
                  refine lv_iload hx hb dX4_touchNow_88 (lv_at hl 4 rfl) ?_
                  obtain ⟨hq, h⟩ := h
                  refine va_iald (D := D) hx hb hK hP 13 0 rfl rfl hq dX4_touchNow_90 ?_
                  refine lv_iload_n hx hb dX4_touchNow_91 rfl (lv_at hl 2 rfl) ?_
                  refine lv_icmp_ge (tgt := 131) hx hb dX4_touchNow_92 (by decide) (fun hc => ?_) (fun hc => ?_)
                  · replace h := h.1 hc
                    exact JP131 m_nowGreatest_49 h _ _ hP hD hS _ (lv_sub hl [0, 1, 2, 3, 4] rfl)
                  · replace h := h.2 hc
                    refine lv_aload_n hx hb dX4_touchNow_95 rfl (lv_at hl 0 rfl) ?_
                    refine va_get (D := D) (ci := 4) (v := .ref (a 13)) (C := RX4) (T := TX4) (N := 32) hx hb hts hinX4 hown hK hP 0 rfl rfl 21 (by decide) (hts (.fieldLink RX4 47 "WorstPathsModel" "nowGreatest" "[I") (by decide +kernel)) (fun _ h9 => h9) rfl dX4_touchNow_96 ?_
                    refine lv_iload hx hb dX4_touchNow_99 (lv_at hl 4 rfl) ?_
                    refine lv_aload_n hx hb dX4_touchNow_101 rfl (lv_at hl 0 rfl) ?_
                    refine va_get (D := D) (ci := 4) (v := .ref (a 13)) (C := RX4) (T := TX4) (N := 32) hx hb hts hinX4 hown hK hP 0 rfl rfl 21 (by decide) (hts (.fieldLink RX4 47 "WorstPathsModel" "nowGreatest" "[I") (by decide +kernel)) (fun _ h9 => h9) rfl dX4_touchNow_102 ?_
                    refine lv_iload hx hb dX4_touchNow_105 (lv_at hl 4 rfl) ?_
                    obtain ⟨hq, h⟩ := h
                    refine va_iald (D := D) hx hb hK hP 13 0 rfl rfl hq dX4_touchNow_107 ?_
                    refine lv_iconst (v := 1) hx hb dX4_touchNow_108 (by decide) ?_
                    refine lv_iadd hx hb dX4_touchNow_109 ?_
                    refine lv_aload_n hx hb dX4_touchNow_110 rfl (lv_at hl 0 rfl) ?_
                    refine va_get (D := D) (ci := 4) (v := .int m_ways) (C := RX4) (T := TX4) (N := 32) hx hb hts hinX4 hown hK hP 0 rfl rfl 2 (by decide) (hts (.fieldLink RX4 88 "WorstPathsModel" "ways" "I") (by decide +kernel)) (fun _ h9 => h9) rfl dX4_touchNow_111 ?_
                    refine lv_icmp_ge (tgt := 129) hx hb dX4_touchNow_114 (by decide) (fun hc => ?_) (fun hc => ?_)
                    · replace h := h.1 hc
                      refine lv_iconst (v := (-1)) hx hb dX4_touchNow_129 (by decide) ?_
                      obtain ⟨hq, h⟩ := h
                      refine va_iast (D := D) hx hb hK hP hD hS 13 0 rfl rfl hq dX4_touchNow_130 (fun H locs hP hD hS => ?_)
                      have hP : va_P D vwCl (wM a cI cZ cJ m_thrown m_sets m_ways m_penalty m_blocks m_edges m_pairs m_lines m_isFresh m_isAnswer m_time m_touchMany m_touch m_line m_from m_to m_bound m_pairA m_pairB m_comeTo m_greatest m_least (upd m_nowGreatest_49 (Int32.toNatClampNeg v4_49) (-1)) m_nowLeast_49 m_does m_mostTime m_leastTime m_countUnit m_flagUnit m_worst m_best m_stack) H := hP
                      have hD : va_D A (wM a cI cZ cJ m_thrown m_sets m_ways m_penalty m_blocks m_edges m_pairs m_lines m_isFresh m_isAnswer m_time m_touchMany m_touch m_line m_from m_to m_bound m_pairA m_pairB m_comeTo m_greatest m_least (upd m_nowGreatest_49 (Int32.toNatClampNeg v4_49) (-1)) m_nowLeast_49 m_does m_mostTime m_leastTime m_countUnit m_flagUnit m_worst m_best m_stack) := hD
                      exact JP131 (upd m_nowGreatest_49 (Int32.toNatClampNeg v4_49) (-1)) h _ _ hP hD hS _ (lv_sub hl [0, 1, 2, 3, 4] rfl)
                    · replace h := h.2 hc
                      refine lv_aload_n hx hb dX4_touchNow_117 rfl (lv_at hl 0 rfl) ?_
                      refine va_get (D := D) (ci := 4) (v := .ref (a 13)) (C := RX4) (T := TX4) (N := 32) hx hb hts hinX4 hown hK hP 0 rfl rfl 21 (by decide) (hts (.fieldLink RX4 47 "WorstPathsModel" "nowGreatest" "[I") (by decide +kernel)) (fun _ h9 => h9) rfl dX4_touchNow_118 ?_
                      refine lv_iload hx hb dX4_touchNow_121 (lv_at hl 4 rfl) ?_
                      obtain ⟨hq, h⟩ := h
                      refine va_iald (D := D) hx hb hK hP 13 0 rfl rfl hq dX4_touchNow_123 ?_
                      refine lv_iconst (v := 1) hx hb dX4_touchNow_124 (by decide) ?_
                      refine lv_iadd hx hb dX4_touchNow_125 ?_
                      refine lv_goto (tgt := 130) hx hb dX4_touchNow_126 (by decide) ?_
                      obtain ⟨hq, h⟩ := h
                      refine va_iast (D := D) hx hb hK hP hD hS 13 0 rfl rfl hq dX4_touchNow_130 (fun H locs hP hD hS => ?_)
                      have hP : va_P D vwCl (wM a cI cZ cJ m_thrown m_sets m_ways m_penalty m_blocks m_edges m_pairs m_lines m_isFresh m_isAnswer m_time m_touchMany m_touch m_line m_from m_to m_bound m_pairA m_pairB m_comeTo m_greatest m_least (upd m_nowGreatest_49 (Int32.toNatClampNeg v4_49) ((m_nowGreatest_49 (Int32.toNatClampNeg v4_49)) + 1)) m_nowLeast_49 m_does m_mostTime m_leastTime m_countUnit m_flagUnit m_worst m_best m_stack) H := hP
                      have hD : va_D A (wM a cI cZ cJ m_thrown m_sets m_ways m_penalty m_blocks m_edges m_pairs m_lines m_isFresh m_isAnswer m_time m_touchMany m_touch m_line m_from m_to m_bound m_pairA m_pairB m_comeTo m_greatest m_least (upd m_nowGreatest_49 (Int32.toNatClampNeg v4_49) ((m_nowGreatest_49 (Int32.toNatClampNeg v4_49)) + 1)) m_nowLeast_49 m_does m_mostTime m_leastTime m_countUnit m_flagUnit m_worst m_best m_stack) := hD
                      exact JP131 (upd m_nowGreatest_49 (Int32.toNatClampNeg v4_49) ((m_nowGreatest_49 (Int32.toNatClampNeg v4_49)) + 1)) h _ _ hP hD hS _ (lv_sub hl [0, 1, 2, 3, 4] rfl)
      obtain ⟨k9, h⟩ := h
      exact LP49 k9 0 m_nowGreatest m_nowLeast h _ _ hP hD hS _ (lv_sub hl [3, 4, 2, 1, 0] rfl)
  refine lv_if_ge (tgt := 16) hx hb dX4_touchNow_6 (by decide) (fun hc => ?_) (fun hc => ?_)
  · replace h := h.1 hc
    refine lv_aload_n hx hb dX4_touchNow_16 rfl (lv_at hl 0 rfl) ?_
    refine va_get (D := D) (ci := 4) (v := .ref (a 13)) (C := RX4) (T := TX4) (N := 32) hx hb hts hinX4 hown hK hP 0 rfl rfl 21 (by decide) (hts (.fieldLink RX4 47 "WorstPathsModel" "nowGreatest" "[I") (by decide +kernel)) (fun _ h9 => h9) rfl dX4_touchNow_17 ?_
    refine lv_iload_n hx hb dX4_touchNow_20 rfl (lv_at hl 1 rfl) ?_
    obtain ⟨hq, h⟩ := h
    refine va_iald (D := D) hx hb hK hP 13 0 rfl rfl hq dX4_touchNow_21 ?_
    exact JP22 (m_nowGreatest (Int32.toNatClampNeg v1)) h _ _ hP hD hS _ (lv_sub hl [0, 1] rfl)
  · replace h := h.2 hc
    refine lv_aload_n hx hb dX4_touchNow_9 rfl (lv_at hl 0 rfl) ?_
    refine va_get (D := D) (ci := 4) (v := .int m_ways) (C := RX4) (T := TX4) (N := 32) hx hb hts hinX4 hown hK hP 0 rfl rfl 2 (by decide) (hts (.fieldLink RX4 88 "WorstPathsModel" "ways" "I") (by decide +kernel)) (fun _ h9 => h9) rfl dX4_touchNow_10 ?_
    refine lv_goto (tgt := 22) hx hb dX4_touchNow_13 (by decide) ?_
    exact JP22 m_ways h _ _ hP hD hS _ (lv_sub hl [0, 1] rfl)
def lp_X4_goThrough_55 (v1 : Int32) (m_sets : Int32) (m_ways : Int32) (m_lines : Int32) (m_touchMany : Nat → Int32) (m_touch : Nat → Int32) (m_line : Nat → Int32) (m_greatest : Nat → Int32) (m_least : Nat → Int32) (Q : (Nat → Int32) → (Nat → Int32) → (Nat → Int32) → Prop) : Nat → Int32 → (Nat → Int32) → (Nat → Int32) → (Nat → Int32) → Prop
  | 0, _, _, _, _ => False
  | n + 1, v2, m_nowGreatest, m_nowLeast, m_does => vp_in v1 40 ∧ ((((6 * v1) + (m_touchMany (Int32.toNatClampNeg v1))) ≤ v2 → Q m_nowGreatest m_nowLeast m_does) ∧ (¬ ((6 * v1) + (m_touchMany (Int32.toNatClampNeg v1))) ≤ v2 → vp_in v2 240 ∧ (vp_in (m_touch (Int32.toNatClampNeg v2)) 40 ∧ (((m_nowGreatest (Int32.toNatClampNeg (m_touch (Int32.toNatClampNeg v2)))) < 0 → vp_in v2 240 ∧ (vp_in (m_touch (Int32.toNatClampNeg v2)) 40 ∧ ((0 ≤ (m_nowLeast (Int32.toNatClampNeg (m_touch (Int32.toNatClampNeg v2)))) → vp_in v2 240 ∧ (vp_in v2 240 ∧ (wp_X4_touchNow (m_touch (Int32.toNatClampNeg v2)) m_sets m_ways m_lines m_line m_nowGreatest m_nowLeast (fun m_nowGreatest_120 m_nowLeast_120 => (lp_X4_goThrough_55 v1 m_sets m_ways m_lines m_touchMany m_touch m_line m_greatest m_least Q n) (v2 + 1) m_nowGreatest_120 m_nowLeast_120 (upd m_does (Int32.toNatClampNeg v2) 0))))) ∧ (¬ 0 ≤ (m_nowLeast (Int32.toNatClampNeg (m_touch (Int32.toNatClampNeg v2)))) → vp_in v2 240 ∧ (vp_in v2 240 ∧ (wp_X4_touchNow (m_touch (Int32.toNatClampNeg v2)) m_sets m_ways m_lines m_line m_nowGreatest m_nowLeast (fun m_nowGreatest_120 m_nowLeast_120 => (lp_X4_goThrough_55 v1 m_sets m_ways m_lines m_touchMany m_touch m_line m_greatest m_least Q n) (v2 + 1) m_nowGreatest_120 m_nowLeast_120 (upd m_does (Int32.toNatClampNeg v2) 2)))))))) ∧ (¬ (m_nowGreatest (Int32.toNatClampNeg (m_touch (Int32.toNatClampNeg v2)))) < 0 → vp_in v2 240 ∧ (vp_in v2 240 ∧ (wp_X4_touchNow (m_touch (Int32.toNatClampNeg v2)) m_sets m_ways m_lines m_line m_nowGreatest m_nowLeast (fun m_nowGreatest_120 m_nowLeast_120 => (lp_X4_goThrough_55 v1 m_sets m_ways m_lines m_touchMany m_touch m_line m_greatest m_least Q n) (v2 + 1) m_nowGreatest_120 m_nowLeast_120 (upd m_does (Int32.toNatClampNeg v2) 1)))))))))
def lp_X4_goThrough_2 (v1 : Int32) (m_sets : Int32) (m_ways : Int32) (m_lines : Int32) (m_touchMany : Nat → Int32) (m_touch : Nat → Int32) (m_line : Nat → Int32) (m_greatest : Nat → Int32) (m_least : Nat → Int32) (m_does : Nat → Int32) (Q : (Nat → Int32) → (Nat → Int32) → (Nat → Int32) → Prop) : Nat → Int32 → (Nat → Int32) → (Nat → Int32) → Prop
  | 0, _, _, _ => False
  | n + 1, v2, m_nowGreatest, m_nowLeast => (m_lines ≤ v2 → ∃ k55, lp_X4_goThrough_55 v1 m_sets m_ways m_lines m_touchMany m_touch m_line m_greatest m_least Q k55 (6 * v1) m_nowGreatest m_nowLeast m_does) ∧ (¬ m_lines ≤ v2 → vp_in ((40 * v1) + v2) 1600 ∧ (vp_in v2 40 ∧ (vp_in ((40 * v1) + v2) 1600 ∧ (vp_in v2 40 ∧ ((lp_X4_goThrough_2 v1 m_sets m_ways m_lines m_touchMany m_touch m_line m_greatest m_least m_does Q n) (v2 + 1) (upd m_nowGreatest (Int32.toNatClampNeg v2) (m_greatest (Int32.toNatClampNeg ((40 * v1) + v2)))) (upd m_nowLeast (Int32.toNatClampNeg v2) (m_least (Int32.toNatClampNeg ((40 * v1) + v2)))))))))
def wp_X4_goThrough (v1 : Int32) (m_sets : Int32) (m_ways : Int32) (m_lines : Int32) (m_touchMany : Nat → Int32) (m_touch : Nat → Int32) (m_line : Nat → Int32) (m_greatest : Nat → Int32) (m_least : Nat → Int32) (m_nowGreatest : Nat → Int32) (m_nowLeast : Nat → Int32) (m_does : Nat → Int32) (Q : (Nat → Int32) → (Nat → Int32) → (Nat → Int32) → Prop) : Prop := ∃ k2, lp_X4_goThrough_2 v1 m_sets m_ways m_lines m_touchMany m_touch m_line m_greatest m_least m_does Q k2 0 m_nowGreatest m_nowLeast
abbrev rm_X4_goThrough : Room := { frames := 2, cells := 0, slots := 0, locals := 46 }
set_option maxHeartbeats 4000000 in
set_option maxRecDepth 100000 in
theorem c_X4_goThrough (l : Launch) (D : va_G) (a : Nat → Nat) (cI : ClassId) (cZ : ClassId) (cJ : ClassId) (sz : Nat) (m_thrown : Int32) (m_sets : Int32) (m_ways : Int32) (m_penalty : Int32) (m_blocks : Int32) (m_edges : Int32) (m_pairs : Int32) (m_lines : Int32) (m_isFresh : Int32) (m_isAnswer : Int32) (m_time : Nat → Int32) (m_touchMany : Nat → Int32) (m_touch : Nat → Int32) (m_line : Nat → Int32) (m_from : Nat → Int32) (m_to : Nat → Int32) (m_bound : Nat → Int32) (m_pairA : Nat → Int32) (m_pairB : Nat → Int32) (m_comeTo : Nat → Int32) (m_greatest : Nat → Int32) (m_least : Nat → Int32) (m_nowGreatest : Nat → Int32) (m_nowLeast : Nat → Int32) (m_does : Nat → Int32) (m_mostTime : Nat → Int64) (m_leastTime : Nat → Int64) (m_countUnit : Nat → Int32) (m_flagUnit : Nat → Int32) (m_worst : Nat → Int64) (m_best : Nat → Int64) (m_stack : Nat → Int32) (v1 : Int32) (Q : (Nat → Int32) → (Nat → Int32) → (Nat → Int32) → Prop) (h : wp_X4_goThrough v1 m_sets m_ways m_lines m_touchMany m_touch m_line m_greatest m_least m_nowGreatest m_nowLeast m_does Q) : Met l yX4_goThrough wsX4_goThrough rm_X4_goThrough (va_Pc [.ref (a 0), .int v1] (inW D cI cZ cJ sz (wM a cI cZ cJ m_thrown m_sets m_ways m_penalty m_blocks m_edges m_pairs m_lines m_isFresh m_isAnswer m_time m_touchMany m_touch m_line m_from m_to m_bound m_pairA m_pairB m_comeTo m_greatest m_least m_nowGreatest m_nowLeast m_does m_mostTime m_leastTime m_countUnit m_flagUnit m_worst m_best m_stack))) (va_Qv (fun (u : (Nat → Int32) × (Nat → Int32) × (Nat → Int32)) => Q u.1 u.2.1 u.2.2) (fun (u : (Nat → Int32) × (Nat → Int32) × (Nat → Int32)) => outW D cI cZ cJ (va_A (wM a cI cZ cJ m_thrown m_sets m_ways m_penalty m_blocks m_edges m_pairs m_lines m_isFresh m_isAnswer m_time m_touchMany m_touch m_line m_from m_to m_bound m_pairA m_pairB m_comeTo m_greatest m_least m_nowGreatest m_nowLeast m_does m_mostTime m_leastTime m_countUnit m_flagUnit m_worst m_best m_stack) sz) (wM a cI cZ cJ m_thrown m_sets m_ways m_penalty m_blocks m_edges m_pairs m_lines m_isFresh m_isAnswer m_time m_touchMany m_touch m_line m_from m_to m_bound m_pairA m_pairB m_comeTo m_greatest m_least u.1 u.2.1 u.2.2 m_mostTime m_leastTime m_countUnit m_flagUnit m_worst m_best m_stack)) (va_A (wM a cI cZ cJ m_thrown m_sets m_ways m_penalty m_blocks m_edges m_pairs m_lines m_isFresh m_isAnswer m_time m_touchMany m_touch m_line m_from m_to m_bound m_pairA m_pairB m_comeTo m_greatest m_least m_nowGreatest m_nowLeast m_does m_mostTime m_leastTime m_countUnit m_flagUnit m_worst m_best m_stack) sz)) 0 0 (va_A (wM a cI cZ cJ m_thrown m_sets m_ways m_penalty m_blocks m_edges m_pairs m_lines m_isFresh m_isAnswer m_time m_touchMany m_touch m_line m_from m_to m_bound m_pairA m_pairB m_comeTo m_greatest m_least m_nowGreatest m_nowLeast m_does m_mostTime m_leastTime m_countUnit m_flagUnit m_worst m_best m_stack) sz) := by
  refine Met.ofW (cc := cX4_goThrough) (maxL := 3) (ret := none) (by decide +kernel) rfl ?_
  intro p e s m args below meth c s₁ B hml hv
  obtain ⟨rfl, hsz, hP, hK, hD0⟩ := hv
  have hx := B.exec
  have hb := B.bytes
  have hr := B.returns
  have hts := atoms_spec (ws := wsX4_goThrough) B.pre
  have hown : s.vm.findClass RX4 = some m.cls := findClass_of_methodNamed B.named
  have hlocks := B.notSynchronized
  have hinX4 : ∀ w ∈ wsX40, w ∈ wsX4_goThrough := by decide +kernel
  subst hsz
  have hD := hD0.self (sz := s.heap.size)
  generalize hAe : va_A (wM a cI cZ cJ m_thrown m_sets m_ways m_penalty m_blocks m_edges m_pairs m_lines m_isFresh m_isAnswer m_time m_touchMany m_touch m_line m_from m_to m_bound m_pairA m_pairB m_comeTo m_greatest m_least m_nowGreatest m_nowLeast m_does m_mostTime m_leastTime m_countUnit m_flagUnit m_worst m_best m_stack) s.heap.size = A at hD ⊢
  have hA : ∀ q : Nat, s.heap.size ≤ q → A q := fun q h => by rw [← hAe]; exact Or.inr h
  have hS : va_S A s.heap s.heap [] := va_S.rf
  have hP : va_P D vwCl (wM a cI cZ cJ m_thrown m_sets m_ways m_penalty m_blocks m_edges m_pairs m_lines m_isFresh m_isAnswer m_time m_touchMany m_touch m_line m_from m_to m_bound m_pairA m_pairB m_comeTo m_greatest m_least m_nowGreatest m_nowLeast m_does m_mostTime m_leastTime m_countUnit m_flagUnit m_worst m_best m_stack) s.heap := hP
  have hl := lv_entry ([.ref (a 0), .int v1]) (n := 3) (Nat.le_of_ble_eq_true rfl)
  rw [lg_entry_eq]
  generalize (lg_sl ([.ref (a 0), .int v1]) ++ List.replicate (3 - (lg_sl ([.ref (a 0), .int v1])).length) Slot.unset).toArray = ls at hl ⊢
  have hl : lv_has ls 3 [(0, .ref (a 0)), (1, .int v1)] := hl
  refine wz_abs (fun Qz hQz => ?_)
  unfold wp_X4_goThrough at h
  refine lv_iconst (v := 0) hx hb dX4_goThrough_0 (by decide) ?_
  refine lv_istore_n (lv' := [(2, .int 0), (0, .ref (a 0)), (1, .int v1)]) hx hb dX4_goThrough_1 rfl hl (by decide) rfl (fun ls hl => ?_)
  have LP2 : ∀ (n2 : Nat) (v2_2 : Int32) (m_nowGreatest_2 : Nat → Int32) (m_nowLeast_2 : Nat → Int32), lp_X4_goThrough_2 v1 m_sets m_ways m_lines m_touchMany m_touch m_line m_greatest m_least m_does Q n2 v2_2 m_nowGreatest_2 m_nowLeast_2 → ∀ (H : Heap) (locs : List Loc), va_P D vwCl (wM a cI cZ cJ m_thrown m_sets m_ways m_penalty m_blocks m_edges m_pairs m_lines m_isFresh m_isAnswer m_time m_touchMany m_touch m_line m_from m_to m_bound m_pairA m_pairB m_comeTo m_greatest m_least m_nowGreatest_2 m_nowLeast_2 m_does m_mostTime m_leastTime m_countUnit m_flagUnit m_worst m_best m_stack) H → va_D A (wM a cI cZ cJ m_thrown m_sets m_ways m_penalty m_blocks m_edges m_pairs m_lines m_isFresh m_isAnswer m_time m_touchMany m_touch m_line m_from m_to m_bound m_pairA m_pairB m_comeTo m_greatest m_least m_nowGreatest_2 m_nowLeast_2 m_does m_mostTime m_leastTime m_countUnit m_flagUnit m_worst m_best m_stack) → va_S A s.heap H locs → ∀ (ls : Array Slot), lv_has ls 3 [(0, .ref (a 0)), (1, .int v1), (2, .int v2_2)] → W p l e (headSpec wsX4_goThrough rm_X4_goThrough).room s m ([Value.ref (a 0), Value.int v1] : List Value).toArray below meth c H locs 0 0 Qz (F0 m 2 ls []) := by
    intro n2
    induction n2 with
    | zero => intro v2_2 m_nowGreatest_2 m_nowLeast_2 h; exact h.elim
    | succ n2 ih2 =>
      intro v2_2 m_nowGreatest_2 m_nowLeast_2 h H locs hP hD hS ls hl
      unfold lp_X4_goThrough_2 at h
      refine lv_iload_n hx hb dX4_goThrough_2 rfl (lv_at hl 2 rfl) ?_
      refine lv_aload_n hx hb dX4_goThrough_3 rfl (lv_at hl 0 rfl) ?_
      refine va_get (D := D) (ci := 4) (v := .int m_lines) (C := RX4) (T := TX4) (N := 32) hx hb hts hinX4 hown hK hP 0 rfl rfl 7 (by decide) (hts (.fieldLink RX4 113 "WorstPathsModel" "lines" "I") (by decide +kernel)) (fun _ h9 => h9) rfl dX4_goThrough_4 ?_
      refine lv_icmp_ge (tgt := 50) hx hb dX4_goThrough_7 (by decide) (fun hc => ?_) (fun hc => ?_)
      · replace h := h.1 hc
        refine lv_bipush (v := 6) hx hb dX4_goThrough_50 (by decide) ?_
        refine lv_iload_n hx hb dX4_goThrough_52 rfl (lv_at hl 1 rfl) ?_
        refine lv_imul hx hb dX4_goThrough_53 ?_
        refine lv_istore_n (lv' := [(2, .int (6 * v1)), (0, .ref (a 0)), (1, .int v1)]) hx hb dX4_goThrough_54 rfl hl (by decide) rfl (fun ls hl => ?_)
        have LP55 : ∀ (n55 : Nat) (v2_55 : Int32) (m_nowGreatest_55 : Nat → Int32) (m_nowLeast_55 : Nat → Int32) (m_does_55 : Nat → Int32), lp_X4_goThrough_55 v1 m_sets m_ways m_lines m_touchMany m_touch m_line m_greatest m_least Q n55 v2_55 m_nowGreatest_55 m_nowLeast_55 m_does_55 → ∀ (H : Heap) (locs : List Loc), va_P D vwCl (wM a cI cZ cJ m_thrown m_sets m_ways m_penalty m_blocks m_edges m_pairs m_lines m_isFresh m_isAnswer m_time m_touchMany m_touch m_line m_from m_to m_bound m_pairA m_pairB m_comeTo m_greatest m_least m_nowGreatest_55 m_nowLeast_55 m_does_55 m_mostTime m_leastTime m_countUnit m_flagUnit m_worst m_best m_stack) H → va_D A (wM a cI cZ cJ m_thrown m_sets m_ways m_penalty m_blocks m_edges m_pairs m_lines m_isFresh m_isAnswer m_time m_touchMany m_touch m_line m_from m_to m_bound m_pairA m_pairB m_comeTo m_greatest m_least m_nowGreatest_55 m_nowLeast_55 m_does_55 m_mostTime m_leastTime m_countUnit m_flagUnit m_worst m_best m_stack) → va_S A s.heap H locs → ∀ (ls : Array Slot), lv_has ls 3 [(0, .ref (a 0)), (1, .int v1), (2, .int v2_55)] → W p l e (headSpec wsX4_goThrough rm_X4_goThrough).room s m ([Value.ref (a 0), Value.int v1] : List Value).toArray below meth c H locs 0 0 Qz (F0 m 55 ls []) := by
          intro n55
          induction n55 with
          | zero => intro v2_55 m_nowGreatest_55 m_nowLeast_55 m_does_55 h; exact h.elim
          | succ n55 ih55 =>
            intro v2_55 m_nowGreatest_55 m_nowLeast_55 m_does_55 h H locs hP hD hS ls hl
            unfold lp_X4_goThrough_55 at h
            refine lv_iload_n hx hb dX4_goThrough_55 rfl (lv_at hl 2 rfl) ?_
            refine lv_bipush (v := 6) hx hb dX4_goThrough_56 (by decide) ?_
            refine lv_iload_n hx hb dX4_goThrough_58 rfl (lv_at hl 1 rfl) ?_
            refine lv_imul hx hb dX4_goThrough_59 ?_
            refine lv_aload_n hx hb dX4_goThrough_60 rfl (lv_at hl 0 rfl) ?_
            refine va_get (D := D) (ci := 4) (v := .ref (a 2)) (C := RX4) (T := TX4) (N := 32) hx hb hts hinX4 hown hK hP 0 rfl rfl 9 (by decide) (hts (.fieldLink RX4 13 "WorstPathsModel" "touchMany" "[I") (by decide +kernel)) (fun _ h9 => h9) rfl dX4_goThrough_61 ?_
            refine lv_iload_n hx hb dX4_goThrough_64 rfl (lv_at hl 1 rfl) ?_
            obtain ⟨hq, h⟩ := h
            refine va_iald (D := D) hx hb hK hP 2 0 rfl rfl hq dX4_goThrough_65 ?_
            refine lv_iadd hx hb dX4_goThrough_66 ?_
            refine lv_icmp_ge (tgt := 129) hx hb dX4_goThrough_67 (by decide) (fun hc => ?_) (fun hc => ?_)
            · replace h := h.1 hc
              refine wz_mono hQz ?_
              exact W.vret hx hb hr (fun t ht hW => ⟨⟨(m_nowGreatest_55, m_nowLeast_55, m_does_55), rfl, h, by rw [ht]; exact hP, va_K.moved hW.alike hK, hD⟩, hS.F ht⟩) hS.2.2 dX4_goThrough_129
            · replace h := h.2 hc
              refine lv_aload_n hx hb dX4_goThrough_70 rfl (lv_at hl 0 rfl) ?_
              refine va_get (D := D) (ci := 4) (v := .ref (a 15)) (C := RX4) (T := TX4) (N := 32) hx hb hts hinX4 hown hK hP 0 rfl rfl 23 (by decide) (hts (.fieldLink RX4 53 "WorstPathsModel" "does" "[I") (by decide +kernel)) (fun _ h9 => h9) rfl dX4_goThrough_71 ?_
              refine lv_iload_n hx hb dX4_goThrough_74 rfl (lv_at hl 2 rfl) ?_
              refine lv_aload_n hx hb dX4_goThrough_75 rfl (lv_at hl 0 rfl) ?_
              refine va_get (D := D) (ci := 4) (v := .ref (a 13)) (C := RX4) (T := TX4) (N := 32) hx hb hts hinX4 hown hK hP 0 rfl rfl 21 (by decide) (hts (.fieldLink RX4 47 "WorstPathsModel" "nowGreatest" "[I") (by decide +kernel)) (fun _ h9 => h9) rfl dX4_goThrough_76 ?_
              refine lv_aload_n hx hb dX4_goThrough_79 rfl (lv_at hl 0 rfl) ?_
              refine va_get (D := D) (ci := 4) (v := .ref (a 3)) (C := RX4) (T := TX4) (N := 32) hx hb hts hinX4 hown hK hP 0 rfl rfl 10 (by decide) (hts (.fieldLink RX4 16 "WorstPathsModel" "touch" "[I") (by decide +kernel)) (fun _ h9 => h9) rfl dX4_goThrough_80 ?_
              refine lv_iload_n hx hb dX4_goThrough_83 rfl (lv_at hl 2 rfl) ?_
              obtain ⟨hq, h⟩ := h
              refine va_iald (D := D) hx hb hK hP 3 0 rfl rfl hq dX4_goThrough_84 ?_
              obtain ⟨hq, h⟩ := h
              refine va_iald (D := D) hx hb hK hP 13 0 rfl rfl hq dX4_goThrough_85 ?_
              refine lv_if_lt (tgt := 93) hx hb dX4_goThrough_86 (by decide) (fun hc => ?_) (fun hc => ?_)
              · replace h := h.1 hc
                refine lv_aload_n hx hb dX4_goThrough_93 rfl (lv_at hl 0 rfl) ?_
                refine va_get (D := D) (ci := 4) (v := .ref (a 14)) (C := RX4) (T := TX4) (N := 32) hx hb hts hinX4 hown hK hP 0 rfl rfl 22 (by decide) (hts (.fieldLink RX4 50 "WorstPathsModel" "nowLeast" "[I") (by decide +kernel)) (fun _ h9 => h9) rfl dX4_goThrough_94 ?_
                refine lv_aload_n hx hb dX4_goThrough_97 rfl (lv_at hl 0 rfl) ?_
                refine va_get (D := D) (ci := 4) (v := .ref (a 3)) (C := RX4) (T := TX4) (N := 32) hx hb hts hinX4 hown hK hP 0 rfl rfl 10 (by decide) (hts (.fieldLink RX4 16 "WorstPathsModel" "touch" "[I") (by decide +kernel)) (fun _ h9 => h9) rfl dX4_goThrough_98 ?_
                refine lv_iload_n hx hb dX4_goThrough_101 rfl (lv_at hl 2 rfl) ?_
                obtain ⟨hq, h⟩ := h
                refine va_iald (D := D) hx hb hK hP 3 0 rfl rfl hq dX4_goThrough_102 ?_
                obtain ⟨hq, h⟩ := h
                refine va_iald (D := D) hx hb hK hP 14 0 rfl rfl hq dX4_goThrough_103 ?_
                refine lv_if_ge (tgt := 111) hx hb dX4_goThrough_104 (by decide) (fun hc => ?_) (fun hc => ?_)
                · replace h := h.1 hc
                  refine lv_iconst (v := 0) hx hb dX4_goThrough_111 (by decide) ?_
                  obtain ⟨hq, h⟩ := h
                  refine va_iast (D := D) hx hb hK hP hD hS 15 0 rfl rfl hq dX4_goThrough_112 (fun H locs hP hD hS => ?_)
                  have hP : va_P D vwCl (wM a cI cZ cJ m_thrown m_sets m_ways m_penalty m_blocks m_edges m_pairs m_lines m_isFresh m_isAnswer m_time m_touchMany m_touch m_line m_from m_to m_bound m_pairA m_pairB m_comeTo m_greatest m_least m_nowGreatest_55 m_nowLeast_55 (upd m_does_55 (Int32.toNatClampNeg v2_55) 0) m_mostTime m_leastTime m_countUnit m_flagUnit m_worst m_best m_stack) H := hP
                  have hD : va_D A (wM a cI cZ cJ m_thrown m_sets m_ways m_penalty m_blocks m_edges m_pairs m_lines m_isFresh m_isAnswer m_time m_touchMany m_touch m_line m_from m_to m_bound m_pairA m_pairB m_comeTo m_greatest m_least m_nowGreatest_55 m_nowLeast_55 (upd m_does_55 (Int32.toNatClampNeg v2_55) 0) m_mostTime m_leastTime m_countUnit m_flagUnit m_worst m_best m_stack) := hD
                  refine lv_aload_n hx hb dX4_goThrough_113 rfl (lv_at hl 0 rfl) ?_
                  refine lv_aload_n hx hb dX4_goThrough_114 rfl (lv_at hl 0 rfl) ?_
                  refine va_get (D := D) (ci := 4) (v := .ref (a 3)) (C := RX4) (T := TX4) (N := 32) hx hb hts hinX4 hown hK hP 0 rfl rfl 10 (by decide) (hts (.fieldLink RX4 16 "WorstPathsModel" "touch" "[I") (by decide +kernel)) (fun _ h9 => h9) rfl dX4_goThrough_115 ?_
                  refine lv_iload_n hx hb dX4_goThrough_118 rfl (lv_at hl 2 rfl) ?_
                  obtain ⟨hq, h⟩ := h
                  refine va_iald (D := D) hx hb hK hP 3 0 rfl rfl hq dX4_goThrough_119 ?_
                  have hF := wz_free hD hS hA
                  refine va_callv (va_runV (As := [.int (m_touch (Int32.toNatClampNeg v2_55))]) (rest := []) ⟨hx, hb, hml, hown, hts⟩ (c_X4_touchNow l D a cI cZ cJ _ m_thrown m_sets m_ways m_penalty m_blocks m_edges m_pairs m_lines m_isFresh m_isAnswer m_time m_touchMany m_touch m_line m_from m_to m_bound m_pairA m_pairB m_comeTo m_greatest m_least m_nowGreatest_55 m_nowLeast_55 (upd m_does_55 (Int32.toNatClampNeg v2_55) 0) m_mostTime m_leastTime m_countUnit m_flagUnit m_worst m_best m_stack (m_touch (Int32.toNatClampNeg v2_55)) _ h) (cwV 1 hts gX4_goThrough_X4_touchNow rfl rfl rfl (by decide +kernel) ⟨Nat.le_of_ble_eq_true rfl, Nat.le_of_ble_eq_true rfl⟩) ⟨wz_blind, va_recv hK hP (ci := 4) (q0 := 0) rfl rfl, fun U hU hW => wz_at hU hW hP hK hD⟩ rfl rfl hl.1 rfl (lv_room (Nat.le_of_ble_eq_true rfl)) dX4_goThrough_120 ⟨Nat.zero_le _, Nat.zero_le _⟩) hS (fun q _ hq => hF q hq) hF (fun u t H locs ht hvm h hB hz1 hk1 hS => ?_)
                  obtain ⟨m_nowGreatest_120, m_nowLeast_120⟩ := u
                  dsimp only at h hB
                  obtain ⟨hP, -, hD⟩ := wz_back ht hF hB
                  have hP : va_P D vwCl (wM a cI cZ cJ m_thrown m_sets m_ways m_penalty m_blocks m_edges m_pairs m_lines m_isFresh m_isAnswer m_time m_touchMany m_touch m_line m_from m_to m_bound m_pairA m_pairB m_comeTo m_greatest m_least m_nowGreatest_120 m_nowLeast_120 (upd m_does_55 (Int32.toNatClampNeg v2_55) 0) m_mostTime m_leastTime m_countUnit m_flagUnit m_worst m_best m_stack) H := hP
                  have hD : va_D A (wM a cI cZ cJ m_thrown m_sets m_ways m_penalty m_blocks m_edges m_pairs m_lines m_isFresh m_isAnswer m_time m_touchMany m_touch m_line m_from m_to m_bound m_pairA m_pairB m_comeTo m_greatest m_least m_nowGreatest_120 m_nowLeast_120 (upd m_does_55 (Int32.toNatClampNeg v2_55) 0) m_mostTime m_leastTime m_countUnit m_flagUnit m_worst m_best m_stack) := hD
                  refine lv_iinc (v := (v2_55 + 1)) (lv' := [(2, .int (v2_55 + 1)), (0, .ref (a 0)), (1, .int v1)]) hx hb dX4_goThrough_123 hl (k := 2) rfl rfl (by decide) rfl (fun ls hl => ?_)
                  refine lv_goto (tgt := 55) hx hb dX4_goThrough_126 (by decide) ?_
                  exact ih55 (v2_55 + 1) m_nowGreatest_120 m_nowLeast_120 (upd m_does_55 (Int32.toNatClampNeg v2_55) 0) h _ _ hP hD hS _ (lv_sub hl [1, 2, 0] rfl)
                · replace h := h.2 hc
                  refine lv_iconst (v := 2) hx hb dX4_goThrough_107 (by decide) ?_
                  refine lv_goto (tgt := 112) hx hb dX4_goThrough_108 (by decide) ?_
                  obtain ⟨hq, h⟩ := h
                  refine va_iast (D := D) hx hb hK hP hD hS 15 0 rfl rfl hq dX4_goThrough_112 (fun H locs hP hD hS => ?_)
                  have hP : va_P D vwCl (wM a cI cZ cJ m_thrown m_sets m_ways m_penalty m_blocks m_edges m_pairs m_lines m_isFresh m_isAnswer m_time m_touchMany m_touch m_line m_from m_to m_bound m_pairA m_pairB m_comeTo m_greatest m_least m_nowGreatest_55 m_nowLeast_55 (upd m_does_55 (Int32.toNatClampNeg v2_55) 2) m_mostTime m_leastTime m_countUnit m_flagUnit m_worst m_best m_stack) H := hP
                  have hD : va_D A (wM a cI cZ cJ m_thrown m_sets m_ways m_penalty m_blocks m_edges m_pairs m_lines m_isFresh m_isAnswer m_time m_touchMany m_touch m_line m_from m_to m_bound m_pairA m_pairB m_comeTo m_greatest m_least m_nowGreatest_55 m_nowLeast_55 (upd m_does_55 (Int32.toNatClampNeg v2_55) 2) m_mostTime m_leastTime m_countUnit m_flagUnit m_worst m_best m_stack) := hD
                  refine lv_aload_n hx hb dX4_goThrough_113 rfl (lv_at hl 0 rfl) ?_
                  refine lv_aload_n hx hb dX4_goThrough_114 rfl (lv_at hl 0 rfl) ?_
                  refine va_get (D := D) (ci := 4) (v := .ref (a 3)) (C := RX4) (T := TX4) (N := 32) hx hb hts hinX4 hown hK hP 0 rfl rfl 10 (by decide) (hts (.fieldLink RX4 16 "WorstPathsModel" "touch" "[I") (by decide +kernel)) (fun _ h9 => h9) rfl dX4_goThrough_115 ?_
                  refine lv_iload_n hx hb dX4_goThrough_118 rfl (lv_at hl 2 rfl) ?_
                  obtain ⟨hq, h⟩ := h
                  refine va_iald (D := D) hx hb hK hP 3 0 rfl rfl hq dX4_goThrough_119 ?_
                  have hF := wz_free hD hS hA
                  refine va_callv (va_runV (As := [.int (m_touch (Int32.toNatClampNeg v2_55))]) (rest := []) ⟨hx, hb, hml, hown, hts⟩ (c_X4_touchNow l D a cI cZ cJ _ m_thrown m_sets m_ways m_penalty m_blocks m_edges m_pairs m_lines m_isFresh m_isAnswer m_time m_touchMany m_touch m_line m_from m_to m_bound m_pairA m_pairB m_comeTo m_greatest m_least m_nowGreatest_55 m_nowLeast_55 (upd m_does_55 (Int32.toNatClampNeg v2_55) 2) m_mostTime m_leastTime m_countUnit m_flagUnit m_worst m_best m_stack (m_touch (Int32.toNatClampNeg v2_55)) _ h) (cwV 1 hts gX4_goThrough_X4_touchNow rfl rfl rfl (by decide +kernel) ⟨Nat.le_of_ble_eq_true rfl, Nat.le_of_ble_eq_true rfl⟩) ⟨wz_blind, va_recv hK hP (ci := 4) (q0 := 0) rfl rfl, fun U hU hW => wz_at hU hW hP hK hD⟩ rfl rfl hl.1 rfl (lv_room (Nat.le_of_ble_eq_true rfl)) dX4_goThrough_120 ⟨Nat.zero_le _, Nat.zero_le _⟩) hS (fun q _ hq => hF q hq) hF (fun u t H locs ht hvm h hB hz1 hk1 hS => ?_)
                  obtain ⟨m_nowGreatest_120, m_nowLeast_120⟩ := u
                  dsimp only at h hB
                  obtain ⟨hP, -, hD⟩ := wz_back ht hF hB
                  have hP : va_P D vwCl (wM a cI cZ cJ m_thrown m_sets m_ways m_penalty m_blocks m_edges m_pairs m_lines m_isFresh m_isAnswer m_time m_touchMany m_touch m_line m_from m_to m_bound m_pairA m_pairB m_comeTo m_greatest m_least m_nowGreatest_120 m_nowLeast_120 (upd m_does_55 (Int32.toNatClampNeg v2_55) 2) m_mostTime m_leastTime m_countUnit m_flagUnit m_worst m_best m_stack) H := hP
                  have hD : va_D A (wM a cI cZ cJ m_thrown m_sets m_ways m_penalty m_blocks m_edges m_pairs m_lines m_isFresh m_isAnswer m_time m_touchMany m_touch m_line m_from m_to m_bound m_pairA m_pairB m_comeTo m_greatest m_least m_nowGreatest_120 m_nowLeast_120 (upd m_does_55 (Int32.toNatClampNeg v2_55) 2) m_mostTime m_leastTime m_countUnit m_flagUnit m_worst m_best m_stack) := hD
                  refine lv_iinc (v := (v2_55 + 1)) (lv' := [(2, .int (v2_55 + 1)), (0, .ref (a 0)), (1, .int v1)]) hx hb dX4_goThrough_123 hl (k := 2) rfl rfl (by decide) rfl (fun ls hl => ?_)
                  refine lv_goto (tgt := 55) hx hb dX4_goThrough_126 (by decide) ?_
                  exact ih55 (v2_55 + 1) m_nowGreatest_120 m_nowLeast_120 (upd m_does_55 (Int32.toNatClampNeg v2_55) 2) h _ _ hP hD hS _ (lv_sub hl [1, 2, 0] rfl)
              · replace h := h.2 hc
                refine lv_iconst (v := 1) hx hb dX4_goThrough_89 (by decide) ?_
                refine lv_goto (tgt := 112) hx hb dX4_goThrough_90 (by decide) ?_
                obtain ⟨hq, h⟩ := h
                refine va_iast (D := D) hx hb hK hP hD hS 15 0 rfl rfl hq dX4_goThrough_112 (fun H locs hP hD hS => ?_)
                have hP : va_P D vwCl (wM a cI cZ cJ m_thrown m_sets m_ways m_penalty m_blocks m_edges m_pairs m_lines m_isFresh m_isAnswer m_time m_touchMany m_touch m_line m_from m_to m_bound m_pairA m_pairB m_comeTo m_greatest m_least m_nowGreatest_55 m_nowLeast_55 (upd m_does_55 (Int32.toNatClampNeg v2_55) 1) m_mostTime m_leastTime m_countUnit m_flagUnit m_worst m_best m_stack) H := hP
                have hD : va_D A (wM a cI cZ cJ m_thrown m_sets m_ways m_penalty m_blocks m_edges m_pairs m_lines m_isFresh m_isAnswer m_time m_touchMany m_touch m_line m_from m_to m_bound m_pairA m_pairB m_comeTo m_greatest m_least m_nowGreatest_55 m_nowLeast_55 (upd m_does_55 (Int32.toNatClampNeg v2_55) 1) m_mostTime m_leastTime m_countUnit m_flagUnit m_worst m_best m_stack) := hD
                refine lv_aload_n hx hb dX4_goThrough_113 rfl (lv_at hl 0 rfl) ?_
                refine lv_aload_n hx hb dX4_goThrough_114 rfl (lv_at hl 0 rfl) ?_
                refine va_get (D := D) (ci := 4) (v := .ref (a 3)) (C := RX4) (T := TX4) (N := 32) hx hb hts hinX4 hown hK hP 0 rfl rfl 10 (by decide) (hts (.fieldLink RX4 16 "WorstPathsModel" "touch" "[I") (by decide +kernel)) (fun _ h9 => h9) rfl dX4_goThrough_115 ?_
                refine lv_iload_n hx hb dX4_goThrough_118 rfl (lv_at hl 2 rfl) ?_
                obtain ⟨hq, h⟩ := h
                refine va_iald (D := D) hx hb hK hP 3 0 rfl rfl hq dX4_goThrough_119 ?_
                have hF := wz_free hD hS hA
                refine va_callv (va_runV (As := [.int (m_touch (Int32.toNatClampNeg v2_55))]) (rest := []) ⟨hx, hb, hml, hown, hts⟩ (c_X4_touchNow l D a cI cZ cJ _ m_thrown m_sets m_ways m_penalty m_blocks m_edges m_pairs m_lines m_isFresh m_isAnswer m_time m_touchMany m_touch m_line m_from m_to m_bound m_pairA m_pairB m_comeTo m_greatest m_least m_nowGreatest_55 m_nowLeast_55 (upd m_does_55 (Int32.toNatClampNeg v2_55) 1) m_mostTime m_leastTime m_countUnit m_flagUnit m_worst m_best m_stack (m_touch (Int32.toNatClampNeg v2_55)) _ h) (cwV 1 hts gX4_goThrough_X4_touchNow rfl rfl rfl (by decide +kernel) ⟨Nat.le_of_ble_eq_true rfl, Nat.le_of_ble_eq_true rfl⟩) ⟨wz_blind, va_recv hK hP (ci := 4) (q0 := 0) rfl rfl, fun U hU hW => wz_at hU hW hP hK hD⟩ rfl rfl hl.1 rfl (lv_room (Nat.le_of_ble_eq_true rfl)) dX4_goThrough_120 ⟨Nat.zero_le _, Nat.zero_le _⟩) hS (fun q _ hq => hF q hq) hF (fun u t H locs ht hvm h hB hz1 hk1 hS => ?_)
                obtain ⟨m_nowGreatest_120, m_nowLeast_120⟩ := u
                dsimp only at h hB
                obtain ⟨hP, -, hD⟩ := wz_back ht hF hB
                have hP : va_P D vwCl (wM a cI cZ cJ m_thrown m_sets m_ways m_penalty m_blocks m_edges m_pairs m_lines m_isFresh m_isAnswer m_time m_touchMany m_touch m_line m_from m_to m_bound m_pairA m_pairB m_comeTo m_greatest m_least m_nowGreatest_120 m_nowLeast_120 (upd m_does_55 (Int32.toNatClampNeg v2_55) 1) m_mostTime m_leastTime m_countUnit m_flagUnit m_worst m_best m_stack) H := hP
                have hD : va_D A (wM a cI cZ cJ m_thrown m_sets m_ways m_penalty m_blocks m_edges m_pairs m_lines m_isFresh m_isAnswer m_time m_touchMany m_touch m_line m_from m_to m_bound m_pairA m_pairB m_comeTo m_greatest m_least m_nowGreatest_120 m_nowLeast_120 (upd m_does_55 (Int32.toNatClampNeg v2_55) 1) m_mostTime m_leastTime m_countUnit m_flagUnit m_worst m_best m_stack) := hD
                refine lv_iinc (v := (v2_55 + 1)) (lv' := [(2, .int (v2_55 + 1)), (0, .ref (a 0)), (1, .int v1)]) hx hb dX4_goThrough_123 hl (k := 2) rfl rfl (by decide) rfl (fun ls hl => ?_)
                refine lv_goto (tgt := 55) hx hb dX4_goThrough_126 (by decide) ?_
                exact ih55 (v2_55 + 1) m_nowGreatest_120 m_nowLeast_120 (upd m_does_55 (Int32.toNatClampNeg v2_55) 1) h _ _ hP hD hS _ (lv_sub hl [1, 2, 0] rfl)
        obtain ⟨k9, h⟩ := h
        exact LP55 k9 (6 * v1) m_nowGreatest_2 m_nowLeast_2 m_does h _ _ hP hD hS _ (lv_sub hl [1, 2, 0] rfl)
      · replace h := h.2 hc
        refine lv_aload_n hx hb dX4_goThrough_10 rfl (lv_at hl 0 rfl) ?_
        refine va_get (D := D) (ci := 4) (v := .ref (a 13)) (C := RX4) (T := TX4) (N := 32) hx hb hts hinX4 hown hK hP 0 rfl rfl 21 (by decide) (hts (.fieldLink RX4 47 "WorstPathsModel" "nowGreatest" "[I") (by decide +kernel)) (fun _ h9 => h9) rfl dX4_goThrough_11 ?_
        refine lv_iload_n hx hb dX4_goThrough_14 rfl (lv_at hl 2 rfl) ?_
        refine lv_aload_n hx hb dX4_goThrough_15 rfl (lv_at hl 0 rfl) ?_
        refine va_get (D := D) (ci := 4) (v := .ref (a 11)) (C := RX4) (T := TX4) (N := 32) hx hb hts hinX4 hown hK hP 0 rfl rfl 19 (by decide) (hts (.fieldLink RX4 41 "WorstPathsModel" "greatest" "[I") (by decide +kernel)) (fun _ h9 => h9) rfl dX4_goThrough_16 ?_
        refine lv_bipush (v := 40) hx hb dX4_goThrough_19 (by decide) ?_
        refine lv_iload_n hx hb dX4_goThrough_21 rfl (lv_at hl 1 rfl) ?_
        refine lv_imul hx hb dX4_goThrough_22 ?_
        refine lv_iload_n hx hb dX4_goThrough_23 rfl (lv_at hl 2 rfl) ?_
        refine lv_iadd hx hb dX4_goThrough_24 ?_
        obtain ⟨hq, h⟩ := h
        refine va_iald (D := D) hx hb hK hP 11 0 rfl rfl hq dX4_goThrough_25 ?_
        obtain ⟨hq, h⟩ := h
        refine va_iast (D := D) hx hb hK hP hD hS 13 0 rfl rfl hq dX4_goThrough_26 (fun H locs hP hD hS => ?_)
        have hP : va_P D vwCl (wM a cI cZ cJ m_thrown m_sets m_ways m_penalty m_blocks m_edges m_pairs m_lines m_isFresh m_isAnswer m_time m_touchMany m_touch m_line m_from m_to m_bound m_pairA m_pairB m_comeTo m_greatest m_least (upd m_nowGreatest_2 (Int32.toNatClampNeg v2_2) (m_greatest (Int32.toNatClampNeg ((40 * v1) + v2_2)))) m_nowLeast_2 m_does m_mostTime m_leastTime m_countUnit m_flagUnit m_worst m_best m_stack) H := hP
        have hD : va_D A (wM a cI cZ cJ m_thrown m_sets m_ways m_penalty m_blocks m_edges m_pairs m_lines m_isFresh m_isAnswer m_time m_touchMany m_touch m_line m_from m_to m_bound m_pairA m_pairB m_comeTo m_greatest m_least (upd m_nowGreatest_2 (Int32.toNatClampNeg v2_2) (m_greatest (Int32.toNatClampNeg ((40 * v1) + v2_2)))) m_nowLeast_2 m_does m_mostTime m_leastTime m_countUnit m_flagUnit m_worst m_best m_stack) := hD
        refine lv_aload_n hx hb dX4_goThrough_27 rfl (lv_at hl 0 rfl) ?_
        refine va_get (D := D) (ci := 4) (v := .ref (a 14)) (C := RX4) (T := TX4) (N := 32) hx hb hts hinX4 hown hK hP 0 rfl rfl 22 (by decide) (hts (.fieldLink RX4 50 "WorstPathsModel" "nowLeast" "[I") (by decide +kernel)) (fun _ h9 => h9) rfl dX4_goThrough_28 ?_
        refine lv_iload_n hx hb dX4_goThrough_31 rfl (lv_at hl 2 rfl) ?_
        refine lv_aload_n hx hb dX4_goThrough_32 rfl (lv_at hl 0 rfl) ?_
        refine va_get (D := D) (ci := 4) (v := .ref (a 12)) (C := RX4) (T := TX4) (N := 32) hx hb hts hinX4 hown hK hP 0 rfl rfl 20 (by decide) (hts (.fieldLink RX4 44 "WorstPathsModel" "least" "[I") (by decide +kernel)) (fun _ h9 => h9) rfl dX4_goThrough_33 ?_
        refine lv_bipush (v := 40) hx hb dX4_goThrough_36 (by decide) ?_
        refine lv_iload_n hx hb dX4_goThrough_38 rfl (lv_at hl 1 rfl) ?_
        refine lv_imul hx hb dX4_goThrough_39 ?_
        refine lv_iload_n hx hb dX4_goThrough_40 rfl (lv_at hl 2 rfl) ?_
        refine lv_iadd hx hb dX4_goThrough_41 ?_
        obtain ⟨hq, h⟩ := h
        refine va_iald (D := D) hx hb hK hP 12 0 rfl rfl hq dX4_goThrough_42 ?_
        obtain ⟨hq, h⟩ := h
        refine va_iast (D := D) hx hb hK hP hD hS 14 0 rfl rfl hq dX4_goThrough_43 (fun H locs hP hD hS => ?_)
        have hP : va_P D vwCl (wM a cI cZ cJ m_thrown m_sets m_ways m_penalty m_blocks m_edges m_pairs m_lines m_isFresh m_isAnswer m_time m_touchMany m_touch m_line m_from m_to m_bound m_pairA m_pairB m_comeTo m_greatest m_least (upd m_nowGreatest_2 (Int32.toNatClampNeg v2_2) (m_greatest (Int32.toNatClampNeg ((40 * v1) + v2_2)))) (upd m_nowLeast_2 (Int32.toNatClampNeg v2_2) (m_least (Int32.toNatClampNeg ((40 * v1) + v2_2)))) m_does m_mostTime m_leastTime m_countUnit m_flagUnit m_worst m_best m_stack) H := hP
        have hD : va_D A (wM a cI cZ cJ m_thrown m_sets m_ways m_penalty m_blocks m_edges m_pairs m_lines m_isFresh m_isAnswer m_time m_touchMany m_touch m_line m_from m_to m_bound m_pairA m_pairB m_comeTo m_greatest m_least (upd m_nowGreatest_2 (Int32.toNatClampNeg v2_2) (m_greatest (Int32.toNatClampNeg ((40 * v1) + v2_2)))) (upd m_nowLeast_2 (Int32.toNatClampNeg v2_2) (m_least (Int32.toNatClampNeg ((40 * v1) + v2_2)))) m_does m_mostTime m_leastTime m_countUnit m_flagUnit m_worst m_best m_stack) := hD
        refine lv_iinc (v := (v2_2 + 1)) (lv' := [(2, .int (v2_2 + 1)), (0, .ref (a 0)), (1, .int v1)]) hx hb dX4_goThrough_44 hl (k := 2) rfl rfl (by decide) rfl (fun ls hl => ?_)
        refine lv_goto (tgt := 2) hx hb dX4_goThrough_47 (by decide) ?_
        exact ih2 (v2_2 + 1) (upd m_nowGreatest_2 (Int32.toNatClampNeg v2_2) (m_greatest (Int32.toNatClampNeg ((40 * v1) + v2_2)))) (upd m_nowLeast_2 (Int32.toNatClampNeg v2_2) (m_least (Int32.toNatClampNeg ((40 * v1) + v2_2)))) h _ _ hP hD hS _ (lv_sub hl [1, 2, 0] rfl)
  obtain ⟨k9, h⟩ := h
  exact LP2 k9 0 m_nowGreatest m_nowLeast h _ _ hP hD hS _ (lv_sub hl [1, 2, 0] rfl)
def jn_X4_meet_221 (v1 : Int32) (v3 : Int32) (v4 : Int32) (v5 : Int32) (v6 : Int32) (m_lines : Int32) (m_comeTo : Nat → Int32) (m_greatest : Nat → Int32) (m_least : Nat → Int32) (m_nowGreatest : Nat → Int32) (m_nowLeast : Nat → Int32) (t0 : Int32) (K17 : Int32 → Int32 → (Nat → Int32) → (Nat → Int32) → Prop) (Q : Int32 → (Nat → Int32) → (Nat → Int32) → (Nat → Int32) → Prop) : Prop := vp_in v4 1600 ∧ (vp_in v4 1600 ∧ (K17 t0 (v3 + 1) (upd m_greatest (Int32.toNatClampNeg v4) v5) (upd m_least (Int32.toNatClampNeg v4) v6)))
def jn_X4_meet_186 (v1 : Int32) (v2 : Int32) (v3 : Int32) (v4 : Int32) (v5 : Int32) (m_lines : Int32) (m_comeTo : Nat → Int32) (m_greatest : Nat → Int32) (m_least : Nat → Int32) (m_nowGreatest : Nat → Int32) (m_nowLeast : Nat → Int32) (t0 : Int32) (K17 : Int32 → Int32 → (Nat → Int32) → (Nat → Int32) → Prop) (Q : Int32 → (Nat → Int32) → (Nat → Int32) → (Nat → Int32) → Prop) : Prop := (¬ v2 = 0 → jn_X4_meet_221 v1 v3 v4 v5 t0 m_lines m_comeTo m_greatest m_least m_nowGreatest m_nowLeast 1 K17 Q) ∧ (v2 = 0 → vp_in v4 1600 ∧ ((¬ v5 = (m_greatest (Int32.toNatClampNeg v4)) → jn_X4_meet_221 v1 v3 v4 v5 t0 m_lines m_comeTo m_greatest m_least m_nowGreatest m_nowLeast 1 K17 Q) ∧ (v5 = (m_greatest (Int32.toNatClampNeg v4)) → vp_in v4 1600 ∧ ((t0 = (m_least (Int32.toNatClampNeg v4)) → jn_X4_meet_221 v1 v3 v4 v5 t0 m_lines m_comeTo m_greatest m_least m_nowGreatest m_nowLeast 0 K17 Q) ∧ (¬ t0 = (m_least (Int32.toNatClampNeg v4)) → jn_X4_meet_221 v1 v3 v4 v5 t0 m_lines m_comeTo m_greatest m_least m_nowGreatest m_nowLeast 1 K17 Q)))))
def jn_X4_meet_106 (v1 : Int32) (v2 : Int32) (v3 : Int32) (v4 : Int32) (m_lines : Int32) (m_comeTo : Nat → Int32) (m_greatest : Nat → Int32) (m_least : Nat → Int32) (m_nowGreatest : Nat → Int32) (m_nowLeast : Nat → Int32) (t0 : Int32) (K17 : Int32 → Int32 → (Nat → Int32) → (Nat → Int32) → Prop) (Q : Int32 → (Nat → Int32) → (Nat → Int32) → (Nat → Int32) → Prop) : Prop := vp_in v1 40 ∧ ((¬ (m_comeTo (Int32.toNatClampNeg v1)) = 0 → vp_in v4 1600 ∧ ((0 ≤ (m_least (Int32.toNatClampNeg v4)) → vp_in v3 40 ∧ (((m_nowLeast (Int32.toNatClampNeg v3)) < 0 → vp_in v4 1600 ∧ (jn_X4_meet_186 v1 v2 v3 v4 t0 m_lines m_comeTo m_greatest m_least m_nowGreatest m_nowLeast (m_least (Int32.toNatClampNeg v4)) K17 Q)) ∧ (¬ (m_nowLeast (Int32.toNatClampNeg v3)) < 0 → vp_in v4 1600 ∧ (vp_in v3 40 ∧ (((m_nowLeast (Int32.toNatClampNeg v3)) ≤ (m_least (Int32.toNatClampNeg v4)) → vp_in v3 40 ∧ (jn_X4_meet_186 v1 v2 v3 v4 t0 m_lines m_comeTo m_greatest m_least m_nowGreatest m_nowLeast (m_nowLeast (Int32.toNatClampNeg v3)) K17 Q)) ∧ (¬ (m_nowLeast (Int32.toNatClampNeg v3)) ≤ (m_least (Int32.toNatClampNeg v4)) → vp_in v4 1600 ∧ (jn_X4_meet_186 v1 v2 v3 v4 t0 m_lines m_comeTo m_greatest m_least m_nowGreatest m_nowLeast (m_least (Int32.toNatClampNeg v4)) K17 Q))))))) ∧ (¬ 0 ≤ (m_least (Int32.toNatClampNeg v4)) → vp_in v3 40 ∧ (jn_X4_meet_186 v1 v2 v3 v4 t0 m_lines m_comeTo m_greatest m_least m_nowGreatest m_nowLeast (m_nowLeast (Int32.toNatClampNeg v3)) K17 Q)))) ∧ ((m_comeTo (Int32.toNatClampNeg v1)) = 0 → vp_in v3 40 ∧ (jn_X4_meet_186 v1 v2 v3 v4 t0 m_lines m_comeTo m_greatest m_least m_nowGreatest m_nowLeast (m_nowLeast (Int32.toNatClampNeg v3)) K17 Q)))
def lp_X4_meet_17 (v1 : Int32) (m_lines : Int32) (m_comeTo : Nat → Int32) (m_nowGreatest : Nat → Int32) (m_nowLeast : Nat → Int32) (Q : Int32 → (Nat → Int32) → (Nat → Int32) → (Nat → Int32) → Prop) : Nat → Int32 → Int32 → (Nat → Int32) → (Nat → Int32) → Prop
  | 0, _, _, _, _ => False
  | n + 1, v2, v3, m_greatest, m_least => (m_lines ≤ v3 → vp_in v1 40 ∧ ((narrow .boolean (.int v2) = .int v2) ∧ Q v2 (upd m_comeTo (Int32.toNatClampNeg v1) (vp_nar .boolean 1)) m_greatest m_least)) ∧ (¬ m_lines ≤ v3 → vp_in v1 40 ∧ ((¬ (m_comeTo (Int32.toNatClampNeg v1)) = 0 → vp_in ((40 * v1) + v3) 1600 ∧ (((m_greatest (Int32.toNatClampNeg ((40 * v1) + v3))) < 0 → jn_X4_meet_106 v1 v2 v3 ((40 * v1) + v3) m_lines m_comeTo m_greatest m_least m_nowGreatest m_nowLeast (-1) (lp_X4_meet_17 v1 m_lines m_comeTo m_nowGreatest m_nowLeast Q n) Q) ∧ (¬ (m_greatest (Int32.toNatClampNeg ((40 * v1) + v3))) < 0 → vp_in v3 40 ∧ ((0 ≤ (m_nowGreatest (Int32.toNatClampNeg v3)) → vp_in ((40 * v1) + v3) 1600 ∧ (vp_in v3 40 ∧ (((m_greatest (Int32.toNatClampNeg ((40 * v1) + v3))) ≤ (m_nowGreatest (Int32.toNatClampNeg v3)) → vp_in v3 40 ∧ (jn_X4_meet_106 v1 v2 v3 ((40 * v1) + v3) m_lines m_comeTo m_greatest m_least m_nowGreatest m_nowLeast (m_nowGreatest (Int32.toNatClampNeg v3)) (lp_X4_meet_17 v1 m_lines m_comeTo m_nowGreatest m_nowLeast Q n) Q)) ∧ (¬ (m_greatest (Int32.toNatClampNeg ((40 * v1) + v3))) ≤ (m_nowGreatest (Int32.toNatClampNeg v3)) → vp_in ((40 * v1) + v3) 1600 ∧ (jn_X4_meet_106 v1 v2 v3 ((40 * v1) + v3) m_lines m_comeTo m_greatest m_least m_nowGreatest m_nowLeast (m_greatest (Int32.toNatClampNeg ((40 * v1) + v3))) (lp_X4_meet_17 v1 m_lines m_comeTo m_nowGreatest m_nowLeast Q n) Q))))) ∧ (¬ 0 ≤ (m_nowGreatest (Int32.toNatClampNeg v3)) → jn_X4_meet_106 v1 v2 v3 ((40 * v1) + v3) m_lines m_comeTo m_greatest m_least m_nowGreatest m_nowLeast (-1) (lp_X4_meet_17 v1 m_lines m_comeTo m_nowGreatest m_nowLeast Q n) Q))))) ∧ ((m_comeTo (Int32.toNatClampNeg v1)) = 0 → vp_in v3 40 ∧ (jn_X4_meet_106 v1 v2 v3 ((40 * v1) + v3) m_lines m_comeTo m_greatest m_least m_nowGreatest m_nowLeast (m_nowGreatest (Int32.toNatClampNeg v3)) (lp_X4_meet_17 v1 m_lines m_comeTo m_nowGreatest m_nowLeast Q n) Q))))
def wp_X4_meet (v1 : Int32) (m_lines : Int32) (m_comeTo : Nat → Int32) (m_greatest : Nat → Int32) (m_least : Nat → Int32) (m_nowGreatest : Nat → Int32) (m_nowLeast : Nat → Int32) (Q : Int32 → (Nat → Int32) → (Nat → Int32) → (Nat → Int32) → Prop) : Prop := vp_in v1 40 ∧ ((¬ (m_comeTo (Int32.toNatClampNeg v1)) = 0 → ∃ k17, lp_X4_meet_17 v1 m_lines m_comeTo m_nowGreatest m_nowLeast Q k17 0 0 m_greatest m_least) ∧ ((m_comeTo (Int32.toNatClampNeg v1)) = 0 → ∃ k17, lp_X4_meet_17 v1 m_lines m_comeTo m_nowGreatest m_nowLeast Q k17 1 0 m_greatest m_least))
abbrev rm_X4_meet : Room := { frames := 0, cells := 0, slots := 0, locals := 0 }
set_option maxHeartbeats 4000000 in
set_option maxRecDepth 100000 in
theorem c_X4_meet (l : Launch) (D : va_G) (a : Nat → Nat) (cI : ClassId) (cZ : ClassId) (cJ : ClassId) (sz : Nat) (m_thrown : Int32) (m_sets : Int32) (m_ways : Int32) (m_penalty : Int32) (m_blocks : Int32) (m_edges : Int32) (m_pairs : Int32) (m_lines : Int32) (m_isFresh : Int32) (m_isAnswer : Int32) (m_time : Nat → Int32) (m_touchMany : Nat → Int32) (m_touch : Nat → Int32) (m_line : Nat → Int32) (m_from : Nat → Int32) (m_to : Nat → Int32) (m_bound : Nat → Int32) (m_pairA : Nat → Int32) (m_pairB : Nat → Int32) (m_comeTo : Nat → Int32) (m_greatest : Nat → Int32) (m_least : Nat → Int32) (m_nowGreatest : Nat → Int32) (m_nowLeast : Nat → Int32) (m_does : Nat → Int32) (m_mostTime : Nat → Int64) (m_leastTime : Nat → Int64) (m_countUnit : Nat → Int32) (m_flagUnit : Nat → Int32) (m_worst : Nat → Int64) (m_best : Nat → Int64) (m_stack : Nat → Int32) (v1 : Int32) (Q : Int32 → (Nat → Int32) → (Nat → Int32) → (Nat → Int32) → Prop) (h : wp_X4_meet v1 m_lines m_comeTo m_greatest m_least m_nowGreatest m_nowLeast Q) : Met l yX4_meet wsX4_meet rm_X4_meet (va_Pc [.ref (a 0), .int v1] (inW D cI cZ cJ sz (wM a cI cZ cJ m_thrown m_sets m_ways m_penalty m_blocks m_edges m_pairs m_lines m_isFresh m_isAnswer m_time m_touchMany m_touch m_line m_from m_to m_bound m_pairA m_pairB m_comeTo m_greatest m_least m_nowGreatest m_nowLeast m_does m_mostTime m_leastTime m_countUnit m_flagUnit m_worst m_best m_stack))) (va_Qi (fun (r : Int32) (u : (Nat → Int32) × (Nat → Int32) × (Nat → Int32)) => Q r u.1 u.2.1 u.2.2) (fun (u : (Nat → Int32) × (Nat → Int32) × (Nat → Int32)) => outW D cI cZ cJ (va_A (wM a cI cZ cJ m_thrown m_sets m_ways m_penalty m_blocks m_edges m_pairs m_lines m_isFresh m_isAnswer m_time m_touchMany m_touch m_line m_from m_to m_bound m_pairA m_pairB m_comeTo m_greatest m_least m_nowGreatest m_nowLeast m_does m_mostTime m_leastTime m_countUnit m_flagUnit m_worst m_best m_stack) sz) (wM a cI cZ cJ m_thrown m_sets m_ways m_penalty m_blocks m_edges m_pairs m_lines m_isFresh m_isAnswer m_time m_touchMany m_touch m_line m_from m_to m_bound m_pairA m_pairB u.1 u.2.1 u.2.2 m_nowGreatest m_nowLeast m_does m_mostTime m_leastTime m_countUnit m_flagUnit m_worst m_best m_stack)) (va_A (wM a cI cZ cJ m_thrown m_sets m_ways m_penalty m_blocks m_edges m_pairs m_lines m_isFresh m_isAnswer m_time m_touchMany m_touch m_line m_from m_to m_bound m_pairA m_pairB m_comeTo m_greatest m_least m_nowGreatest m_nowLeast m_does m_mostTime m_leastTime m_countUnit m_flagUnit m_worst m_best m_stack) sz)) 0 0 (va_A (wM a cI cZ cJ m_thrown m_sets m_ways m_penalty m_blocks m_edges m_pairs m_lines m_isFresh m_isAnswer m_time m_touchMany m_touch m_line m_from m_to m_bound m_pairA m_pairB m_comeTo m_greatest m_least m_nowGreatest m_nowLeast m_does m_mostTime m_leastTime m_countUnit m_flagUnit m_worst m_best m_stack) sz) := by
  refine Met.ofW (cc := cX4_meet) (maxL := 7) (ret := (some .boolean)) (by decide +kernel) rfl ?_
  intro p e s m args below meth c s₁ B hml hv
  obtain ⟨rfl, hsz, hP, hK, hD0⟩ := hv
  have hx := B.exec
  have hb := B.bytes
  have hr := B.returns
  have hts := atoms_spec (ws := wsX4_meet) B.pre
  have hown : s.vm.findClass RX4 = some m.cls := findClass_of_methodNamed B.named
  have hlocks := B.notSynchronized
  have hinX4 : ∀ w ∈ wsX40, w ∈ wsX4_meet := by decide +kernel
  subst hsz
  have hD := hD0.self (sz := s.heap.size)
  generalize hAe : va_A (wM a cI cZ cJ m_thrown m_sets m_ways m_penalty m_blocks m_edges m_pairs m_lines m_isFresh m_isAnswer m_time m_touchMany m_touch m_line m_from m_to m_bound m_pairA m_pairB m_comeTo m_greatest m_least m_nowGreatest m_nowLeast m_does m_mostTime m_leastTime m_countUnit m_flagUnit m_worst m_best m_stack) s.heap.size = A at hD ⊢
  have hA : ∀ q : Nat, s.heap.size ≤ q → A q := fun q h => by rw [← hAe]; exact Or.inr h
  have hS : va_S A s.heap s.heap [] := va_S.rf
  have hP : va_P D vwCl (wM a cI cZ cJ m_thrown m_sets m_ways m_penalty m_blocks m_edges m_pairs m_lines m_isFresh m_isAnswer m_time m_touchMany m_touch m_line m_from m_to m_bound m_pairA m_pairB m_comeTo m_greatest m_least m_nowGreatest m_nowLeast m_does m_mostTime m_leastTime m_countUnit m_flagUnit m_worst m_best m_stack) s.heap := hP
  have hl := lv_entry ([.ref (a 0), .int v1]) (n := 7) (Nat.le_of_ble_eq_true rfl)
  rw [lg_entry_eq]
  generalize (lg_sl ([.ref (a 0), .int v1]) ++ List.replicate (7 - (lg_sl ([.ref (a 0), .int v1])).length) Slot.unset).toArray = ls at hl ⊢
  have hl : lv_has ls 7 [(0, .ref (a 0)), (1, .int v1)] := hl
  refine wz_abs (fun Qz hQz => ?_)
  unfold wp_X4_meet at h
  refine lv_aload_n hx hb dX4_meet_0 rfl (lv_at hl 0 rfl) ?_
  refine va_get (D := D) (ci := 4) (v := .ref (a 10)) (C := RX4) (T := TX4) (N := 32) hx hb hts hinX4 hown hK hP 0 rfl rfl 18 (by decide) (hts (.fieldLink RX4 37 "WorstPathsModel" "comeTo" "[Z") (by decide +kernel)) (fun _ h9 => h9) rfl dX4_meet_1 ?_
  refine lv_iload_n hx hb dX4_meet_4 rfl (lv_at hl 1 rfl) ?_
  obtain ⟨hq, h⟩ := h
  refine va_zald (D := D) hx hb hK hP 10 1 rfl rfl hq dX4_meet_5 ?_
  refine lv_if_ne (tgt := 13) hx hb dX4_meet_6 (by decide) (fun hc => ?_) (fun hc => ?_)
  · replace h := h.1 hc
    refine lv_iconst (v := 0) hx hb dX4_meet_13 (by decide) ?_
    refine lv_istore_n (lv' := [(2, .int 0), (0, .ref (a 0)), (1, .int v1)]) hx hb dX4_meet_14 rfl hl (by decide) rfl (fun ls hl => ?_)
    refine lv_iconst (v := 0) hx hb dX4_meet_15 (by decide) ?_
    refine lv_istore_n (lv' := [(3, .int 0), (2, .int 0), (0, .ref (a 0)), (1, .int v1)]) hx hb dX4_meet_16 rfl hl (by decide) rfl (fun ls hl => ?_)
    have LP17 : ∀ (n17 : Nat) (v2_17 : Int32) (v3_17 : Int32) (m_greatest_17 : Nat → Int32) (m_least_17 : Nat → Int32), lp_X4_meet_17 v1 m_lines m_comeTo m_nowGreatest m_nowLeast Q n17 v2_17 v3_17 m_greatest_17 m_least_17 → ∀ (H : Heap) (locs : List Loc), va_P D vwCl (wM a cI cZ cJ m_thrown m_sets m_ways m_penalty m_blocks m_edges m_pairs m_lines m_isFresh m_isAnswer m_time m_touchMany m_touch m_line m_from m_to m_bound m_pairA m_pairB m_comeTo m_greatest_17 m_least_17 m_nowGreatest m_nowLeast m_does m_mostTime m_leastTime m_countUnit m_flagUnit m_worst m_best m_stack) H → va_D A (wM a cI cZ cJ m_thrown m_sets m_ways m_penalty m_blocks m_edges m_pairs m_lines m_isFresh m_isAnswer m_time m_touchMany m_touch m_line m_from m_to m_bound m_pairA m_pairB m_comeTo m_greatest_17 m_least_17 m_nowGreatest m_nowLeast m_does m_mostTime m_leastTime m_countUnit m_flagUnit m_worst m_best m_stack) → va_S A s.heap H locs → ∀ (ls : Array Slot), lv_has ls 7 [(0, .ref (a 0)), (1, .int v1), (2, .int v2_17), (3, .int v3_17)] → W p l e (headSpec wsX4_meet rm_X4_meet).room s m ([Value.ref (a 0), Value.int v1] : List Value).toArray below meth c H locs 0 0 Qz (F0 m 17 ls []) := by
      intro n17
      induction n17 with
      | zero => intro v2_17 v3_17 m_greatest_17 m_least_17 h; exact h.elim
      | succ n17 ih17 =>
        intro v2_17 v3_17 m_greatest_17 m_least_17 h H locs hP hD hS ls hl
        unfold lp_X4_meet_17 at h
        refine lv_iload_n hx hb dX4_meet_17 rfl (lv_at hl 3 rfl) ?_
        refine lv_aload_n hx hb dX4_meet_18 rfl (lv_at hl 0 rfl) ?_
        refine va_get (D := D) (ci := 4) (v := .int m_lines) (C := RX4) (T := TX4) (N := 32) hx hb hts hinX4 hown hK hP 0 rfl rfl 7 (by decide) (hts (.fieldLink RX4 113 "WorstPathsModel" "lines" "I") (by decide +kernel)) (fun _ h9 => h9) rfl dX4_meet_19 ?_
        refine lv_icmp_ge (tgt := 246) hx hb dX4_meet_22 (by decide) (fun hc => ?_) (fun hc => ?_)
        · replace h := h.1 hc
          refine lv_aload_n hx hb dX4_meet_246 rfl (lv_at hl 0 rfl) ?_
          refine va_get (D := D) (ci := 4) (v := .ref (a 10)) (C := RX4) (T := TX4) (N := 32) hx hb hts hinX4 hown hK hP 0 rfl rfl 18 (by decide) (hts (.fieldLink RX4 37 "WorstPathsModel" "comeTo" "[Z") (by decide +kernel)) (fun _ h9 => h9) rfl dX4_meet_247 ?_
          refine lv_iload_n hx hb dX4_meet_250 rfl (lv_at hl 1 rfl) ?_
          refine lv_iconst (v := 1) hx hb dX4_meet_251 (by decide) ?_
          obtain ⟨hq, h⟩ := h
          refine va_zast (D := D) hx hb hK hP hD hS 10 1 rfl rfl hq dX4_meet_252 (fun H locs hP hD hS => ?_)
          have hP : va_P D vwCl (wM a cI cZ cJ m_thrown m_sets m_ways m_penalty m_blocks m_edges m_pairs m_lines m_isFresh m_isAnswer m_time m_touchMany m_touch m_line m_from m_to m_bound m_pairA m_pairB (upd m_comeTo (Int32.toNatClampNeg v1) (vp_nar .boolean 1)) m_greatest_17 m_least_17 m_nowGreatest m_nowLeast m_does m_mostTime m_leastTime m_countUnit m_flagUnit m_worst m_best m_stack) H := hP
          have hD : va_D A (wM a cI cZ cJ m_thrown m_sets m_ways m_penalty m_blocks m_edges m_pairs m_lines m_isFresh m_isAnswer m_time m_touchMany m_touch m_line m_from m_to m_bound m_pairA m_pairB (upd m_comeTo (Int32.toNatClampNeg v1) (vp_nar .boolean 1)) m_greatest_17 m_least_17 m_nowGreatest m_nowLeast m_does m_mostTime m_leastTime m_countUnit m_flagUnit m_worst m_best m_stack) := hD
          refine lv_iload_n hx hb dX4_meet_253 rfl (lv_at hl 2 rfl) ?_
          refine wz_mono hQz ?_
          obtain ⟨hn9, h⟩ := h
          exact W.zret (v := v2_17) hx hb hr hn9 (fun t ht hW => ⟨⟨v2_17, ((upd m_comeTo (Int32.toNatClampNeg v1) (vp_nar .boolean 1)), m_greatest_17, m_least_17), rfl, h, by rw [ht]; exact hP, va_K.moved hW.alike hK, hD⟩, hS.F ht⟩) hS.2.2 dX4_meet_254
        · replace h := h.2 hc
          refine lv_bipush (v := 40) hx hb dX4_meet_25 (by decide) ?_
          refine lv_iload_n hx hb dX4_meet_27 rfl (lv_at hl 1 rfl) ?_
          refine lv_imul hx hb dX4_meet_28 ?_
          refine lv_iload_n hx hb dX4_meet_29 rfl (lv_at hl 3 rfl) ?_
          refine lv_iadd hx hb dX4_meet_30 ?_
          refine lv_istore (lv' := [(4, .int ((40 * v1) + v3_17)), (0, .ref (a 0)), (1, .int v1), (2, .int v2_17), (3, .int v3_17)]) hx hb dX4_meet_31 hl (by decide) rfl (fun ls hl => ?_)
          refine lv_aload_n hx hb dX4_meet_33 rfl (lv_at hl 1 rfl) ?_
          refine va_get (D := D) (ci := 4) (v := .ref (a 10)) (C := RX4) (T := TX4) (N := 32) hx hb hts hinX4 hown hK hP 0 rfl rfl 18 (by decide) (hts (.fieldLink RX4 37 "WorstPathsModel" "comeTo" "[Z") (by decide +kernel)) (fun _ h9 => h9) rfl dX4_meet_34 ?_
          refine lv_iload_n hx hb dX4_meet_37 rfl (lv_at hl 2 rfl) ?_
          obtain ⟨hq, h⟩ := h
          refine va_zald (D := D) hx hb hK hP 10 1 rfl rfl hq dX4_meet_38 ?_
          have JP106 : ∀ (t0_106 : Int32), jn_X4_meet_106 v1 v2_17 v3_17 ((40 * v1) + v3_17) m_lines m_comeTo m_greatest_17 m_least_17 m_nowGreatest m_nowLeast t0_106 (lp_X4_meet_17 v1 m_lines m_comeTo m_nowGreatest m_nowLeast Q n17) Q → ∀ (H : Heap) (locs : List Loc), va_P D vwCl (wM a cI cZ cJ m_thrown m_sets m_ways m_penalty m_blocks m_edges m_pairs m_lines m_isFresh m_isAnswer m_time m_touchMany m_touch m_line m_from m_to m_bound m_pairA m_pairB m_comeTo m_greatest_17 m_least_17 m_nowGreatest m_nowLeast m_does m_mostTime m_leastTime m_countUnit m_flagUnit m_worst m_best m_stack) H → va_D A (wM a cI cZ cJ m_thrown m_sets m_ways m_penalty m_blocks m_edges m_pairs m_lines m_isFresh m_isAnswer m_time m_touchMany m_touch m_line m_from m_to m_bound m_pairA m_pairB m_comeTo m_greatest_17 m_least_17 m_nowGreatest m_nowLeast m_does m_mostTime m_leastTime m_countUnit m_flagUnit m_worst m_best m_stack) → va_S A s.heap H locs → ∀ (ls : Array Slot), lv_has ls 7 [(0, .ref (a 0)), (1, .int v1), (2, .int v2_17), (3, .int v3_17), (4, .int ((40 * v1) + v3_17))] → W p l e (headSpec wsX4_meet rm_X4_meet).room s m ([Value.ref (a 0), Value.int v1] : List Value).toArray below meth c H locs 0 0 Qz (F0 m 106 ls [.int t0_106]) := by
            intro t0_106 h H locs hP hD hS ls hl
            unfold jn_X4_meet_106 at h
            refine lv_istore (lv' := [(5, .int t0_106), (0, .ref (a 0)), (1, .int v1), (2, .int v2_17), (3, .int v3_17), (4, .int ((40 * v1) + v3_17))]) hx hb dX4_meet_106 hl (by decide) rfl (fun ls hl => ?_)
            refine lv_aload_n hx hb dX4_meet_108 rfl (lv_at hl 1 rfl) ?_
            refine va_get (D := D) (ci := 4) (v := .ref (a 10)) (C := RX4) (T := TX4) (N := 32) hx hb hts hinX4 hown hK hP 0 rfl rfl 18 (by decide) (hts (.fieldLink RX4 37 "WorstPathsModel" "comeTo" "[Z") (by decide +kernel)) (fun _ h9 => h9) rfl dX4_meet_109 ?_
            refine lv_iload_n hx hb dX4_meet_112 rfl (lv_at hl 2 rfl) ?_
            obtain ⟨hq, h⟩ := h
            refine va_zald (D := D) hx hb hK hP 10 1 rfl rfl hq dX4_meet_113 ?_
            have JP186 : ∀ (t0_186 : Int32), jn_X4_meet_186 v1 v2_17 v3_17 ((40 * v1) + v3_17) t0_106 m_lines m_comeTo m_greatest_17 m_least_17 m_nowGreatest m_nowLeast t0_186 (lp_X4_meet_17 v1 m_lines m_comeTo m_nowGreatest m_nowLeast Q n17) Q → ∀ (H : Heap) (locs : List Loc), va_P D vwCl (wM a cI cZ cJ m_thrown m_sets m_ways m_penalty m_blocks m_edges m_pairs m_lines m_isFresh m_isAnswer m_time m_touchMany m_touch m_line m_from m_to m_bound m_pairA m_pairB m_comeTo m_greatest_17 m_least_17 m_nowGreatest m_nowLeast m_does m_mostTime m_leastTime m_countUnit m_flagUnit m_worst m_best m_stack) H → va_D A (wM a cI cZ cJ m_thrown m_sets m_ways m_penalty m_blocks m_edges m_pairs m_lines m_isFresh m_isAnswer m_time m_touchMany m_touch m_line m_from m_to m_bound m_pairA m_pairB m_comeTo m_greatest_17 m_least_17 m_nowGreatest m_nowLeast m_does m_mostTime m_leastTime m_countUnit m_flagUnit m_worst m_best m_stack) → va_S A s.heap H locs → ∀ (ls : Array Slot), lv_has ls 7 [(0, .ref (a 0)), (1, .int v1), (2, .int v2_17), (3, .int v3_17), (4, .int ((40 * v1) + v3_17)), (5, .int t0_106)] → W p l e (headSpec wsX4_meet rm_X4_meet).room s m ([Value.ref (a 0), Value.int v1] : List Value).toArray below meth c H locs 0 0 Qz (F0 m 186 ls [.int t0_186]) := by
              intro t0_186 h H locs hP hD hS ls hl
              unfold jn_X4_meet_186 at h
              refine lv_istore (lv' := [(6, .int t0_186), (0, .ref (a 0)), (1, .int v1), (2, .int v2_17), (3, .int v3_17), (4, .int ((40 * v1) + v3_17)), (5, .int t0_106)]) hx hb dX4_meet_186 hl (by decide) rfl (fun ls hl => ?_)
              refine lv_iload_n hx hb dX4_meet_188 rfl (lv_at hl 3 rfl) ?_
              have JP221 : ∀ (t0_221 : Int32), jn_X4_meet_221 v1 v3_17 ((40 * v1) + v3_17) t0_106 t0_186 m_lines m_comeTo m_greatest_17 m_least_17 m_nowGreatest m_nowLeast t0_221 (lp_X4_meet_17 v1 m_lines m_comeTo m_nowGreatest m_nowLeast Q n17) Q → ∀ (H : Heap) (locs : List Loc), va_P D vwCl (wM a cI cZ cJ m_thrown m_sets m_ways m_penalty m_blocks m_edges m_pairs m_lines m_isFresh m_isAnswer m_time m_touchMany m_touch m_line m_from m_to m_bound m_pairA m_pairB m_comeTo m_greatest_17 m_least_17 m_nowGreatest m_nowLeast m_does m_mostTime m_leastTime m_countUnit m_flagUnit m_worst m_best m_stack) H → va_D A (wM a cI cZ cJ m_thrown m_sets m_ways m_penalty m_blocks m_edges m_pairs m_lines m_isFresh m_isAnswer m_time m_touchMany m_touch m_line m_from m_to m_bound m_pairA m_pairB m_comeTo m_greatest_17 m_least_17 m_nowGreatest m_nowLeast m_does m_mostTime m_leastTime m_countUnit m_flagUnit m_worst m_best m_stack) → va_S A s.heap H locs → ∀ (ls : Array Slot), lv_has ls 7 [(0, .ref (a 0)), (1, .int v1), (3, .int v3_17), (4, .int ((40 * v1) + v3_17)), (5, .int t0_106), (6, .int t0_186)] → W p l e (headSpec wsX4_meet rm_X4_meet).room s m ([Value.ref (a 0), Value.int v1] : List Value).toArray below meth c H locs 0 0 Qz (F0 m 221 ls [.int t0_221]) := by
                intro t0_221 h H locs hP hD hS ls hl
                unfold jn_X4_meet_221 at h
                refine lv_istore_n (lv' := [(2, .int t0_221), (0, .ref (a 0)), (1, .int v1), (3, .int v3_17), (4, .int ((40 * v1) + v3_17)), (5, .int t0_106), (6, .int t0_186)]) hx hb dX4_meet_221 rfl hl (by decide) rfl (fun ls hl => ?_)
                refine lv_aload_n hx hb dX4_meet_222 rfl (lv_at hl 1 rfl) ?_
                refine va_get (D := D) (ci := 4) (v := .ref (a 11)) (C := RX4) (T := TX4) (N := 32) hx hb hts hinX4 hown hK hP 0 rfl rfl 19 (by decide) (hts (.fieldLink RX4 41 "WorstPathsModel" "greatest" "[I") (by decide +kernel)) (fun _ h9 => h9) rfl dX4_meet_223 ?_
                refine lv_iload hx hb dX4_meet_226 (lv_at hl 4 rfl) ?_
                refine lv_iload hx hb dX4_meet_228 (lv_at hl 5 rfl) ?_
                obtain ⟨hq, h⟩ := h
                refine va_iast (D := D) hx hb hK hP hD hS 11 0 rfl rfl hq dX4_meet_230 (fun H locs hP hD hS => ?_)
                have hP : va_P D vwCl (wM a cI cZ cJ m_thrown m_sets m_ways m_penalty m_blocks m_edges m_pairs m_lines m_isFresh m_isAnswer m_time m_touchMany m_touch m_line m_from m_to m_bound m_pairA m_pairB m_comeTo (upd m_greatest_17 (Int32.toNatClampNeg ((40 * v1) + v3_17)) t0_106) m_least_17 m_nowGreatest m_nowLeast m_does m_mostTime m_leastTime m_countUnit m_flagUnit m_worst m_best m_stack) H := hP
                have hD : va_D A (wM a cI cZ cJ m_thrown m_sets m_ways m_penalty m_blocks m_edges m_pairs m_lines m_isFresh m_isAnswer m_time m_touchMany m_touch m_line m_from m_to m_bound m_pairA m_pairB m_comeTo (upd m_greatest_17 (Int32.toNatClampNeg ((40 * v1) + v3_17)) t0_106) m_least_17 m_nowGreatest m_nowLeast m_does m_mostTime m_leastTime m_countUnit m_flagUnit m_worst m_best m_stack) := hD
                refine lv_aload_n hx hb dX4_meet_231 rfl (lv_at hl 1 rfl) ?_
                refine va_get (D := D) (ci := 4) (v := .ref (a 12)) (C := RX4) (T := TX4) (N := 32) hx hb hts hinX4 hown hK hP 0 rfl rfl 20 (by decide) (hts (.fieldLink RX4 44 "WorstPathsModel" "least" "[I") (by decide +kernel)) (fun _ h9 => h9) rfl dX4_meet_232 ?_
                refine lv_iload hx hb dX4_meet_235 (lv_at hl 4 rfl) ?_
                refine lv_iload hx hb dX4_meet_237 (lv_at hl 6 rfl) ?_
                obtain ⟨hq, h⟩ := h
                refine va_iast (D := D) hx hb hK hP hD hS 12 0 rfl rfl hq dX4_meet_239 (fun H locs hP hD hS => ?_)
                have hP : va_P D vwCl (wM a cI cZ cJ m_thrown m_sets m_ways m_penalty m_blocks m_edges m_pairs m_lines m_isFresh m_isAnswer m_time m_touchMany m_touch m_line m_from m_to m_bound m_pairA m_pairB m_comeTo (upd m_greatest_17 (Int32.toNatClampNeg ((40 * v1) + v3_17)) t0_106) (upd m_least_17 (Int32.toNatClampNeg ((40 * v1) + v3_17)) t0_186) m_nowGreatest m_nowLeast m_does m_mostTime m_leastTime m_countUnit m_flagUnit m_worst m_best m_stack) H := hP
                have hD : va_D A (wM a cI cZ cJ m_thrown m_sets m_ways m_penalty m_blocks m_edges m_pairs m_lines m_isFresh m_isAnswer m_time m_touchMany m_touch m_line m_from m_to m_bound m_pairA m_pairB m_comeTo (upd m_greatest_17 (Int32.toNatClampNeg ((40 * v1) + v3_17)) t0_106) (upd m_least_17 (Int32.toNatClampNeg ((40 * v1) + v3_17)) t0_186) m_nowGreatest m_nowLeast m_does m_mostTime m_leastTime m_countUnit m_flagUnit m_worst m_best m_stack) := hD
                refine lv_iinc (v := (v3_17 + 1)) (lv' := [(3, .int (v3_17 + 1)), (2, .int t0_221), (0, .ref (a 0)), (1, .int v1), (4, .int ((40 * v1) + v3_17)), (5, .int t0_106), (6, .int t0_186)]) hx hb dX4_meet_240 hl (k := 3) rfl rfl (by decide) rfl (fun ls hl => ?_)
                refine lv_goto (tgt := 17) hx hb dX4_meet_243 (by decide) ?_
                exact ih17 t0_221 (v3_17 + 1) (upd m_greatest_17 (Int32.toNatClampNeg ((40 * v1) + v3_17)) t0_106) (upd m_least_17 (Int32.toNatClampNeg ((40 * v1) + v3_17)) t0_186) h _ _ hP hD hS _ (lv_sub hl [2, 3, 1, 0] rfl)
              refine lv_if_ne (tgt := 216) hx hb dX4_meet_189 (by decide) (fun hc => ?_) (fun hc => ?_)
              · replace h := h.1 hc
                refine lv_iconst (v := 1) hx hb dX4_meet_216 (by decide) ?_
                refine lv_goto (tgt := 221) hx hb dX4_meet_217 (by decide) ?_
                exact JP221 1 h _ _ hP hD hS _ (lv_sub hl [1, 2, 4, 5, 6, 0] rfl)
              · replace h := h.2 hc
                refine lv_iload hx hb dX4_meet_192 (lv_at hl 6 rfl) ?_
                refine lv_aload_n hx hb dX4_meet_194 rfl (lv_at hl 1 rfl) ?_
                refine va_get (D := D) (ci := 4) (v := .ref (a 11)) (C := RX4) (T := TX4) (N := 32) hx hb hts hinX4 hown hK hP 0 rfl rfl 19 (by decide) (hts (.fieldLink RX4 41 "WorstPathsModel" "greatest" "[I") (by decide +kernel)) (fun _ h9 => h9) rfl dX4_meet_195 ?_
                refine lv_iload hx hb dX4_meet_198 (lv_at hl 5 rfl) ?_
                obtain ⟨hq, h⟩ := h
                refine va_iald (D := D) hx hb hK hP 11 0 rfl rfl hq dX4_meet_200 ?_
                refine lv_icmp_ne (tgt := 216) hx hb dX4_meet_201 (by decide) (fun hc => ?_) (fun hc => ?_)
                · replace h := h.1 hc
                  refine lv_iconst (v := 1) hx hb dX4_meet_216 (by decide) ?_
                  refine lv_goto (tgt := 221) hx hb dX4_meet_217 (by decide) ?_
                  exact JP221 1 h _ _ hP hD hS _ (lv_sub hl [1, 2, 4, 5, 6, 0] rfl)
                · replace h := h.2 hc
                  refine lv_iload hx hb dX4_meet_204 (lv_at hl 0 rfl) ?_
                  refine lv_aload_n hx hb dX4_meet_206 rfl (lv_at hl 1 rfl) ?_
                  refine va_get (D := D) (ci := 4) (v := .ref (a 12)) (C := RX4) (T := TX4) (N := 32) hx hb hts hinX4 hown hK hP 0 rfl rfl 20 (by decide) (hts (.fieldLink RX4 44 "WorstPathsModel" "least" "[I") (by decide +kernel)) (fun _ h9 => h9) rfl dX4_meet_207 ?_
                  refine lv_iload hx hb dX4_meet_210 (lv_at hl 5 rfl) ?_
                  obtain ⟨hq, h⟩ := h
                  refine va_iald (D := D) hx hb hK hP 12 0 rfl rfl hq dX4_meet_212 ?_
                  refine lv_icmp_eq (tgt := 220) hx hb dX4_meet_213 (by decide) (fun hc => ?_) (fun hc => ?_)
                  · replace h := h.1 hc
                    refine lv_iconst (v := 0) hx hb dX4_meet_220 (by decide) ?_
                    exact JP221 0 h _ _ hP hD hS _ (lv_sub hl [1, 2, 4, 5, 6, 0] rfl)
                  · replace h := h.2 hc
                    refine lv_iconst (v := 1) hx hb dX4_meet_216 (by decide) ?_
                    refine lv_goto (tgt := 221) hx hb dX4_meet_217 (by decide) ?_
                    exact JP221 1 h _ _ hP hD hS _ (lv_sub hl [1, 2, 4, 5, 6, 0] rfl)
            refine lv_if_ne (tgt := 126) hx hb dX4_meet_114 (by decide) (fun hc => ?_) (fun hc => ?_)
            · replace h := h.1 hc
              refine lv_aload_n hx hb dX4_meet_126 rfl (lv_at hl 1 rfl) ?_
              refine va_get (D := D) (ci := 4) (v := .ref (a 12)) (C := RX4) (T := TX4) (N := 32) hx hb hts hinX4 hown hK hP 0 rfl rfl 20 (by decide) (hts (.fieldLink RX4 44 "WorstPathsModel" "least" "[I") (by decide +kernel)) (fun _ h9 => h9) rfl dX4_meet_127 ?_
              refine lv_iload hx hb dX4_meet_130 (lv_at hl 5 rfl) ?_
              obtain ⟨hq, h⟩ := h
              refine va_iald (D := D) hx hb hK hP 12 0 rfl rfl hq dX4_meet_132 ?_
              refine lv_if_ge (tgt := 145) hx hb dX4_meet_133 (by decide) (fun hc => ?_) (fun hc => ?_)
              · replace h := h.1 hc
                refine lv_aload_n hx hb dX4_meet_145 rfl (lv_at hl 1 rfl) ?_
                refine va_get (D := D) (ci := 4) (v := .ref (a 14)) (C := RX4) (T := TX4) (N := 32) hx hb hts hinX4 hown hK hP 0 rfl rfl 22 (by decide) (hts (.fieldLink RX4 50 "WorstPathsModel" "nowLeast" "[I") (by decide +kernel)) (fun _ h9 => h9) rfl dX4_meet_146 ?_
                refine lv_iload_n hx hb dX4_meet_149 rfl (lv_at hl 4 rfl) ?_
                obtain ⟨hq, h⟩ := h
                refine va_iald (D := D) hx hb hK hP 14 0 rfl rfl hq dX4_meet_150 ?_
                refine lv_if_lt (tgt := 170) hx hb dX4_meet_151 (by decide) (fun hc => ?_) (fun hc => ?_)
                · replace h := h.1 hc
                  refine lv_aload_n hx hb dX4_meet_170 rfl (lv_at hl 1 rfl) ?_
                  refine va_get (D := D) (ci := 4) (v := .ref (a 12)) (C := RX4) (T := TX4) (N := 32) hx hb hts hinX4 hown hK hP 0 rfl rfl 20 (by decide) (hts (.fieldLink RX4 44 "WorstPathsModel" "least" "[I") (by decide +kernel)) (fun _ h9 => h9) rfl dX4_meet_171 ?_
                  refine lv_iload hx hb dX4_meet_174 (lv_at hl 5 rfl) ?_
                  obtain ⟨hq, h⟩ := h
                  refine va_iald (D := D) hx hb hK hP 12 0 rfl rfl hq dX4_meet_176 ?_
                  refine lv_goto (tgt := 186) hx hb dX4_meet_177 (by decide) ?_
                  exact JP186 (m_least_17 (Int32.toNatClampNeg ((40 * v1) + v3_17))) h _ _ hP hD hS _ (lv_sub hl [1, 2, 3, 4, 5, 0] rfl)
                · replace h := h.2 hc
                  refine lv_aload_n hx hb dX4_meet_154 rfl (lv_at hl 1 rfl) ?_
                  refine va_get (D := D) (ci := 4) (v := .ref (a 12)) (C := RX4) (T := TX4) (N := 32) hx hb hts hinX4 hown hK hP 0 rfl rfl 20 (by decide) (hts (.fieldLink RX4 44 "WorstPathsModel" "least" "[I") (by decide +kernel)) (fun _ h9 => h9) rfl dX4_meet_155 ?_
                  refine lv_iload hx hb dX4_meet_158 (lv_at hl 5 rfl) ?_
                  obtain ⟨hq, h⟩ := h
                  refine va_iald (D := D) hx hb hK hP 12 0 rfl rfl hq dX4_meet_160 ?_
                  refine lv_aload_n hx hb dX4_meet_161 rfl (lv_at hl 1 rfl) ?_
                  refine va_get (D := D) (ci := 4) (v := .ref (a 14)) (C := RX4) (T := TX4) (N := 32) hx hb hts hinX4 hown hK hP 0 rfl rfl 22 (by decide) (hts (.fieldLink RX4 50 "WorstPathsModel" "nowLeast" "[I") (by decide +kernel)) (fun _ h9 => h9) rfl dX4_meet_162 ?_
                  refine lv_iload_n hx hb dX4_meet_165 rfl (lv_at hl 4 rfl) ?_
                  obtain ⟨hq, h⟩ := h
                  refine va_iald (D := D) hx hb hK hP 14 0 rfl rfl hq dX4_meet_166 ?_
                  refine lv_icmp_ge (tgt := 180) hx hb dX4_meet_167 (by decide) (fun hc => ?_) (fun hc => ?_)
                  · replace h := h.1 hc
                    refine lv_aload_n hx hb dX4_meet_180 rfl (lv_at hl 1 rfl) ?_
                    refine va_get (D := D) (ci := 4) (v := .ref (a 14)) (C := RX4) (T := TX4) (N := 32) hx hb hts hinX4 hown hK hP 0 rfl rfl 22 (by decide) (hts (.fieldLink RX4 50 "WorstPathsModel" "nowLeast" "[I") (by decide +kernel)) (fun _ h9 => h9) rfl dX4_meet_181 ?_
                    refine lv_iload_n hx hb dX4_meet_184 rfl (lv_at hl 4 rfl) ?_
                    obtain ⟨hq, h⟩ := h
                    refine va_iald (D := D) hx hb hK hP 14 0 rfl rfl hq dX4_meet_185 ?_
                    exact JP186 (m_nowLeast (Int32.toNatClampNeg v3_17)) h _ _ hP hD hS _ (lv_sub hl [1, 2, 3, 4, 5, 0] rfl)
                  · replace h := h.2 hc
                    refine lv_aload_n hx hb dX4_meet_170 rfl (lv_at hl 1 rfl) ?_
                    refine va_get (D := D) (ci := 4) (v := .ref (a 12)) (C := RX4) (T := TX4) (N := 32) hx hb hts hinX4 hown hK hP 0 rfl rfl 20 (by decide) (hts (.fieldLink RX4 44 "WorstPathsModel" "least" "[I") (by decide +kernel)) (fun _ h9 => h9) rfl dX4_meet_171 ?_
                    refine lv_iload hx hb dX4_meet_174 (lv_at hl 5 rfl) ?_
                    obtain ⟨hq, h⟩ := h
                    refine va_iald (D := D) hx hb hK hP 12 0 rfl rfl hq dX4_meet_176 ?_
                    refine lv_goto (tgt := 186) hx hb dX4_meet_177 (by decide) ?_
                    exact JP186 (m_least_17 (Int32.toNatClampNeg ((40 * v1) + v3_17))) h _ _ hP hD hS _ (lv_sub hl [1, 2, 3, 4, 5, 0] rfl)
              · replace h := h.2 hc
                refine lv_aload_n hx hb dX4_meet_136 rfl (lv_at hl 1 rfl) ?_
                refine va_get (D := D) (ci := 4) (v := .ref (a 14)) (C := RX4) (T := TX4) (N := 32) hx hb hts hinX4 hown hK hP 0 rfl rfl 22 (by decide) (hts (.fieldLink RX4 50 "WorstPathsModel" "nowLeast" "[I") (by decide +kernel)) (fun _ h9 => h9) rfl dX4_meet_137 ?_
                refine lv_iload_n hx hb dX4_meet_140 rfl (lv_at hl 4 rfl) ?_
                obtain ⟨hq, h⟩ := h
                refine va_iald (D := D) hx hb hK hP 14 0 rfl rfl hq dX4_meet_141 ?_
                refine lv_goto (tgt := 186) hx hb dX4_meet_142 (by decide) ?_
                exact JP186 (m_nowLeast (Int32.toNatClampNeg v3_17)) h _ _ hP hD hS _ (lv_sub hl [1, 2, 3, 4, 5, 0] rfl)
            · replace h := h.2 hc
              refine lv_aload_n hx hb dX4_meet_117 rfl (lv_at hl 1 rfl) ?_
              refine va_get (D := D) (ci := 4) (v := .ref (a 14)) (C := RX4) (T := TX4) (N := 32) hx hb hts hinX4 hown hK hP 0 rfl rfl 22 (by decide) (hts (.fieldLink RX4 50 "WorstPathsModel" "nowLeast" "[I") (by decide +kernel)) (fun _ h9 => h9) rfl dX4_meet_118 ?_
              refine lv_iload_n hx hb dX4_meet_121 rfl (lv_at hl 4 rfl) ?_
              obtain ⟨hq, h⟩ := h
              refine va_iald (D := D) hx hb hK hP 14 0 rfl rfl hq dX4_meet_122 ?_
              refine lv_goto (tgt := 186) hx hb dX4_meet_123 (by decide) ?_
              exact JP186 (m_nowLeast (Int32.toNatClampNeg v3_17)) h _ _ hP hD hS _ (lv_sub hl [1, 2, 3, 4, 5, 0] rfl)
          refine lv_if_ne (tgt := 51) hx hb dX4_meet_39 (by decide) (fun hc => ?_) (fun hc => ?_)
          · replace h := h.1 hc
            refine lv_aload_n hx hb dX4_meet_51 rfl (lv_at hl 1 rfl) ?_
            refine va_get (D := D) (ci := 4) (v := .ref (a 11)) (C := RX4) (T := TX4) (N := 32) hx hb hts hinX4 hown hK hP 0 rfl rfl 19 (by decide) (hts (.fieldLink RX4 41 "WorstPathsModel" "greatest" "[I") (by decide +kernel)) (fun _ h9 => h9) rfl dX4_meet_52 ?_
            refine lv_iload hx hb dX4_meet_55 (lv_at hl 0 rfl) ?_
            obtain ⟨hq, h⟩ := h
            refine va_iald (D := D) hx hb hK hP 11 0 rfl rfl hq dX4_meet_57 ?_
            refine lv_if_lt (tgt := 70) hx hb dX4_meet_58 (by decide) (fun hc => ?_) (fun hc => ?_)
            · replace h := h.1 hc
              refine lv_iconst (v := (-1)) hx hb dX4_meet_70 (by decide) ?_
              refine lv_goto (tgt := 106) hx hb dX4_meet_71 (by decide) ?_
              exact JP106 (-1) h _ _ hP hD hS _ (lv_sub hl [1, 2, 3, 4, 0] rfl)
            · replace h := h.2 hc
              refine lv_aload_n hx hb dX4_meet_61 rfl (lv_at hl 1 rfl) ?_
              refine va_get (D := D) (ci := 4) (v := .ref (a 13)) (C := RX4) (T := TX4) (N := 32) hx hb hts hinX4 hown hK hP 0 rfl rfl 21 (by decide) (hts (.fieldLink RX4 47 "WorstPathsModel" "nowGreatest" "[I") (by decide +kernel)) (fun _ h9 => h9) rfl dX4_meet_62 ?_
              refine lv_iload_n hx hb dX4_meet_65 rfl (lv_at hl 4 rfl) ?_
              obtain ⟨hq, h⟩ := h
              refine va_iald (D := D) hx hb hK hP 13 0 rfl rfl hq dX4_meet_66 ?_
              refine lv_if_ge (tgt := 74) hx hb dX4_meet_67 (by decide) (fun hc => ?_) (fun hc => ?_)
              · replace h := h.1 hc
                refine lv_aload_n hx hb dX4_meet_74 rfl (lv_at hl 1 rfl) ?_
                refine va_get (D := D) (ci := 4) (v := .ref (a 11)) (C := RX4) (T := TX4) (N := 32) hx hb hts hinX4 hown hK hP 0 rfl rfl 19 (by decide) (hts (.fieldLink RX4 41 "WorstPathsModel" "greatest" "[I") (by decide +kernel)) (fun _ h9 => h9) rfl dX4_meet_75 ?_
                refine lv_iload hx hb dX4_meet_78 (lv_at hl 0 rfl) ?_
                obtain ⟨hq, h⟩ := h
                refine va_iald (D := D) hx hb hK hP 11 0 rfl rfl hq dX4_meet_80 ?_
                refine lv_aload_n hx hb dX4_meet_81 rfl (lv_at hl 1 rfl) ?_
                refine va_get (D := D) (ci := 4) (v := .ref (a 13)) (C := RX4) (T := TX4) (N := 32) hx hb hts hinX4 hown hK hP 0 rfl rfl 21 (by decide) (hts (.fieldLink RX4 47 "WorstPathsModel" "nowGreatest" "[I") (by decide +kernel)) (fun _ h9 => h9) rfl dX4_meet_82 ?_
                refine lv_iload_n hx hb dX4_meet_85 rfl (lv_at hl 4 rfl) ?_
                obtain ⟨hq, h⟩ := h
                refine va_iald (D := D) hx hb hK hP 13 0 rfl rfl hq dX4_meet_86 ?_
                refine lv_icmp_le (tgt := 100) hx hb dX4_meet_87 (by decide) (fun hc => ?_) (fun hc => ?_)
                · replace h := h.1 hc
                  refine lv_aload_n hx hb dX4_meet_100 rfl (lv_at hl 1 rfl) ?_
                  refine va_get (D := D) (ci := 4) (v := .ref (a 13)) (C := RX4) (T := TX4) (N := 32) hx hb hts hinX4 hown hK hP 0 rfl rfl 21 (by decide) (hts (.fieldLink RX4 47 "WorstPathsModel" "nowGreatest" "[I") (by decide +kernel)) (fun _ h9 => h9) rfl dX4_meet_101 ?_
                  refine lv_iload_n hx hb dX4_meet_104 rfl (lv_at hl 4 rfl) ?_
                  obtain ⟨hq, h⟩ := h
                  refine va_iald (D := D) hx hb hK hP 13 0 rfl rfl hq dX4_meet_105 ?_
                  exact JP106 (m_nowGreatest (Int32.toNatClampNeg v3_17)) h _ _ hP hD hS _ (lv_sub hl [1, 2, 3, 4, 0] rfl)
                · replace h := h.2 hc
                  refine lv_aload_n hx hb dX4_meet_90 rfl (lv_at hl 1 rfl) ?_
                  refine va_get (D := D) (ci := 4) (v := .ref (a 11)) (C := RX4) (T := TX4) (N := 32) hx hb hts hinX4 hown hK hP 0 rfl rfl 19 (by decide) (hts (.fieldLink RX4 41 "WorstPathsModel" "greatest" "[I") (by decide +kernel)) (fun _ h9 => h9) rfl dX4_meet_91 ?_
                  refine lv_iload hx hb dX4_meet_94 (lv_at hl 0 rfl) ?_
                  obtain ⟨hq, h⟩ := h
                  refine va_iald (D := D) hx hb hK hP 11 0 rfl rfl hq dX4_meet_96 ?_
                  refine lv_goto (tgt := 106) hx hb dX4_meet_97 (by decide) ?_
                  exact JP106 (m_greatest_17 (Int32.toNatClampNeg ((40 * v1) + v3_17))) h _ _ hP hD hS _ (lv_sub hl [1, 2, 3, 4, 0] rfl)
              · replace h := h.2 hc
                refine lv_iconst (v := (-1)) hx hb dX4_meet_70 (by decide) ?_
                refine lv_goto (tgt := 106) hx hb dX4_meet_71 (by decide) ?_
                exact JP106 (-1) h _ _ hP hD hS _ (lv_sub hl [1, 2, 3, 4, 0] rfl)
          · replace h := h.2 hc
            refine lv_aload_n hx hb dX4_meet_42 rfl (lv_at hl 1 rfl) ?_
            refine va_get (D := D) (ci := 4) (v := .ref (a 13)) (C := RX4) (T := TX4) (N := 32) hx hb hts hinX4 hown hK hP 0 rfl rfl 21 (by decide) (hts (.fieldLink RX4 47 "WorstPathsModel" "nowGreatest" "[I") (by decide +kernel)) (fun _ h9 => h9) rfl dX4_meet_43 ?_
            refine lv_iload_n hx hb dX4_meet_46 rfl (lv_at hl 4 rfl) ?_
            obtain ⟨hq, h⟩ := h
            refine va_iald (D := D) hx hb hK hP 13 0 rfl rfl hq dX4_meet_47 ?_
            refine lv_goto (tgt := 106) hx hb dX4_meet_48 (by decide) ?_
            exact JP106 (m_nowGreatest (Int32.toNatClampNeg v3_17)) h _ _ hP hD hS _ (lv_sub hl [1, 2, 3, 4, 0] rfl)
    obtain ⟨k9, h⟩ := h
    exact LP17 k9 0 0 m_greatest m_least h _ _ hP hD hS _ (lv_sub hl [2, 3, 1, 0] rfl)
  · replace h := h.2 hc
    refine lv_iconst (v := 1) hx hb dX4_meet_9 (by decide) ?_
    refine lv_goto (tgt := 14) hx hb dX4_meet_10 (by decide) ?_
    refine lv_istore_n (lv' := [(2, .int 1), (0, .ref (a 0)), (1, .int v1)]) hx hb dX4_meet_14 rfl hl (by decide) rfl (fun ls hl => ?_)
    refine lv_iconst (v := 0) hx hb dX4_meet_15 (by decide) ?_
    refine lv_istore_n (lv' := [(3, .int 0), (2, .int 1), (0, .ref (a 0)), (1, .int v1)]) hx hb dX4_meet_16 rfl hl (by decide) rfl (fun ls hl => ?_)
    have LP17 : ∀ (n17 : Nat) (v2_17 : Int32) (v3_17 : Int32) (m_greatest_17 : Nat → Int32) (m_least_17 : Nat → Int32), lp_X4_meet_17 v1 m_lines m_comeTo m_nowGreatest m_nowLeast Q n17 v2_17 v3_17 m_greatest_17 m_least_17 → ∀ (H : Heap) (locs : List Loc), va_P D vwCl (wM a cI cZ cJ m_thrown m_sets m_ways m_penalty m_blocks m_edges m_pairs m_lines m_isFresh m_isAnswer m_time m_touchMany m_touch m_line m_from m_to m_bound m_pairA m_pairB m_comeTo m_greatest_17 m_least_17 m_nowGreatest m_nowLeast m_does m_mostTime m_leastTime m_countUnit m_flagUnit m_worst m_best m_stack) H → va_D A (wM a cI cZ cJ m_thrown m_sets m_ways m_penalty m_blocks m_edges m_pairs m_lines m_isFresh m_isAnswer m_time m_touchMany m_touch m_line m_from m_to m_bound m_pairA m_pairB m_comeTo m_greatest_17 m_least_17 m_nowGreatest m_nowLeast m_does m_mostTime m_leastTime m_countUnit m_flagUnit m_worst m_best m_stack) → va_S A s.heap H locs → ∀ (ls : Array Slot), lv_has ls 7 [(0, .ref (a 0)), (1, .int v1), (2, .int v2_17), (3, .int v3_17)] → W p l e (headSpec wsX4_meet rm_X4_meet).room s m ([Value.ref (a 0), Value.int v1] : List Value).toArray below meth c H locs 0 0 Qz (F0 m 17 ls []) := by
      intro n17
      induction n17 with
      | zero => intro v2_17 v3_17 m_greatest_17 m_least_17 h; exact h.elim
      | succ n17 ih17 =>
        intro v2_17 v3_17 m_greatest_17 m_least_17 h H locs hP hD hS ls hl
        unfold lp_X4_meet_17 at h
        refine lv_iload_n hx hb dX4_meet_17 rfl (lv_at hl 3 rfl) ?_
        refine lv_aload_n hx hb dX4_meet_18 rfl (lv_at hl 0 rfl) ?_
        refine va_get (D := D) (ci := 4) (v := .int m_lines) (C := RX4) (T := TX4) (N := 32) hx hb hts hinX4 hown hK hP 0 rfl rfl 7 (by decide) (hts (.fieldLink RX4 113 "WorstPathsModel" "lines" "I") (by decide +kernel)) (fun _ h9 => h9) rfl dX4_meet_19 ?_
        refine lv_icmp_ge (tgt := 246) hx hb dX4_meet_22 (by decide) (fun hc => ?_) (fun hc => ?_)
        · replace h := h.1 hc
          refine lv_aload_n hx hb dX4_meet_246 rfl (lv_at hl 0 rfl) ?_
          refine va_get (D := D) (ci := 4) (v := .ref (a 10)) (C := RX4) (T := TX4) (N := 32) hx hb hts hinX4 hown hK hP 0 rfl rfl 18 (by decide) (hts (.fieldLink RX4 37 "WorstPathsModel" "comeTo" "[Z") (by decide +kernel)) (fun _ h9 => h9) rfl dX4_meet_247 ?_
          refine lv_iload_n hx hb dX4_meet_250 rfl (lv_at hl 1 rfl) ?_
          refine lv_iconst (v := 1) hx hb dX4_meet_251 (by decide) ?_
          obtain ⟨hq, h⟩ := h
          refine va_zast (D := D) hx hb hK hP hD hS 10 1 rfl rfl hq dX4_meet_252 (fun H locs hP hD hS => ?_)
          have hP : va_P D vwCl (wM a cI cZ cJ m_thrown m_sets m_ways m_penalty m_blocks m_edges m_pairs m_lines m_isFresh m_isAnswer m_time m_touchMany m_touch m_line m_from m_to m_bound m_pairA m_pairB (upd m_comeTo (Int32.toNatClampNeg v1) (vp_nar .boolean 1)) m_greatest_17 m_least_17 m_nowGreatest m_nowLeast m_does m_mostTime m_leastTime m_countUnit m_flagUnit m_worst m_best m_stack) H := hP
          have hD : va_D A (wM a cI cZ cJ m_thrown m_sets m_ways m_penalty m_blocks m_edges m_pairs m_lines m_isFresh m_isAnswer m_time m_touchMany m_touch m_line m_from m_to m_bound m_pairA m_pairB (upd m_comeTo (Int32.toNatClampNeg v1) (vp_nar .boolean 1)) m_greatest_17 m_least_17 m_nowGreatest m_nowLeast m_does m_mostTime m_leastTime m_countUnit m_flagUnit m_worst m_best m_stack) := hD
          refine lv_iload_n hx hb dX4_meet_253 rfl (lv_at hl 2 rfl) ?_
          refine wz_mono hQz ?_
          obtain ⟨hn9, h⟩ := h
          exact W.zret (v := v2_17) hx hb hr hn9 (fun t ht hW => ⟨⟨v2_17, ((upd m_comeTo (Int32.toNatClampNeg v1) (vp_nar .boolean 1)), m_greatest_17, m_least_17), rfl, h, by rw [ht]; exact hP, va_K.moved hW.alike hK, hD⟩, hS.F ht⟩) hS.2.2 dX4_meet_254
        · replace h := h.2 hc
          refine lv_bipush (v := 40) hx hb dX4_meet_25 (by decide) ?_
          refine lv_iload_n hx hb dX4_meet_27 rfl (lv_at hl 1 rfl) ?_
          refine lv_imul hx hb dX4_meet_28 ?_
          refine lv_iload_n hx hb dX4_meet_29 rfl (lv_at hl 3 rfl) ?_
          refine lv_iadd hx hb dX4_meet_30 ?_
          refine lv_istore (lv' := [(4, .int ((40 * v1) + v3_17)), (0, .ref (a 0)), (1, .int v1), (2, .int v2_17), (3, .int v3_17)]) hx hb dX4_meet_31 hl (by decide) rfl (fun ls hl => ?_)
          refine lv_aload_n hx hb dX4_meet_33 rfl (lv_at hl 1 rfl) ?_
          refine va_get (D := D) (ci := 4) (v := .ref (a 10)) (C := RX4) (T := TX4) (N := 32) hx hb hts hinX4 hown hK hP 0 rfl rfl 18 (by decide) (hts (.fieldLink RX4 37 "WorstPathsModel" "comeTo" "[Z") (by decide +kernel)) (fun _ h9 => h9) rfl dX4_meet_34 ?_
          refine lv_iload_n hx hb dX4_meet_37 rfl (lv_at hl 2 rfl) ?_
          obtain ⟨hq, h⟩ := h
          refine va_zald (D := D) hx hb hK hP 10 1 rfl rfl hq dX4_meet_38 ?_
          have JP106 : ∀ (t0_106 : Int32), jn_X4_meet_106 v1 v2_17 v3_17 ((40 * v1) + v3_17) m_lines m_comeTo m_greatest_17 m_least_17 m_nowGreatest m_nowLeast t0_106 (lp_X4_meet_17 v1 m_lines m_comeTo m_nowGreatest m_nowLeast Q n17) Q → ∀ (H : Heap) (locs : List Loc), va_P D vwCl (wM a cI cZ cJ m_thrown m_sets m_ways m_penalty m_blocks m_edges m_pairs m_lines m_isFresh m_isAnswer m_time m_touchMany m_touch m_line m_from m_to m_bound m_pairA m_pairB m_comeTo m_greatest_17 m_least_17 m_nowGreatest m_nowLeast m_does m_mostTime m_leastTime m_countUnit m_flagUnit m_worst m_best m_stack) H → va_D A (wM a cI cZ cJ m_thrown m_sets m_ways m_penalty m_blocks m_edges m_pairs m_lines m_isFresh m_isAnswer m_time m_touchMany m_touch m_line m_from m_to m_bound m_pairA m_pairB m_comeTo m_greatest_17 m_least_17 m_nowGreatest m_nowLeast m_does m_mostTime m_leastTime m_countUnit m_flagUnit m_worst m_best m_stack) → va_S A s.heap H locs → ∀ (ls : Array Slot), lv_has ls 7 [(0, .ref (a 0)), (1, .int v1), (2, .int v2_17), (3, .int v3_17), (4, .int ((40 * v1) + v3_17))] → W p l e (headSpec wsX4_meet rm_X4_meet).room s m ([Value.ref (a 0), Value.int v1] : List Value).toArray below meth c H locs 0 0 Qz (F0 m 106 ls [.int t0_106]) := by
            intro t0_106 h H locs hP hD hS ls hl
            unfold jn_X4_meet_106 at h
            refine lv_istore (lv' := [(5, .int t0_106), (0, .ref (a 0)), (1, .int v1), (2, .int v2_17), (3, .int v3_17), (4, .int ((40 * v1) + v3_17))]) hx hb dX4_meet_106 hl (by decide) rfl (fun ls hl => ?_)
            refine lv_aload_n hx hb dX4_meet_108 rfl (lv_at hl 1 rfl) ?_
            refine va_get (D := D) (ci := 4) (v := .ref (a 10)) (C := RX4) (T := TX4) (N := 32) hx hb hts hinX4 hown hK hP 0 rfl rfl 18 (by decide) (hts (.fieldLink RX4 37 "WorstPathsModel" "comeTo" "[Z") (by decide +kernel)) (fun _ h9 => h9) rfl dX4_meet_109 ?_
            refine lv_iload_n hx hb dX4_meet_112 rfl (lv_at hl 2 rfl) ?_
            obtain ⟨hq, h⟩ := h
            refine va_zald (D := D) hx hb hK hP 10 1 rfl rfl hq dX4_meet_113 ?_
            have JP186 : ∀ (t0_186 : Int32), jn_X4_meet_186 v1 v2_17 v3_17 ((40 * v1) + v3_17) t0_106 m_lines m_comeTo m_greatest_17 m_least_17 m_nowGreatest m_nowLeast t0_186 (lp_X4_meet_17 v1 m_lines m_comeTo m_nowGreatest m_nowLeast Q n17) Q → ∀ (H : Heap) (locs : List Loc), va_P D vwCl (wM a cI cZ cJ m_thrown m_sets m_ways m_penalty m_blocks m_edges m_pairs m_lines m_isFresh m_isAnswer m_time m_touchMany m_touch m_line m_from m_to m_bound m_pairA m_pairB m_comeTo m_greatest_17 m_least_17 m_nowGreatest m_nowLeast m_does m_mostTime m_leastTime m_countUnit m_flagUnit m_worst m_best m_stack) H → va_D A (wM a cI cZ cJ m_thrown m_sets m_ways m_penalty m_blocks m_edges m_pairs m_lines m_isFresh m_isAnswer m_time m_touchMany m_touch m_line m_from m_to m_bound m_pairA m_pairB m_comeTo m_greatest_17 m_least_17 m_nowGreatest m_nowLeast m_does m_mostTime m_leastTime m_countUnit m_flagUnit m_worst m_best m_stack) → va_S A s.heap H locs → ∀ (ls : Array Slot), lv_has ls 7 [(0, .ref (a 0)), (1, .int v1), (2, .int v2_17), (3, .int v3_17), (4, .int ((40 * v1) + v3_17)), (5, .int t0_106)] → W p l e (headSpec wsX4_meet rm_X4_meet).room s m ([Value.ref (a 0), Value.int v1] : List Value).toArray below meth c H locs 0 0 Qz (F0 m 186 ls [.int t0_186]) := by
              intro t0_186 h H locs hP hD hS ls hl
              unfold jn_X4_meet_186 at h
              refine lv_istore (lv' := [(6, .int t0_186), (0, .ref (a 0)), (1, .int v1), (2, .int v2_17), (3, .int v3_17), (4, .int ((40 * v1) + v3_17)), (5, .int t0_106)]) hx hb dX4_meet_186 hl (by decide) rfl (fun ls hl => ?_)
              refine lv_iload_n hx hb dX4_meet_188 rfl (lv_at hl 3 rfl) ?_
              have JP221 : ∀ (t0_221 : Int32), jn_X4_meet_221 v1 v3_17 ((40 * v1) + v3_17) t0_106 t0_186 m_lines m_comeTo m_greatest_17 m_least_17 m_nowGreatest m_nowLeast t0_221 (lp_X4_meet_17 v1 m_lines m_comeTo m_nowGreatest m_nowLeast Q n17) Q → ∀ (H : Heap) (locs : List Loc), va_P D vwCl (wM a cI cZ cJ m_thrown m_sets m_ways m_penalty m_blocks m_edges m_pairs m_lines m_isFresh m_isAnswer m_time m_touchMany m_touch m_line m_from m_to m_bound m_pairA m_pairB m_comeTo m_greatest_17 m_least_17 m_nowGreatest m_nowLeast m_does m_mostTime m_leastTime m_countUnit m_flagUnit m_worst m_best m_stack) H → va_D A (wM a cI cZ cJ m_thrown m_sets m_ways m_penalty m_blocks m_edges m_pairs m_lines m_isFresh m_isAnswer m_time m_touchMany m_touch m_line m_from m_to m_bound m_pairA m_pairB m_comeTo m_greatest_17 m_least_17 m_nowGreatest m_nowLeast m_does m_mostTime m_leastTime m_countUnit m_flagUnit m_worst m_best m_stack) → va_S A s.heap H locs → ∀ (ls : Array Slot), lv_has ls 7 [(0, .ref (a 0)), (1, .int v1), (3, .int v3_17), (4, .int ((40 * v1) + v3_17)), (5, .int t0_106), (6, .int t0_186)] → W p l e (headSpec wsX4_meet rm_X4_meet).room s m ([Value.ref (a 0), Value.int v1] : List Value).toArray below meth c H locs 0 0 Qz (F0 m 221 ls [.int t0_221]) := by
                intro t0_221 h H locs hP hD hS ls hl
                unfold jn_X4_meet_221 at h
                refine lv_istore_n (lv' := [(2, .int t0_221), (0, .ref (a 0)), (1, .int v1), (3, .int v3_17), (4, .int ((40 * v1) + v3_17)), (5, .int t0_106), (6, .int t0_186)]) hx hb dX4_meet_221 rfl hl (by decide) rfl (fun ls hl => ?_)
                refine lv_aload_n hx hb dX4_meet_222 rfl (lv_at hl 1 rfl) ?_
                refine va_get (D := D) (ci := 4) (v := .ref (a 11)) (C := RX4) (T := TX4) (N := 32) hx hb hts hinX4 hown hK hP 0 rfl rfl 19 (by decide) (hts (.fieldLink RX4 41 "WorstPathsModel" "greatest" "[I") (by decide +kernel)) (fun _ h9 => h9) rfl dX4_meet_223 ?_
                refine lv_iload hx hb dX4_meet_226 (lv_at hl 4 rfl) ?_
                refine lv_iload hx hb dX4_meet_228 (lv_at hl 5 rfl) ?_
                obtain ⟨hq, h⟩ := h
                refine va_iast (D := D) hx hb hK hP hD hS 11 0 rfl rfl hq dX4_meet_230 (fun H locs hP hD hS => ?_)
                have hP : va_P D vwCl (wM a cI cZ cJ m_thrown m_sets m_ways m_penalty m_blocks m_edges m_pairs m_lines m_isFresh m_isAnswer m_time m_touchMany m_touch m_line m_from m_to m_bound m_pairA m_pairB m_comeTo (upd m_greatest_17 (Int32.toNatClampNeg ((40 * v1) + v3_17)) t0_106) m_least_17 m_nowGreatest m_nowLeast m_does m_mostTime m_leastTime m_countUnit m_flagUnit m_worst m_best m_stack) H := hP
                have hD : va_D A (wM a cI cZ cJ m_thrown m_sets m_ways m_penalty m_blocks m_edges m_pairs m_lines m_isFresh m_isAnswer m_time m_touchMany m_touch m_line m_from m_to m_bound m_pairA m_pairB m_comeTo (upd m_greatest_17 (Int32.toNatClampNeg ((40 * v1) + v3_17)) t0_106) m_least_17 m_nowGreatest m_nowLeast m_does m_mostTime m_leastTime m_countUnit m_flagUnit m_worst m_best m_stack) := hD
                refine lv_aload_n hx hb dX4_meet_231 rfl (lv_at hl 1 rfl) ?_
                refine va_get (D := D) (ci := 4) (v := .ref (a 12)) (C := RX4) (T := TX4) (N := 32) hx hb hts hinX4 hown hK hP 0 rfl rfl 20 (by decide) (hts (.fieldLink RX4 44 "WorstPathsModel" "least" "[I") (by decide +kernel)) (fun _ h9 => h9) rfl dX4_meet_232 ?_
                refine lv_iload hx hb dX4_meet_235 (lv_at hl 4 rfl) ?_
                refine lv_iload hx hb dX4_meet_237 (lv_at hl 6 rfl) ?_
                obtain ⟨hq, h⟩ := h
                refine va_iast (D := D) hx hb hK hP hD hS 12 0 rfl rfl hq dX4_meet_239 (fun H locs hP hD hS => ?_)
                have hP : va_P D vwCl (wM a cI cZ cJ m_thrown m_sets m_ways m_penalty m_blocks m_edges m_pairs m_lines m_isFresh m_isAnswer m_time m_touchMany m_touch m_line m_from m_to m_bound m_pairA m_pairB m_comeTo (upd m_greatest_17 (Int32.toNatClampNeg ((40 * v1) + v3_17)) t0_106) (upd m_least_17 (Int32.toNatClampNeg ((40 * v1) + v3_17)) t0_186) m_nowGreatest m_nowLeast m_does m_mostTime m_leastTime m_countUnit m_flagUnit m_worst m_best m_stack) H := hP
                have hD : va_D A (wM a cI cZ cJ m_thrown m_sets m_ways m_penalty m_blocks m_edges m_pairs m_lines m_isFresh m_isAnswer m_time m_touchMany m_touch m_line m_from m_to m_bound m_pairA m_pairB m_comeTo (upd m_greatest_17 (Int32.toNatClampNeg ((40 * v1) + v3_17)) t0_106) (upd m_least_17 (Int32.toNatClampNeg ((40 * v1) + v3_17)) t0_186) m_nowGreatest m_nowLeast m_does m_mostTime m_leastTime m_countUnit m_flagUnit m_worst m_best m_stack) := hD
                refine lv_iinc (v := (v3_17 + 1)) (lv' := [(3, .int (v3_17 + 1)), (2, .int t0_221), (0, .ref (a 0)), (1, .int v1), (4, .int ((40 * v1) + v3_17)), (5, .int t0_106), (6, .int t0_186)]) hx hb dX4_meet_240 hl (k := 3) rfl rfl (by decide) rfl (fun ls hl => ?_)
                refine lv_goto (tgt := 17) hx hb dX4_meet_243 (by decide) ?_
                exact ih17 t0_221 (v3_17 + 1) (upd m_greatest_17 (Int32.toNatClampNeg ((40 * v1) + v3_17)) t0_106) (upd m_least_17 (Int32.toNatClampNeg ((40 * v1) + v3_17)) t0_186) h _ _ hP hD hS _ (lv_sub hl [2, 3, 1, 0] rfl)
              refine lv_if_ne (tgt := 216) hx hb dX4_meet_189 (by decide) (fun hc => ?_) (fun hc => ?_)
              · replace h := h.1 hc
                refine lv_iconst (v := 1) hx hb dX4_meet_216 (by decide) ?_
                refine lv_goto (tgt := 221) hx hb dX4_meet_217 (by decide) ?_
                exact JP221 1 h _ _ hP hD hS _ (lv_sub hl [1, 2, 4, 5, 6, 0] rfl)
              · replace h := h.2 hc
                refine lv_iload hx hb dX4_meet_192 (lv_at hl 6 rfl) ?_
                refine lv_aload_n hx hb dX4_meet_194 rfl (lv_at hl 1 rfl) ?_
                refine va_get (D := D) (ci := 4) (v := .ref (a 11)) (C := RX4) (T := TX4) (N := 32) hx hb hts hinX4 hown hK hP 0 rfl rfl 19 (by decide) (hts (.fieldLink RX4 41 "WorstPathsModel" "greatest" "[I") (by decide +kernel)) (fun _ h9 => h9) rfl dX4_meet_195 ?_
                refine lv_iload hx hb dX4_meet_198 (lv_at hl 5 rfl) ?_
                obtain ⟨hq, h⟩ := h
                refine va_iald (D := D) hx hb hK hP 11 0 rfl rfl hq dX4_meet_200 ?_
                refine lv_icmp_ne (tgt := 216) hx hb dX4_meet_201 (by decide) (fun hc => ?_) (fun hc => ?_)
                · replace h := h.1 hc
                  refine lv_iconst (v := 1) hx hb dX4_meet_216 (by decide) ?_
                  refine lv_goto (tgt := 221) hx hb dX4_meet_217 (by decide) ?_
                  exact JP221 1 h _ _ hP hD hS _ (lv_sub hl [1, 2, 4, 5, 6, 0] rfl)
                · replace h := h.2 hc
                  refine lv_iload hx hb dX4_meet_204 (lv_at hl 0 rfl) ?_
                  refine lv_aload_n hx hb dX4_meet_206 rfl (lv_at hl 1 rfl) ?_
                  refine va_get (D := D) (ci := 4) (v := .ref (a 12)) (C := RX4) (T := TX4) (N := 32) hx hb hts hinX4 hown hK hP 0 rfl rfl 20 (by decide) (hts (.fieldLink RX4 44 "WorstPathsModel" "least" "[I") (by decide +kernel)) (fun _ h9 => h9) rfl dX4_meet_207 ?_
                  refine lv_iload hx hb dX4_meet_210 (lv_at hl 5 rfl) ?_
                  obtain ⟨hq, h⟩ := h
                  refine va_iald (D := D) hx hb hK hP 12 0 rfl rfl hq dX4_meet_212 ?_
                  refine lv_icmp_eq (tgt := 220) hx hb dX4_meet_213 (by decide) (fun hc => ?_) (fun hc => ?_)
                  · replace h := h.1 hc
                    refine lv_iconst (v := 0) hx hb dX4_meet_220 (by decide) ?_
                    exact JP221 0 h _ _ hP hD hS _ (lv_sub hl [1, 2, 4, 5, 6, 0] rfl)
                  · replace h := h.2 hc
                    refine lv_iconst (v := 1) hx hb dX4_meet_216 (by decide) ?_
                    refine lv_goto (tgt := 221) hx hb dX4_meet_217 (by decide) ?_
                    exact JP221 1 h _ _ hP hD hS _ (lv_sub hl [1, 2, 4, 5, 6, 0] rfl)
            refine lv_if_ne (tgt := 126) hx hb dX4_meet_114 (by decide) (fun hc => ?_) (fun hc => ?_)
            · replace h := h.1 hc
              refine lv_aload_n hx hb dX4_meet_126 rfl (lv_at hl 1 rfl) ?_
              refine va_get (D := D) (ci := 4) (v := .ref (a 12)) (C := RX4) (T := TX4) (N := 32) hx hb hts hinX4 hown hK hP 0 rfl rfl 20 (by decide) (hts (.fieldLink RX4 44 "WorstPathsModel" "least" "[I") (by decide +kernel)) (fun _ h9 => h9) rfl dX4_meet_127 ?_
              refine lv_iload hx hb dX4_meet_130 (lv_at hl 5 rfl) ?_
              obtain ⟨hq, h⟩ := h
              refine va_iald (D := D) hx hb hK hP 12 0 rfl rfl hq dX4_meet_132 ?_
              refine lv_if_ge (tgt := 145) hx hb dX4_meet_133 (by decide) (fun hc => ?_) (fun hc => ?_)
              · replace h := h.1 hc
                refine lv_aload_n hx hb dX4_meet_145 rfl (lv_at hl 1 rfl) ?_
                refine va_get (D := D) (ci := 4) (v := .ref (a 14)) (C := RX4) (T := TX4) (N := 32) hx hb hts hinX4 hown hK hP 0 rfl rfl 22 (by decide) (hts (.fieldLink RX4 50 "WorstPathsModel" "nowLeast" "[I") (by decide +kernel)) (fun _ h9 => h9) rfl dX4_meet_146 ?_
                refine lv_iload_n hx hb dX4_meet_149 rfl (lv_at hl 4 rfl) ?_
                obtain ⟨hq, h⟩ := h
                refine va_iald (D := D) hx hb hK hP 14 0 rfl rfl hq dX4_meet_150 ?_
                refine lv_if_lt (tgt := 170) hx hb dX4_meet_151 (by decide) (fun hc => ?_) (fun hc => ?_)
                · replace h := h.1 hc
                  refine lv_aload_n hx hb dX4_meet_170 rfl (lv_at hl 1 rfl) ?_
                  refine va_get (D := D) (ci := 4) (v := .ref (a 12)) (C := RX4) (T := TX4) (N := 32) hx hb hts hinX4 hown hK hP 0 rfl rfl 20 (by decide) (hts (.fieldLink RX4 44 "WorstPathsModel" "least" "[I") (by decide +kernel)) (fun _ h9 => h9) rfl dX4_meet_171 ?_
                  refine lv_iload hx hb dX4_meet_174 (lv_at hl 5 rfl) ?_
                  obtain ⟨hq, h⟩ := h
                  refine va_iald (D := D) hx hb hK hP 12 0 rfl rfl hq dX4_meet_176 ?_
                  refine lv_goto (tgt := 186) hx hb dX4_meet_177 (by decide) ?_
                  exact JP186 (m_least_17 (Int32.toNatClampNeg ((40 * v1) + v3_17))) h _ _ hP hD hS _ (lv_sub hl [1, 2, 3, 4, 5, 0] rfl)
                · replace h := h.2 hc
                  refine lv_aload_n hx hb dX4_meet_154 rfl (lv_at hl 1 rfl) ?_
                  refine va_get (D := D) (ci := 4) (v := .ref (a 12)) (C := RX4) (T := TX4) (N := 32) hx hb hts hinX4 hown hK hP 0 rfl rfl 20 (by decide) (hts (.fieldLink RX4 44 "WorstPathsModel" "least" "[I") (by decide +kernel)) (fun _ h9 => h9) rfl dX4_meet_155 ?_
                  refine lv_iload hx hb dX4_meet_158 (lv_at hl 5 rfl) ?_
                  obtain ⟨hq, h⟩ := h
                  refine va_iald (D := D) hx hb hK hP 12 0 rfl rfl hq dX4_meet_160 ?_
                  refine lv_aload_n hx hb dX4_meet_161 rfl (lv_at hl 1 rfl) ?_
                  refine va_get (D := D) (ci := 4) (v := .ref (a 14)) (C := RX4) (T := TX4) (N := 32) hx hb hts hinX4 hown hK hP 0 rfl rfl 22 (by decide) (hts (.fieldLink RX4 50 "WorstPathsModel" "nowLeast" "[I") (by decide +kernel)) (fun _ h9 => h9) rfl dX4_meet_162 ?_
                  refine lv_iload_n hx hb dX4_meet_165 rfl (lv_at hl 4 rfl) ?_
                  obtain ⟨hq, h⟩ := h
                  refine va_iald (D := D) hx hb hK hP 14 0 rfl rfl hq dX4_meet_166 ?_
                  refine lv_icmp_ge (tgt := 180) hx hb dX4_meet_167 (by decide) (fun hc => ?_) (fun hc => ?_)
                  · replace h := h.1 hc
                    refine lv_aload_n hx hb dX4_meet_180 rfl (lv_at hl 1 rfl) ?_
                    refine va_get (D := D) (ci := 4) (v := .ref (a 14)) (C := RX4) (T := TX4) (N := 32) hx hb hts hinX4 hown hK hP 0 rfl rfl 22 (by decide) (hts (.fieldLink RX4 50 "WorstPathsModel" "nowLeast" "[I") (by decide +kernel)) (fun _ h9 => h9) rfl dX4_meet_181 ?_
                    refine lv_iload_n hx hb dX4_meet_184 rfl (lv_at hl 4 rfl) ?_
                    obtain ⟨hq, h⟩ := h
                    refine va_iald (D := D) hx hb hK hP 14 0 rfl rfl hq dX4_meet_185 ?_
                    exact JP186 (m_nowLeast (Int32.toNatClampNeg v3_17)) h _ _ hP hD hS _ (lv_sub hl [1, 2, 3, 4, 5, 0] rfl)
                  · replace h := h.2 hc
                    refine lv_aload_n hx hb dX4_meet_170 rfl (lv_at hl 1 rfl) ?_
                    refine va_get (D := D) (ci := 4) (v := .ref (a 12)) (C := RX4) (T := TX4) (N := 32) hx hb hts hinX4 hown hK hP 0 rfl rfl 20 (by decide) (hts (.fieldLink RX4 44 "WorstPathsModel" "least" "[I") (by decide +kernel)) (fun _ h9 => h9) rfl dX4_meet_171 ?_
                    refine lv_iload hx hb dX4_meet_174 (lv_at hl 5 rfl) ?_
                    obtain ⟨hq, h⟩ := h
                    refine va_iald (D := D) hx hb hK hP 12 0 rfl rfl hq dX4_meet_176 ?_
                    refine lv_goto (tgt := 186) hx hb dX4_meet_177 (by decide) ?_
                    exact JP186 (m_least_17 (Int32.toNatClampNeg ((40 * v1) + v3_17))) h _ _ hP hD hS _ (lv_sub hl [1, 2, 3, 4, 5, 0] rfl)
              · replace h := h.2 hc
                refine lv_aload_n hx hb dX4_meet_136 rfl (lv_at hl 1 rfl) ?_
                refine va_get (D := D) (ci := 4) (v := .ref (a 14)) (C := RX4) (T := TX4) (N := 32) hx hb hts hinX4 hown hK hP 0 rfl rfl 22 (by decide) (hts (.fieldLink RX4 50 "WorstPathsModel" "nowLeast" "[I") (by decide +kernel)) (fun _ h9 => h9) rfl dX4_meet_137 ?_
                refine lv_iload_n hx hb dX4_meet_140 rfl (lv_at hl 4 rfl) ?_
                obtain ⟨hq, h⟩ := h
                refine va_iald (D := D) hx hb hK hP 14 0 rfl rfl hq dX4_meet_141 ?_
                refine lv_goto (tgt := 186) hx hb dX4_meet_142 (by decide) ?_
                exact JP186 (m_nowLeast (Int32.toNatClampNeg v3_17)) h _ _ hP hD hS _ (lv_sub hl [1, 2, 3, 4, 5, 0] rfl)
            · replace h := h.2 hc
              refine lv_aload_n hx hb dX4_meet_117 rfl (lv_at hl 1 rfl) ?_
              refine va_get (D := D) (ci := 4) (v := .ref (a 14)) (C := RX4) (T := TX4) (N := 32) hx hb hts hinX4 hown hK hP 0 rfl rfl 22 (by decide) (hts (.fieldLink RX4 50 "WorstPathsModel" "nowLeast" "[I") (by decide +kernel)) (fun _ h9 => h9) rfl dX4_meet_118 ?_
              refine lv_iload_n hx hb dX4_meet_121 rfl (lv_at hl 4 rfl) ?_
              obtain ⟨hq, h⟩ := h
              refine va_iald (D := D) hx hb hK hP 14 0 rfl rfl hq dX4_meet_122 ?_
              refine lv_goto (tgt := 186) hx hb dX4_meet_123 (by decide) ?_
              exact JP186 (m_nowLeast (Int32.toNatClampNeg v3_17)) h _ _ hP hD hS _ (lv_sub hl [1, 2, 3, 4, 5, 0] rfl)
          refine lv_if_ne (tgt := 51) hx hb dX4_meet_39 (by decide) (fun hc => ?_) (fun hc => ?_)
          · replace h := h.1 hc
            refine lv_aload_n hx hb dX4_meet_51 rfl (lv_at hl 1 rfl) ?_
            refine va_get (D := D) (ci := 4) (v := .ref (a 11)) (C := RX4) (T := TX4) (N := 32) hx hb hts hinX4 hown hK hP 0 rfl rfl 19 (by decide) (hts (.fieldLink RX4 41 "WorstPathsModel" "greatest" "[I") (by decide +kernel)) (fun _ h9 => h9) rfl dX4_meet_52 ?_
            refine lv_iload hx hb dX4_meet_55 (lv_at hl 0 rfl) ?_
            obtain ⟨hq, h⟩ := h
            refine va_iald (D := D) hx hb hK hP 11 0 rfl rfl hq dX4_meet_57 ?_
            refine lv_if_lt (tgt := 70) hx hb dX4_meet_58 (by decide) (fun hc => ?_) (fun hc => ?_)
            · replace h := h.1 hc
              refine lv_iconst (v := (-1)) hx hb dX4_meet_70 (by decide) ?_
              refine lv_goto (tgt := 106) hx hb dX4_meet_71 (by decide) ?_
              exact JP106 (-1) h _ _ hP hD hS _ (lv_sub hl [1, 2, 3, 4, 0] rfl)
            · replace h := h.2 hc
              refine lv_aload_n hx hb dX4_meet_61 rfl (lv_at hl 1 rfl) ?_
              refine va_get (D := D) (ci := 4) (v := .ref (a 13)) (C := RX4) (T := TX4) (N := 32) hx hb hts hinX4 hown hK hP 0 rfl rfl 21 (by decide) (hts (.fieldLink RX4 47 "WorstPathsModel" "nowGreatest" "[I") (by decide +kernel)) (fun _ h9 => h9) rfl dX4_meet_62 ?_
              refine lv_iload_n hx hb dX4_meet_65 rfl (lv_at hl 4 rfl) ?_
              obtain ⟨hq, h⟩ := h
              refine va_iald (D := D) hx hb hK hP 13 0 rfl rfl hq dX4_meet_66 ?_
              refine lv_if_ge (tgt := 74) hx hb dX4_meet_67 (by decide) (fun hc => ?_) (fun hc => ?_)
              · replace h := h.1 hc
                refine lv_aload_n hx hb dX4_meet_74 rfl (lv_at hl 1 rfl) ?_
                refine va_get (D := D) (ci := 4) (v := .ref (a 11)) (C := RX4) (T := TX4) (N := 32) hx hb hts hinX4 hown hK hP 0 rfl rfl 19 (by decide) (hts (.fieldLink RX4 41 "WorstPathsModel" "greatest" "[I") (by decide +kernel)) (fun _ h9 => h9) rfl dX4_meet_75 ?_
                refine lv_iload hx hb dX4_meet_78 (lv_at hl 0 rfl) ?_
                obtain ⟨hq, h⟩ := h
                refine va_iald (D := D) hx hb hK hP 11 0 rfl rfl hq dX4_meet_80 ?_
                refine lv_aload_n hx hb dX4_meet_81 rfl (lv_at hl 1 rfl) ?_
                refine va_get (D := D) (ci := 4) (v := .ref (a 13)) (C := RX4) (T := TX4) (N := 32) hx hb hts hinX4 hown hK hP 0 rfl rfl 21 (by decide) (hts (.fieldLink RX4 47 "WorstPathsModel" "nowGreatest" "[I") (by decide +kernel)) (fun _ h9 => h9) rfl dX4_meet_82 ?_
                refine lv_iload_n hx hb dX4_meet_85 rfl (lv_at hl 4 rfl) ?_
                obtain ⟨hq, h⟩ := h
                refine va_iald (D := D) hx hb hK hP 13 0 rfl rfl hq dX4_meet_86 ?_
                refine lv_icmp_le (tgt := 100) hx hb dX4_meet_87 (by decide) (fun hc => ?_) (fun hc => ?_)
                · replace h := h.1 hc
                  refine lv_aload_n hx hb dX4_meet_100 rfl (lv_at hl 1 rfl) ?_
                  refine va_get (D := D) (ci := 4) (v := .ref (a 13)) (C := RX4) (T := TX4) (N := 32) hx hb hts hinX4 hown hK hP 0 rfl rfl 21 (by decide) (hts (.fieldLink RX4 47 "WorstPathsModel" "nowGreatest" "[I") (by decide +kernel)) (fun _ h9 => h9) rfl dX4_meet_101 ?_
                  refine lv_iload_n hx hb dX4_meet_104 rfl (lv_at hl 4 rfl) ?_
                  obtain ⟨hq, h⟩ := h
                  refine va_iald (D := D) hx hb hK hP 13 0 rfl rfl hq dX4_meet_105 ?_
                  exact JP106 (m_nowGreatest (Int32.toNatClampNeg v3_17)) h _ _ hP hD hS _ (lv_sub hl [1, 2, 3, 4, 0] rfl)
                · replace h := h.2 hc
                  refine lv_aload_n hx hb dX4_meet_90 rfl (lv_at hl 1 rfl) ?_
                  refine va_get (D := D) (ci := 4) (v := .ref (a 11)) (C := RX4) (T := TX4) (N := 32) hx hb hts hinX4 hown hK hP 0 rfl rfl 19 (by decide) (hts (.fieldLink RX4 41 "WorstPathsModel" "greatest" "[I") (by decide +kernel)) (fun _ h9 => h9) rfl dX4_meet_91 ?_
                  refine lv_iload hx hb dX4_meet_94 (lv_at hl 0 rfl) ?_
                  obtain ⟨hq, h⟩ := h
                  refine va_iald (D := D) hx hb hK hP 11 0 rfl rfl hq dX4_meet_96 ?_
                  refine lv_goto (tgt := 106) hx hb dX4_meet_97 (by decide) ?_
                  exact JP106 (m_greatest_17 (Int32.toNatClampNeg ((40 * v1) + v3_17))) h _ _ hP hD hS _ (lv_sub hl [1, 2, 3, 4, 0] rfl)
              · replace h := h.2 hc
                refine lv_iconst (v := (-1)) hx hb dX4_meet_70 (by decide) ?_
                refine lv_goto (tgt := 106) hx hb dX4_meet_71 (by decide) ?_
                exact JP106 (-1) h _ _ hP hD hS _ (lv_sub hl [1, 2, 3, 4, 0] rfl)
          · replace h := h.2 hc
            refine lv_aload_n hx hb dX4_meet_42 rfl (lv_at hl 1 rfl) ?_
            refine va_get (D := D) (ci := 4) (v := .ref (a 13)) (C := RX4) (T := TX4) (N := 32) hx hb hts hinX4 hown hK hP 0 rfl rfl 21 (by decide) (hts (.fieldLink RX4 47 "WorstPathsModel" "nowGreatest" "[I") (by decide +kernel)) (fun _ h9 => h9) rfl dX4_meet_43 ?_
            refine lv_iload_n hx hb dX4_meet_46 rfl (lv_at hl 4 rfl) ?_
            obtain ⟨hq, h⟩ := h
            refine va_iald (D := D) hx hb hK hP 13 0 rfl rfl hq dX4_meet_47 ?_
            refine lv_goto (tgt := 106) hx hb dX4_meet_48 (by decide) ?_
            exact JP106 (m_nowGreatest (Int32.toNatClampNeg v3_17)) h _ _ hP hD hS _ (lv_sub hl [1, 2, 3, 4, 0] rfl)
    obtain ⟨k9, h⟩ := h
    exact LP17 k9 1 0 m_greatest m_least h _ _ hP hD hS _ (lv_sub hl [2, 3, 1, 0] rfl)
def jn_X4_findAges_272 (v2 : Int32) (v3 : Int32) (m_sets : Int32) (m_ways : Int32) (m_penalty : Int32) (m_blocks : Int32) (m_edges : Int32) (m_lines : Int32) (m_time : Nat → Int32) (m_touchMany : Nat → Int32) (m_touch : Nat → Int32) (m_line : Nat → Int32) (m_from : Nat → Int32) (m_to : Nat → Int32) (m_comeTo : Nat → Int32) (m_greatest : Nat → Int32) (m_least : Nat → Int32) (m_nowGreatest : Nat → Int32) (m_nowLeast : Nat → Int32) (m_does : Nat → Int32) (m_mostTime : Nat → Int64) (m_leastTime : Nat → Int64) (t0 : Int64) (t1 : Int64) (t2 : Int32) (K144 : Int32 → (Nat → Int32) → (Nat → Int32) → (Nat → Int32) → (Nat → Int64) → (Nat → Int64) → Prop) (K197 : Int32 → (Nat → Int32) → (Nat → Int64) → (Nat → Int64) → Prop) (Q : (Nat → Int32) → (Nat → Int32) → (Nat → Int32) → (Nat → Int32) → (Nat → Int32) → (Nat → Int32) → (Nat → Int64) → (Nat → Int64) → Prop) : Prop := vp_in t2 40 ∧ (vp_in v2 40 ∧ (vp_in v3 240 ∧ ((¬ (m_does (Int32.toNatClampNeg v3)) = 2 → vp_in v2 40 ∧ (K197 (v3 + 1) m_does (vp_updL m_mostTime (Int32.toNatClampNeg t2) (t1 + t0)) (vp_updL m_leastTime (Int32.toNatClampNeg v2) ((m_leastTime (Int32.toNatClampNeg v2)) + 0)))) ∧ ((m_does (Int32.toNatClampNeg v3)) = 2 → vp_in v2 40 ∧ (K197 (v3 + 1) m_does (vp_updL m_mostTime (Int32.toNatClampNeg t2) (t1 + t0)) (vp_updL m_leastTime (Int32.toNatClampNeg v2) ((m_leastTime (Int32.toNatClampNeg v2)) + (Int32.toInt64 m_penalty))))))))
def jn_X4_findAges_236 (v2 : Int32) (v3 : Int32) (m_sets : Int32) (m_ways : Int32) (m_penalty : Int32) (m_blocks : Int32) (m_edges : Int32) (m_lines : Int32) (m_time : Nat → Int32) (m_touchMany : Nat → Int32) (m_touch : Nat → Int32) (m_line : Nat → Int32) (m_from : Nat → Int32) (m_to : Nat → Int32) (m_comeTo : Nat → Int32) (m_greatest : Nat → Int32) (m_least : Nat → Int32) (m_nowGreatest : Nat → Int32) (m_nowLeast : Nat → Int32) (m_does : Nat → Int32) (m_mostTime : Nat → Int64) (m_leastTime : Nat → Int64) (t0 : Int32) (t1 : Int32) (K144 : Int32 → (Nat → Int32) → (Nat → Int32) → (Nat → Int32) → (Nat → Int64) → (Nat → Int64) → Prop) (K197 : Int32 → (Nat → Int32) → (Nat → Int64) → (Nat → Int64) → Prop) (Q : (Nat → Int32) → (Nat → Int32) → (Nat → Int32) → (Nat → Int32) → (Nat → Int32) → (Nat → Int32) → (Nat → Int64) → (Nat → Int64) → Prop) : Prop := vp_in t1 240 ∧ (vp_in v2 40 ∧ (vp_in v3 240 ∧ ((((upd m_does (Int32.toNatClampNeg t1) t0) (Int32.toNatClampNeg v3)) = 2 → jn_X4_findAges_272 v2 v3 m_sets m_ways m_penalty m_blocks m_edges m_lines m_time m_touchMany m_touch m_line m_from m_to m_comeTo m_greatest m_least m_nowGreatest m_nowLeast (upd m_does (Int32.toNatClampNeg t1) t0) m_mostTime m_leastTime (Int32.toInt64 m_penalty) (m_mostTime (Int32.toNatClampNeg v2)) v2 K144 K197 Q) ∧ (¬ ((upd m_does (Int32.toNatClampNeg t1) t0) (Int32.toNatClampNeg v3)) = 2 → vp_in v3 240 ∧ ((¬ ((upd m_does (Int32.toNatClampNeg t1) t0) (Int32.toNatClampNeg v3)) = 0 → jn_X4_findAges_272 v2 v3 m_sets m_ways m_penalty m_blocks m_edges m_lines m_time m_touchMany m_touch m_line m_from m_to m_comeTo m_greatest m_least m_nowGreatest m_nowLeast (upd m_does (Int32.toNatClampNeg t1) t0) m_mostTime m_leastTime 0 (m_mostTime (Int32.toNatClampNeg v2)) v2 K144 K197 Q) ∧ (((upd m_does (Int32.toNatClampNeg t1) t0) (Int32.toNatClampNeg v3)) = 0 → jn_X4_findAges_272 v2 v3 m_sets m_ways m_penalty m_blocks m_edges m_lines m_time m_touchMany m_touch m_line m_from m_to m_comeTo m_greatest m_least m_nowGreatest m_nowLeast (upd m_does (Int32.toNatClampNeg t1) t0) m_mostTime m_leastTime (Int32.toInt64 m_penalty) (m_mostTime (Int32.toNatClampNeg v2)) v2 K144 K197 Q))))))
def lp_X4_findAges_197 (v2 : Int32) (m_sets : Int32) (m_ways : Int32) (m_penalty : Int32) (m_blocks : Int32) (m_edges : Int32) (m_lines : Int32) (m_time : Nat → Int32) (m_touchMany : Nat → Int32) (m_touch : Nat → Int32) (m_line : Nat → Int32) (m_from : Nat → Int32) (m_to : Nat → Int32) (m_comeTo : Nat → Int32) (m_greatest : Nat → Int32) (m_least : Nat → Int32) (m_nowGreatest : Nat → Int32) (m_nowLeast : Nat → Int32) (K144 : Int32 → (Nat → Int32) → (Nat → Int32) → (Nat → Int32) → (Nat → Int64) → (Nat → Int64) → Prop) (Q : (Nat → Int32) → (Nat → Int32) → (Nat → Int32) → (Nat → Int32) → (Nat → Int32) → (Nat → Int32) → (Nat → Int64) → (Nat → Int64) → Prop) : Nat → Int32 → (Nat → Int32) → (Nat → Int64) → (Nat → Int64) → Prop
  | 0, _, _, _, _ => False
  | n + 1, v3, m_does, m_mostTime, m_leastTime => vp_in v2 40 ∧ ((((6 * v2) + (m_touchMany (Int32.toNatClampNeg v2))) ≤ v3 → K144 (v2 + 1) m_nowGreatest m_nowLeast m_does m_mostTime m_leastTime) ∧ (¬ ((6 * v2) + (m_touchMany (Int32.toNatClampNeg v2))) ≤ v3 → vp_in v2 40 ∧ (((m_comeTo (Int32.toNatClampNeg v2)) = 0 → jn_X4_findAges_236 v2 v3 m_sets m_ways m_penalty m_blocks m_edges m_lines m_time m_touchMany m_touch m_line m_from m_to m_comeTo m_greatest m_least m_nowGreatest m_nowLeast m_does m_mostTime m_leastTime (-1) v3 K144 (lp_X4_findAges_197 v2 m_sets m_ways m_penalty m_blocks m_edges m_lines m_time m_touchMany m_touch m_line m_from m_to m_comeTo m_greatest m_least m_nowGreatest m_nowLeast K144 Q n) Q) ∧ (¬ (m_comeTo (Int32.toNatClampNeg v2)) = 0 → vp_in v3 240 ∧ (jn_X4_findAges_236 v2 v3 m_sets m_ways m_penalty m_blocks m_edges m_lines m_time m_touchMany m_touch m_line m_from m_to m_comeTo m_greatest m_least m_nowGreatest m_nowLeast m_does m_mostTime m_leastTime (m_does (Int32.toNatClampNeg v3)) v3 K144 (lp_X4_findAges_197 v2 m_sets m_ways m_penalty m_blocks m_edges m_lines m_time m_touchMany m_touch m_line m_from m_to m_comeTo m_greatest m_least m_nowGreatest m_nowLeast K144 Q n) Q)))))
def lp_X4_findAges_144 (m_sets : Int32) (m_ways : Int32) (m_penalty : Int32) (m_blocks : Int32) (m_edges : Int32) (m_lines : Int32) (m_time : Nat → Int32) (m_touchMany : Nat → Int32) (m_touch : Nat → Int32) (m_line : Nat → Int32) (m_from : Nat → Int32) (m_to : Nat → Int32) (m_comeTo : Nat → Int32) (m_greatest : Nat → Int32) (m_least : Nat → Int32) (Q : (Nat → Int32) → (Nat → Int32) → (Nat → Int32) → (Nat → Int32) → (Nat → Int32) → (Nat → Int32) → (Nat → Int64) → (Nat → Int64) → Prop) : Nat → Int32 → (Nat → Int32) → (Nat → Int32) → (Nat → Int32) → (Nat → Int64) → (Nat → Int64) → Prop
  | 0, _, _, _, _, _, _ => False
  | n + 1, v2, m_nowGreatest, m_nowLeast, m_does, m_mostTime, m_leastTime => (m_blocks ≤ v2 → Q m_comeTo m_greatest m_least m_nowGreatest m_nowLeast m_does m_mostTime m_leastTime) ∧ (¬ m_blocks ≤ v2 → vp_in v2 40 ∧ (vp_in v2 40 ∧ (vp_in v2 40 ∧ (vp_in v2 40 ∧ (vp_in v2 40 ∧ (((m_comeTo (Int32.toNatClampNeg v2)) = 0 → ∃ k197, lp_X4_findAges_197 v2 m_sets m_ways m_penalty m_blocks m_edges m_lines m_time m_touchMany m_touch m_line m_from m_to m_comeTo m_greatest m_least m_nowGreatest m_nowLeast (lp_X4_findAges_144 m_sets m_ways m_penalty m_blocks m_edges m_lines m_time m_touchMany m_touch m_line m_from m_to m_comeTo m_greatest m_least Q n) Q k197 (6 * v2) m_does (vp_updL m_mostTime (Int32.toNatClampNeg v2) (Int32.toInt64 (m_time (Int32.toNatClampNeg v2)))) (vp_updL m_leastTime (Int32.toNatClampNeg v2) (Int32.toInt64 (m_time (Int32.toNatClampNeg v2))))) ∧ (¬ (m_comeTo (Int32.toNatClampNeg v2)) = 0 → wp_X4_goThrough v2 m_sets m_ways m_lines m_touchMany m_touch m_line m_greatest m_least m_nowGreatest m_nowLeast m_does (fun m_nowGreatest_189 m_nowLeast_189 m_does_189 => ∃ k197, lp_X4_findAges_197 v2 m_sets m_ways m_penalty m_blocks m_edges m_lines m_time m_touchMany m_touch m_line m_from m_to m_comeTo m_greatest m_least m_nowGreatest_189 m_nowLeast_189 (lp_X4_findAges_144 m_sets m_ways m_penalty m_blocks m_edges m_lines m_time m_touchMany m_touch m_line m_from m_to m_comeTo m_greatest m_least Q n) Q k197 (6 * v2) m_does_189 (vp_updL m_mostTime (Int32.toNatClampNeg v2) (Int32.toInt64 (m_time (Int32.toNatClampNeg v2)))) (vp_updL m_leastTime (Int32.toNatClampNeg v2) (Int32.toInt64 (m_time (Int32.toNatClampNeg v2))))))))))))
def lp_X4_findAges_78 (m_sets : Int32) (m_ways : Int32) (m_penalty : Int32) (m_blocks : Int32) (m_edges : Int32) (m_lines : Int32) (m_time : Nat → Int32) (m_touchMany : Nat → Int32) (m_touch : Nat → Int32) (m_line : Nat → Int32) (m_from : Nat → Int32) (m_to : Nat → Int32) (m_mostTime : Nat → Int64) (m_leastTime : Nat → Int64) (K70 : Int32 → (Nat → Int32) → (Nat → Int32) → (Nat → Int32) → (Nat → Int32) → (Nat → Int32) → (Nat → Int32) → Prop) (Q : (Nat → Int32) → (Nat → Int32) → (Nat → Int32) → (Nat → Int32) → (Nat → Int32) → (Nat → Int32) → (Nat → Int64) → (Nat → Int64) → Prop) : Nat → Int32 → Int32 → (Nat → Int32) → (Nat → Int32) → (Nat → Int32) → (Nat → Int32) → (Nat → Int32) → (Nat → Int32) → Prop
  | 0, _, _, _, _, _, _, _, _ => False
  | n + 1, v1, v2, m_comeTo, m_greatest, m_least, m_nowGreatest, m_nowLeast, m_does => (m_edges ≤ v2 → K70 v1 m_comeTo m_greatest m_least m_nowGreatest m_nowLeast m_does) ∧ (¬ m_edges ≤ v2 → vp_in v2 80 ∧ (vp_in (m_from (Int32.toNatClampNeg v2)) 40 ∧ (((m_comeTo (Int32.toNatClampNeg (m_from (Int32.toNatClampNeg v2)))) = 0 → (lp_X4_findAges_78 m_sets m_ways m_penalty m_blocks m_edges m_lines m_time m_touchMany m_touch m_line m_from m_to m_mostTime m_leastTime K70 Q n) v1 (v2 + 1) m_comeTo m_greatest m_least m_nowGreatest m_nowLeast m_does) ∧ (¬ (m_comeTo (Int32.toNatClampNeg (m_from (Int32.toNatClampNeg v2)))) = 0 → vp_in v2 80 ∧ (wp_X4_goThrough (m_from (Int32.toNatClampNeg v2)) m_sets m_ways m_lines m_touchMany m_touch m_line m_greatest m_least m_nowGreatest m_nowLeast m_does (fun m_nowGreatest_107 m_nowLeast_107 m_does_107 => vp_in v2 80 ∧ (wp_X4_meet (m_to (Int32.toNatClampNeg v2)) m_lines m_comeTo m_greatest m_least m_nowGreatest_107 m_nowLeast_107 (fun r_117 m_comeTo_117 m_greatest_117 m_least_117 => (¬ r_117 = 0 → (lp_X4_findAges_78 m_sets m_ways m_penalty m_blocks m_edges m_lines m_time m_touchMany m_touch m_line m_from m_to m_mostTime m_leastTime K70 Q n) 1 (v2 + 1) m_comeTo_117 m_greatest_117 m_least_117 m_nowGreatest_107 m_nowLeast_107 m_does_107) ∧ (r_117 = 0 → (v1 = 0 → (lp_X4_findAges_78 m_sets m_ways m_penalty m_blocks m_edges m_lines m_time m_touchMany m_touch m_line m_from m_to m_mostTime m_leastTime K70 Q n) 0 (v2 + 1) m_comeTo_117 m_greatest_117 m_least_117 m_nowGreatest_107 m_nowLeast_107 m_does_107) ∧ (¬ v1 = 0 → (lp_X4_findAges_78 m_sets m_ways m_penalty m_blocks m_edges m_lines m_time m_touchMany m_touch m_line m_from m_to m_mostTime m_leastTime K70 Q n) 1 (v2 + 1) m_comeTo_117 m_greatest_117 m_least_117 m_nowGreatest_107 m_nowLeast_107 m_does_107))))))))))
def lp_X4_findAges_70 (m_sets : Int32) (m_ways : Int32) (m_penalty : Int32) (m_blocks : Int32) (m_edges : Int32) (m_lines : Int32) (m_time : Nat → Int32) (m_touchMany : Nat → Int32) (m_touch : Nat → Int32) (m_line : Nat → Int32) (m_from : Nat → Int32) (m_to : Nat → Int32) (m_mostTime : Nat → Int64) (m_leastTime : Nat → Int64) (Q : (Nat → Int32) → (Nat → Int32) → (Nat → Int32) → (Nat → Int32) → (Nat → Int32) → (Nat → Int32) → (Nat → Int64) → (Nat → Int64) → Prop) : Nat → Int32 → (Nat → Int32) → (Nat → Int32) → (Nat → Int32) → (Nat → Int32) → (Nat → Int32) → (Nat → Int32) → Prop
  | 0, _, _, _, _, _, _, _ => False
  | n + 1, v1, m_comeTo, m_greatest, m_least, m_nowGreatest, m_nowLeast, m_does => (v1 = 0 → ∃ k144, lp_X4_findAges_144 m_sets m_ways m_penalty m_blocks m_edges m_lines m_time m_touchMany m_touch m_line m_from m_to m_comeTo m_greatest m_least Q k144 0 m_nowGreatest m_nowLeast m_does m_mostTime m_leastTime) ∧ (¬ v1 = 0 → ∃ k78, lp_X4_findAges_78 m_sets m_ways m_penalty m_blocks m_edges m_lines m_time m_touchMany m_touch m_line m_from m_to m_mostTime m_leastTime (lp_X4_findAges_70 m_sets m_ways m_penalty m_blocks m_edges m_lines m_time m_touchMany m_touch m_line m_from m_to m_mostTime m_leastTime Q n) Q k78 0 0 m_comeTo m_greatest m_least m_nowGreatest m_nowLeast m_does)
def lp_X4_findAges_23 (m_sets : Int32) (m_ways : Int32) (m_penalty : Int32) (m_blocks : Int32) (m_edges : Int32) (m_lines : Int32) (m_time : Nat → Int32) (m_touchMany : Nat → Int32) (m_touch : Nat → Int32) (m_line : Nat → Int32) (m_from : Nat → Int32) (m_to : Nat → Int32) (m_comeTo : Nat → Int32) (m_greatest : Nat → Int32) (m_least : Nat → Int32) (m_does : Nat → Int32) (m_mostTime : Nat → Int64) (m_leastTime : Nat → Int64) (Q : (Nat → Int32) → (Nat → Int32) → (Nat → Int32) → (Nat → Int32) → (Nat → Int32) → (Nat → Int32) → (Nat → Int64) → (Nat → Int64) → Prop) : Nat → Int32 → (Nat → Int32) → (Nat → Int32) → Prop
  | 0, _, _, _ => False
  | n + 1, v1, m_nowGreatest, m_nowLeast => (40 ≤ v1 → (m_blocks ≤ 0 → ∃ k70, lp_X4_findAges_70 m_sets m_ways m_penalty m_blocks m_edges m_lines m_time m_touchMany m_touch m_line m_from m_to m_mostTime m_leastTime Q k70 0 m_comeTo m_greatest m_least m_nowGreatest m_nowLeast m_does) ∧ (¬ m_blocks ≤ 0 → wp_X4_meet 0 m_lines m_comeTo m_greatest m_least m_nowGreatest m_nowLeast (fun r_58 m_comeTo_58 m_greatest_58 m_least_58 => (r_58 = 0 → ∃ k70, lp_X4_findAges_70 m_sets m_ways m_penalty m_blocks m_edges m_lines m_time m_touchMany m_touch m_line m_from m_to m_mostTime m_leastTime Q k70 0 m_comeTo_58 m_greatest_58 m_least_58 m_nowGreatest m_nowLeast m_does) ∧ (¬ r_58 = 0 → ∃ k70, lp_X4_findAges_70 m_sets m_ways m_penalty m_blocks m_edges m_lines m_time m_touchMany m_touch m_line m_from m_to m_mostTime m_leastTime Q k70 1 m_comeTo_58 m_greatest_58 m_least_58 m_nowGreatest m_nowLeast m_does)))) ∧ (¬ 40 ≤ v1 → vp_in v1 40 ∧ (vp_in v1 40 ∧ ((lp_X4_findAges_23 m_sets m_ways m_penalty m_blocks m_edges m_lines m_time m_touchMany m_touch m_line m_from m_to m_comeTo m_greatest m_least m_does m_mostTime m_leastTime Q n) (v1 + 1) (upd m_nowGreatest (Int32.toNatClampNeg v1) (-1)) (upd m_nowLeast (Int32.toNatClampNeg v1) (-1)))))
def lp_X4_findAges_2 (m_sets : Int32) (m_ways : Int32) (m_penalty : Int32) (m_blocks : Int32) (m_edges : Int32) (m_lines : Int32) (m_time : Nat → Int32) (m_touchMany : Nat → Int32) (m_touch : Nat → Int32) (m_line : Nat → Int32) (m_from : Nat → Int32) (m_to : Nat → Int32) (m_greatest : Nat → Int32) (m_least : Nat → Int32) (m_nowGreatest : Nat → Int32) (m_nowLeast : Nat → Int32) (m_does : Nat → Int32) (m_mostTime : Nat → Int64) (m_leastTime : Nat → Int64) (Q : (Nat → Int32) → (Nat → Int32) → (Nat → Int32) → (Nat → Int32) → (Nat → Int32) → (Nat → Int32) → (Nat → Int64) → (Nat → Int64) → Prop) : Nat → Int32 → (Nat → Int32) → Prop
  | 0, _, _ => False
  | n + 1, v1, m_comeTo => (40 ≤ v1 → ∃ k23, lp_X4_findAges_23 m_sets m_ways m_penalty m_blocks m_edges m_lines m_time m_touchMany m_touch m_line m_from m_to m_comeTo m_greatest m_least m_does m_mostTime m_leastTime Q k23 0 m_nowGreatest m_nowLeast) ∧ (¬ 40 ≤ v1 → vp_in v1 40 ∧ ((lp_X4_findAges_2 m_sets m_ways m_penalty m_blocks m_edges m_lines m_time m_touchMany m_touch m_line m_from m_to m_greatest m_least m_nowGreatest m_nowLeast m_does m_mostTime m_leastTime Q n) (v1 + 1) (upd m_comeTo (Int32.toNatClampNeg v1) (vp_nar .boolean 0))))
def wp_X4_findAges (m_sets : Int32) (m_ways : Int32) (m_penalty : Int32) (m_blocks : Int32) (m_edges : Int32) (m_lines : Int32) (m_time : Nat → Int32) (m_touchMany : Nat → Int32) (m_touch : Nat → Int32) (m_line : Nat → Int32) (m_from : Nat → Int32) (m_to : Nat → Int32) (m_comeTo : Nat → Int32) (m_greatest : Nat → Int32) (m_least : Nat → Int32) (m_nowGreatest : Nat → Int32) (m_nowLeast : Nat → Int32) (m_does : Nat → Int32) (m_mostTime : Nat → Int64) (m_leastTime : Nat → Int64) (Q : (Nat → Int32) → (Nat → Int32) → (Nat → Int32) → (Nat → Int32) → (Nat → Int32) → (Nat → Int32) → (Nat → Int64) → (Nat → Int64) → Prop) : Prop := ∃ k2, lp_X4_findAges_2 m_sets m_ways m_penalty m_blocks m_edges m_lines m_time m_touchMany m_touch m_line m_from m_to m_greatest m_least m_nowGreatest m_nowLeast m_does m_mostTime m_leastTime Q k2 0 m_comeTo
abbrev rm_X4_findAges : Room := { frames := 3, cells := 0, slots := 0, locals := 68 }
set_option maxHeartbeats 4000000 in
set_option maxRecDepth 100000 in
theorem c_X4_findAges (l : Launch) (D : va_G) (a : Nat → Nat) (cI : ClassId) (cZ : ClassId) (cJ : ClassId) (sz : Nat) (m_thrown : Int32) (m_sets : Int32) (m_ways : Int32) (m_penalty : Int32) (m_blocks : Int32) (m_edges : Int32) (m_pairs : Int32) (m_lines : Int32) (m_isFresh : Int32) (m_isAnswer : Int32) (m_time : Nat → Int32) (m_touchMany : Nat → Int32) (m_touch : Nat → Int32) (m_line : Nat → Int32) (m_from : Nat → Int32) (m_to : Nat → Int32) (m_bound : Nat → Int32) (m_pairA : Nat → Int32) (m_pairB : Nat → Int32) (m_comeTo : Nat → Int32) (m_greatest : Nat → Int32) (m_least : Nat → Int32) (m_nowGreatest : Nat → Int32) (m_nowLeast : Nat → Int32) (m_does : Nat → Int32) (m_mostTime : Nat → Int64) (m_leastTime : Nat → Int64) (m_countUnit : Nat → Int32) (m_flagUnit : Nat → Int32) (m_worst : Nat → Int64) (m_best : Nat → Int64) (m_stack : Nat → Int32) (Q : (Nat → Int32) → (Nat → Int32) → (Nat → Int32) → (Nat → Int32) → (Nat → Int32) → (Nat → Int32) → (Nat → Int64) → (Nat → Int64) → Prop) (h : wp_X4_findAges m_sets m_ways m_penalty m_blocks m_edges m_lines m_time m_touchMany m_touch m_line m_from m_to m_comeTo m_greatest m_least m_nowGreatest m_nowLeast m_does m_mostTime m_leastTime Q) : Met l yX4_findAges wsX4_findAges rm_X4_findAges (va_Pc [.ref (a 0)] (inW D cI cZ cJ sz (wM a cI cZ cJ m_thrown m_sets m_ways m_penalty m_blocks m_edges m_pairs m_lines m_isFresh m_isAnswer m_time m_touchMany m_touch m_line m_from m_to m_bound m_pairA m_pairB m_comeTo m_greatest m_least m_nowGreatest m_nowLeast m_does m_mostTime m_leastTime m_countUnit m_flagUnit m_worst m_best m_stack))) (va_Qv (fun (u : (Nat → Int32) × (Nat → Int32) × (Nat → Int32) × (Nat → Int32) × (Nat → Int32) × (Nat → Int32) × (Nat → Int64) × (Nat → Int64)) => Q u.1 u.2.1 u.2.2.1 u.2.2.2.1 u.2.2.2.2.1 u.2.2.2.2.2.1 u.2.2.2.2.2.2.1 u.2.2.2.2.2.2.2) (fun (u : (Nat → Int32) × (Nat → Int32) × (Nat → Int32) × (Nat → Int32) × (Nat → Int32) × (Nat → Int32) × (Nat → Int64) × (Nat → Int64)) => outW D cI cZ cJ (va_A (wM a cI cZ cJ m_thrown m_sets m_ways m_penalty m_blocks m_edges m_pairs m_lines m_isFresh m_isAnswer m_time m_touchMany m_touch m_line m_from m_to m_bound m_pairA m_pairB m_comeTo m_greatest m_least m_nowGreatest m_nowLeast m_does m_mostTime m_leastTime m_countUnit m_flagUnit m_worst m_best m_stack) sz) (wM a cI cZ cJ m_thrown m_sets m_ways m_penalty m_blocks m_edges m_pairs m_lines m_isFresh m_isAnswer m_time m_touchMany m_touch m_line m_from m_to m_bound m_pairA m_pairB u.1 u.2.1 u.2.2.1 u.2.2.2.1 u.2.2.2.2.1 u.2.2.2.2.2.1 u.2.2.2.2.2.2.1 u.2.2.2.2.2.2.2 m_countUnit m_flagUnit m_worst m_best m_stack)) (va_A (wM a cI cZ cJ m_thrown m_sets m_ways m_penalty m_blocks m_edges m_pairs m_lines m_isFresh m_isAnswer m_time m_touchMany m_touch m_line m_from m_to m_bound m_pairA m_pairB m_comeTo m_greatest m_least m_nowGreatest m_nowLeast m_does m_mostTime m_leastTime m_countUnit m_flagUnit m_worst m_best m_stack) sz)) 0 0 (va_A (wM a cI cZ cJ m_thrown m_sets m_ways m_penalty m_blocks m_edges m_pairs m_lines m_isFresh m_isAnswer m_time m_touchMany m_touch m_line m_from m_to m_bound m_pairA m_pairB m_comeTo m_greatest m_least m_nowGreatest m_nowLeast m_does m_mostTime m_leastTime m_countUnit m_flagUnit m_worst m_best m_stack) sz) := by
  refine Met.ofW (cc := cX4_findAges) (maxL := 4) (ret := none) (by decide +kernel) rfl ?_
  intro p e s m args below meth c s₁ B hml hv
  obtain ⟨rfl, hsz, hP, hK, hD0⟩ := hv
  have hx := B.exec
  have hb := B.bytes
  have hr := B.returns
  have hts := atoms_spec (ws := wsX4_findAges) B.pre
  have hown : s.vm.findClass RX4 = some m.cls := findClass_of_methodNamed B.named
  have hlocks := B.notSynchronized
  have hinX4 : ∀ w ∈ wsX40, w ∈ wsX4_findAges := by decide +kernel
  subst hsz
  have hD := hD0.self (sz := s.heap.size)
  generalize hAe : va_A (wM a cI cZ cJ m_thrown m_sets m_ways m_penalty m_blocks m_edges m_pairs m_lines m_isFresh m_isAnswer m_time m_touchMany m_touch m_line m_from m_to m_bound m_pairA m_pairB m_comeTo m_greatest m_least m_nowGreatest m_nowLeast m_does m_mostTime m_leastTime m_countUnit m_flagUnit m_worst m_best m_stack) s.heap.size = A at hD ⊢
  have hA : ∀ q : Nat, s.heap.size ≤ q → A q := fun q h => by rw [← hAe]; exact Or.inr h
  have hS : va_S A s.heap s.heap [] := va_S.rf
  have hP : va_P D vwCl (wM a cI cZ cJ m_thrown m_sets m_ways m_penalty m_blocks m_edges m_pairs m_lines m_isFresh m_isAnswer m_time m_touchMany m_touch m_line m_from m_to m_bound m_pairA m_pairB m_comeTo m_greatest m_least m_nowGreatest m_nowLeast m_does m_mostTime m_leastTime m_countUnit m_flagUnit m_worst m_best m_stack) s.heap := hP
  have hl := lv_entry ([.ref (a 0)]) (n := 4) (Nat.le_of_ble_eq_true rfl)
  rw [lg_entry_eq]
  generalize (lg_sl ([.ref (a 0)]) ++ List.replicate (4 - (lg_sl ([.ref (a 0)])).length) Slot.unset).toArray = ls at hl ⊢
  have hl : lv_has ls 4 [(0, .ref (a 0))] := hl
  refine wz_abs (fun Qz hQz => ?_)
  unfold wp_X4_findAges at h
  refine lv_iconst (v := 0) hx hb dX4_findAges_0 (by decide) ?_
  refine lv_istore_n (lv' := [(1, .int 0), (0, .ref (a 0))]) hx hb dX4_findAges_1 rfl hl (by decide) rfl (fun ls hl => ?_)
  have LP2 : ∀ (n2 : Nat) (v1_2 : Int32) (m_comeTo_2 : Nat → Int32), lp_X4_findAges_2 m_sets m_ways m_penalty m_blocks m_edges m_lines m_time m_touchMany m_touch m_line m_from m_to m_greatest m_least m_nowGreatest m_nowLeast m_does m_mostTime m_leastTime Q n2 v1_2 m_comeTo_2 → ∀ (H : Heap) (locs : List Loc), va_P D vwCl (wM a cI cZ cJ m_thrown m_sets m_ways m_penalty m_blocks m_edges m_pairs m_lines m_isFresh m_isAnswer m_time m_touchMany m_touch m_line m_from m_to m_bound m_pairA m_pairB m_comeTo_2 m_greatest m_least m_nowGreatest m_nowLeast m_does m_mostTime m_leastTime m_countUnit m_flagUnit m_worst m_best m_stack) H → va_D A (wM a cI cZ cJ m_thrown m_sets m_ways m_penalty m_blocks m_edges m_pairs m_lines m_isFresh m_isAnswer m_time m_touchMany m_touch m_line m_from m_to m_bound m_pairA m_pairB m_comeTo_2 m_greatest m_least m_nowGreatest m_nowLeast m_does m_mostTime m_leastTime m_countUnit m_flagUnit m_worst m_best m_stack) → va_S A s.heap H locs → ∀ (ls : Array Slot), lv_has ls 4 [(0, .ref (a 0)), (1, .int v1_2)] → W p l e (headSpec wsX4_findAges rm_X4_findAges).room s m ([Value.ref (a 0)] : List Value).toArray below meth c H locs 0 0 Qz (F0 m 2 ls []) := by
    intro n2
    induction n2 with
    | zero => intro v1_2 m_comeTo_2 h; exact h.elim
    | succ n2 ih2 =>
      intro v1_2 m_comeTo_2 h H locs hP hD hS ls hl
      unfold lp_X4_findAges_2 at h
      refine lv_iload_n hx hb dX4_findAges_2 rfl (lv_at hl 1 rfl) ?_
      refine lv_bipush (v := 40) hx hb dX4_findAges_3 (by decide) ?_
      refine lv_icmp_ge (tgt := 21) hx hb dX4_findAges_5 (by decide) (fun hc => ?_) (fun hc => ?_)
      · replace h := h.1 hc
        refine lv_iconst (v := 0) hx hb dX4_findAges_21 (by decide) ?_
        refine lv_istore_n (lv' := [(1, .int 0), (0, .ref (a 0))]) hx hb dX4_findAges_22 rfl hl (by decide) rfl (fun ls hl => ?_)
        have LP23 : ∀ (n23 : Nat) (v1_23 : Int32) (m_nowGreatest_23 : Nat → Int32) (m_nowLeast_23 : Nat → Int32), lp_X4_findAges_23 m_sets m_ways m_penalty m_blocks m_edges m_lines m_time m_touchMany m_touch m_line m_from m_to m_comeTo_2 m_greatest m_least m_does m_mostTime m_leastTime Q n23 v1_23 m_nowGreatest_23 m_nowLeast_23 → ∀ (H : Heap) (locs : List Loc), va_P D vwCl (wM a cI cZ cJ m_thrown m_sets m_ways m_penalty m_blocks m_edges m_pairs m_lines m_isFresh m_isAnswer m_time m_touchMany m_touch m_line m_from m_to m_bound m_pairA m_pairB m_comeTo_2 m_greatest m_least m_nowGreatest_23 m_nowLeast_23 m_does m_mostTime m_leastTime m_countUnit m_flagUnit m_worst m_best m_stack) H → va_D A (wM a cI cZ cJ m_thrown m_sets m_ways m_penalty m_blocks m_edges m_pairs m_lines m_isFresh m_isAnswer m_time m_touchMany m_touch m_line m_from m_to m_bound m_pairA m_pairB m_comeTo_2 m_greatest m_least m_nowGreatest_23 m_nowLeast_23 m_does m_mostTime m_leastTime m_countUnit m_flagUnit m_worst m_best m_stack) → va_S A s.heap H locs → ∀ (ls : Array Slot), lv_has ls 4 [(0, .ref (a 0)), (1, .int v1_23)] → W p l e (headSpec wsX4_findAges rm_X4_findAges).room s m ([Value.ref (a 0)] : List Value).toArray below meth c H locs 0 0 Qz (F0 m 23 ls []) := by
          intro n23
          induction n23 with
          | zero => intro v1_23 m_nowGreatest_23 m_nowLeast_23 h; exact h.elim
          | succ n23 ih23 =>
            intro v1_23 m_nowGreatest_23 m_nowLeast_23 h H locs hP hD hS ls hl
            unfold lp_X4_findAges_23 at h
            refine lv_iload_n hx hb dX4_findAges_23 rfl (lv_at hl 1 rfl) ?_
            refine lv_bipush (v := 40) hx hb dX4_findAges_24 (by decide) ?_
            refine lv_icmp_ge (tgt := 49) hx hb dX4_findAges_26 (by decide) (fun hc => ?_) (fun hc => ?_)
            · replace h := h.1 hc
              refine lv_aload_n hx hb dX4_findAges_49 rfl (lv_at hl 0 rfl) ?_
              refine va_get (D := D) (ci := 4) (v := .int m_blocks) (C := RX4) (T := TX4) (N := 32) hx hb hts hinX4 hown hK hP 0 rfl rfl 4 (by decide) (hts (.fieldLink RX4 106 "WorstPathsModel" "blocks" "I") (by decide +kernel)) (fun _ h9 => h9) rfl dX4_findAges_50 ?_
              refine lv_if_le (tgt := 68) hx hb dX4_findAges_53 (by decide) (fun hc => ?_) (fun hc => ?_)
              · replace h := h.1 hc
                refine lv_iconst (v := 0) hx hb dX4_findAges_68 (by decide) ?_
                refine lv_istore_n (lv' := [(1, .int 0), (0, .ref (a 0))]) hx hb dX4_findAges_69 rfl hl (by decide) rfl (fun ls hl => ?_)
                have LP70 : ∀ (n70 : Nat) (v1_70 : Int32) (m_comeTo_70 : Nat → Int32) (m_greatest_70 : Nat → Int32) (m_least_70 : Nat → Int32) (m_nowGreatest_70 : Nat → Int32) (m_nowLeast_70 : Nat → Int32) (m_does_70 : Nat → Int32), lp_X4_findAges_70 m_sets m_ways m_penalty m_blocks m_edges m_lines m_time m_touchMany m_touch m_line m_from m_to m_mostTime m_leastTime Q n70 v1_70 m_comeTo_70 m_greatest_70 m_least_70 m_nowGreatest_70 m_nowLeast_70 m_does_70 → ∀ (H : Heap) (locs : List Loc), va_P D vwCl (wM a cI cZ cJ m_thrown m_sets m_ways m_penalty m_blocks m_edges m_pairs m_lines m_isFresh m_isAnswer m_time m_touchMany m_touch m_line m_from m_to m_bound m_pairA m_pairB m_comeTo_70 m_greatest_70 m_least_70 m_nowGreatest_70 m_nowLeast_70 m_does_70 m_mostTime m_leastTime m_countUnit m_flagUnit m_worst m_best m_stack) H → va_D A (wM a cI cZ cJ m_thrown m_sets m_ways m_penalty m_blocks m_edges m_pairs m_lines m_isFresh m_isAnswer m_time m_touchMany m_touch m_line m_from m_to m_bound m_pairA m_pairB m_comeTo_70 m_greatest_70 m_least_70 m_nowGreatest_70 m_nowLeast_70 m_does_70 m_mostTime m_leastTime m_countUnit m_flagUnit m_worst m_best m_stack) → va_S A s.heap H locs → ∀ (ls : Array Slot), lv_has ls 4 [(0, .ref (a 0)), (1, .int v1_70)] → W p l e (headSpec wsX4_findAges rm_X4_findAges).room s m ([Value.ref (a 0)] : List Value).toArray below meth c H locs 0 0 Qz (F0 m 70 ls []) := by
                  intro n70
                  induction n70 with
                  | zero => intro v1_70 m_comeTo_70 m_greatest_70 m_least_70 m_nowGreatest_70 m_nowLeast_70 m_does_70 h; exact h.elim
                  | succ n70 ih70 =>
                    intro v1_70 m_comeTo_70 m_greatest_70 m_least_70 m_nowGreatest_70 m_nowLeast_70 m_does_70 h H locs hP hD hS ls hl
                    unfold lp_X4_findAges_70 at h
                    refine lv_iload_n hx hb dX4_findAges_70 rfl (lv_at hl 1 rfl) ?_
                    refine lv_if_eq (tgt := 142) hx hb dX4_findAges_71 (by decide) (fun hc => ?_) (fun hc => ?_)
                    · replace h := h.1 hc
                      refine lv_iconst (v := 0) hx hb dX4_findAges_142 (by decide) ?_
                      refine lv_istore_n (lv' := [(2, .int 0), (0, .ref (a 0)), (1, .int v1_70)]) hx hb dX4_findAges_143 rfl hl (by decide) rfl (fun ls hl => ?_)
                      have LP144 : ∀ (n144 : Nat) (v2_144 : Int32) (m_nowGreatest_144 : Nat → Int32) (m_nowLeast_144 : Nat → Int32) (m_does_144 : Nat → Int32) (m_mostTime_144 : Nat → Int64) (m_leastTime_144 : Nat → Int64), lp_X4_findAges_144 m_sets m_ways m_penalty m_blocks m_edges m_lines m_time m_touchMany m_touch m_line m_from m_to m_comeTo_70 m_greatest_70 m_least_70 Q n144 v2_144 m_nowGreatest_144 m_nowLeast_144 m_does_144 m_mostTime_144 m_leastTime_144 → ∀ (H : Heap) (locs : List Loc), va_P D vwCl (wM a cI cZ cJ m_thrown m_sets m_ways m_penalty m_blocks m_edges m_pairs m_lines m_isFresh m_isAnswer m_time m_touchMany m_touch m_line m_from m_to m_bound m_pairA m_pairB m_comeTo_70 m_greatest_70 m_least_70 m_nowGreatest_144 m_nowLeast_144 m_does_144 m_mostTime_144 m_leastTime_144 m_countUnit m_flagUnit m_worst m_best m_stack) H → va_D A (wM a cI cZ cJ m_thrown m_sets m_ways m_penalty m_blocks m_edges m_pairs m_lines m_isFresh m_isAnswer m_time m_touchMany m_touch m_line m_from m_to m_bound m_pairA m_pairB m_comeTo_70 m_greatest_70 m_least_70 m_nowGreatest_144 m_nowLeast_144 m_does_144 m_mostTime_144 m_leastTime_144 m_countUnit m_flagUnit m_worst m_best m_stack) → va_S A s.heap H locs → ∀ (ls : Array Slot), lv_has ls 4 [(0, .ref (a 0)), (2, .int v2_144)] → W p l e (headSpec wsX4_findAges rm_X4_findAges).room s m ([Value.ref (a 0)] : List Value).toArray below meth c H locs 0 0 Qz (F0 m 144 ls []) := by
                        intro n144
                        induction n144 with
                        | zero => intro v2_144 m_nowGreatest_144 m_nowLeast_144 m_does_144 m_mostTime_144 m_leastTime_144 h; exact h.elim
                        | succ n144 ih144 =>
                          intro v2_144 m_nowGreatest_144 m_nowLeast_144 m_does_144 m_mostTime_144 m_leastTime_144 h H locs hP hD hS ls hl
                          unfold lp_X4_findAges_144 at h
                          refine lv_iload_n hx hb dX4_findAges_144 rfl (lv_at hl 1 rfl) ?_
                          refine lv_aload_n hx hb dX4_findAges_145 rfl (lv_at hl 0 rfl) ?_
                          refine va_get (D := D) (ci := 4) (v := .int m_blocks) (C := RX4) (T := TX4) (N := 32) hx hb hts hinX4 hown hK hP 0 rfl rfl 4 (by decide) (hts (.fieldLink RX4 106 "WorstPathsModel" "blocks" "I") (by decide +kernel)) (fun _ h9 => h9) rfl dX4_findAges_146 ?_
                          refine lv_icmp_ge (tgt := 314) hx hb dX4_findAges_149 (by decide) (fun hc => ?_) (fun hc => ?_)
                          · replace h := h.1 hc
                            refine wz_mono hQz ?_
                            exact W.vret hx hb hr (fun t ht hW => ⟨⟨(m_comeTo_70, m_greatest_70, m_least_70, m_nowGreatest_144, m_nowLeast_144, m_does_144, m_mostTime_144, m_leastTime_144), rfl, h, by rw [ht]; exact hP, va_K.moved hW.alike hK, hD⟩, hS.F ht⟩) hS.2.2 dX4_findAges_314
                          · replace h := h.2 hc
                            refine lv_aload_n hx hb dX4_findAges_152 rfl (lv_at hl 0 rfl) ?_
                            refine va_get (D := D) (ci := 4) (v := .ref (a 16)) (C := RX4) (T := TX4) (N := 32) hx hb hts hinX4 hown hK hP 0 rfl rfl 24 (by decide) (hts (.fieldLink RX4 56 "WorstPathsModel" "mostTime" "[J") (by decide +kernel)) (fun _ h9 => h9) rfl dX4_findAges_153 ?_
                            refine lv_iload_n hx hb dX4_findAges_156 rfl (lv_at hl 1 rfl) ?_
                            refine lv_aload_n hx hb dX4_findAges_157 rfl (lv_at hl 0 rfl) ?_
                            refine va_get (D := D) (ci := 4) (v := .ref (a 1)) (C := RX4) (T := TX4) (N := 32) hx hb hts hinX4 hown hK hP 0 rfl rfl 8 (by decide) (hts (.fieldLink RX4 7 "WorstPathsModel" "time" "[I") (by decide +kernel)) (fun _ h9 => h9) rfl dX4_findAges_158 ?_
                            refine lv_iload_n hx hb dX4_findAges_161 rfl (lv_at hl 1 rfl) ?_
                            obtain ⟨hq, h⟩ := h
                            refine va_iald (D := D) hx hb hK hP 1 0 rfl rfl hq dX4_findAges_162 ?_
                            refine lv_i2l hx hb dX4_findAges_163 rfl ?_
                            obtain ⟨hq, h⟩ := h
                            refine va_last (D := D) hx hb hK hP hD hS 16 2 rfl rfl hq dX4_findAges_164 (fun H locs hP hD hS => ?_)
                            have hP : va_P D vwCl (wM a cI cZ cJ m_thrown m_sets m_ways m_penalty m_blocks m_edges m_pairs m_lines m_isFresh m_isAnswer m_time m_touchMany m_touch m_line m_from m_to m_bound m_pairA m_pairB m_comeTo_70 m_greatest_70 m_least_70 m_nowGreatest_144 m_nowLeast_144 m_does_144 (vp_updL m_mostTime_144 (Int32.toNatClampNeg v2_144) (Int32.toInt64 (m_time (Int32.toNatClampNeg v2_144)))) m_leastTime_144 m_countUnit m_flagUnit m_worst m_best m_stack) H := hP
                            have hD : va_D A (wM a cI cZ cJ m_thrown m_sets m_ways m_penalty m_blocks m_edges m_pairs m_lines m_isFresh m_isAnswer m_time m_touchMany m_touch m_line m_from m_to m_bound m_pairA m_pairB m_comeTo_70 m_greatest_70 m_least_70 m_nowGreatest_144 m_nowLeast_144 m_does_144 (vp_updL m_mostTime_144 (Int32.toNatClampNeg v2_144) (Int32.toInt64 (m_time (Int32.toNatClampNeg v2_144)))) m_leastTime_144 m_countUnit m_flagUnit m_worst m_best m_stack) := hD
                            refine lv_aload_n hx hb dX4_findAges_165 rfl (lv_at hl 0 rfl) ?_
                            refine va_get (D := D) (ci := 4) (v := .ref (a 17)) (C := RX4) (T := TX4) (N := 32) hx hb hts hinX4 hown hK hP 0 rfl rfl 25 (by decide) (hts (.fieldLink RX4 60 "WorstPathsModel" "leastTime" "[J") (by decide +kernel)) (fun _ h9 => h9) rfl dX4_findAges_166 ?_
                            refine lv_iload_n hx hb dX4_findAges_169 rfl (lv_at hl 1 rfl) ?_
                            refine lv_aload_n hx hb dX4_findAges_170 rfl (lv_at hl 0 rfl) ?_
                            refine va_get (D := D) (ci := 4) (v := .ref (a 1)) (C := RX4) (T := TX4) (N := 32) hx hb hts hinX4 hown hK hP 0 rfl rfl 8 (by decide) (hts (.fieldLink RX4 7 "WorstPathsModel" "time" "[I") (by decide +kernel)) (fun _ h9 => h9) rfl dX4_findAges_171 ?_
                            refine lv_iload_n hx hb dX4_findAges_174 rfl (lv_at hl 1 rfl) ?_
                            obtain ⟨hq, h⟩ := h
                            refine va_iald (D := D) hx hb hK hP 1 0 rfl rfl hq dX4_findAges_175 ?_
                            refine lv_i2l hx hb dX4_findAges_176 rfl ?_
                            obtain ⟨hq, h⟩ := h
                            refine va_last (D := D) hx hb hK hP hD hS 17 2 rfl rfl hq dX4_findAges_177 (fun H locs hP hD hS => ?_)
                            have hP : va_P D vwCl (wM a cI cZ cJ m_thrown m_sets m_ways m_penalty m_blocks m_edges m_pairs m_lines m_isFresh m_isAnswer m_time m_touchMany m_touch m_line m_from m_to m_bound m_pairA m_pairB m_comeTo_70 m_greatest_70 m_least_70 m_nowGreatest_144 m_nowLeast_144 m_does_144 (vp_updL m_mostTime_144 (Int32.toNatClampNeg v2_144) (Int32.toInt64 (m_time (Int32.toNatClampNeg v2_144)))) (vp_updL m_leastTime_144 (Int32.toNatClampNeg v2_144) (Int32.toInt64 (m_time (Int32.toNatClampNeg v2_144)))) m_countUnit m_flagUnit m_worst m_best m_stack) H := hP
                            have hD : va_D A (wM a cI cZ cJ m_thrown m_sets m_ways m_penalty m_blocks m_edges m_pairs m_lines m_isFresh m_isAnswer m_time m_touchMany m_touch m_line m_from m_to m_bound m_pairA m_pairB m_comeTo_70 m_greatest_70 m_least_70 m_nowGreatest_144 m_nowLeast_144 m_does_144 (vp_updL m_mostTime_144 (Int32.toNatClampNeg v2_144) (Int32.toInt64 (m_time (Int32.toNatClampNeg v2_144)))) (vp_updL m_leastTime_144 (Int32.toNatClampNeg v2_144) (Int32.toInt64 (m_time (Int32.toNatClampNeg v2_144)))) m_countUnit m_flagUnit m_worst m_best m_stack) := hD
                            refine lv_aload_n hx hb dX4_findAges_178 rfl (lv_at hl 0 rfl) ?_
                            refine va_get (D := D) (ci := 4) (v := .ref (a 10)) (C := RX4) (T := TX4) (N := 32) hx hb hts hinX4 hown hK hP 0 rfl rfl 18 (by decide) (hts (.fieldLink RX4 37 "WorstPathsModel" "comeTo" "[Z") (by decide +kernel)) (fun _ h9 => h9) rfl dX4_findAges_179 ?_
                            refine lv_iload_n hx hb dX4_findAges_182 rfl (lv_at hl 1 rfl) ?_
                            obtain ⟨hq, h⟩ := h
                            refine va_zald (D := D) hx hb hK hP 10 1 rfl rfl hq dX4_findAges_183 ?_
                            refine lv_if_eq (tgt := 192) hx hb dX4_findAges_184 (by decide) (fun hc => ?_) (fun hc => ?_)
                            · replace h := h.1 hc
                              refine lv_bipush (v := 6) hx hb dX4_findAges_192 (by decide) ?_
                              refine lv_iload_n hx hb dX4_findAges_194 rfl (lv_at hl 1 rfl) ?_
                              refine lv_imul hx hb dX4_findAges_195 ?_
                              refine lv_istore_n (lv' := [(3, .int (6 * v2_144)), (0, .ref (a 0)), (2, .int v2_144)]) hx hb dX4_findAges_196 rfl hl (by decide) rfl (fun ls hl => ?_)
                              have LP197 : ∀ (n197 : Nat) (v3_197 : Int32) (m_does_197 : Nat → Int32) (m_mostTime_197 : Nat → Int64) (m_leastTime_197 : Nat → Int64), lp_X4_findAges_197 v2_144 m_sets m_ways m_penalty m_blocks m_edges m_lines m_time m_touchMany m_touch m_line m_from m_to m_comeTo_70 m_greatest_70 m_least_70 m_nowGreatest_144 m_nowLeast_144 (lp_X4_findAges_144 m_sets m_ways m_penalty m_blocks m_edges m_lines m_time m_touchMany m_touch m_line m_from m_to m_comeTo_70 m_greatest_70 m_least_70 Q n144) Q n197 v3_197 m_does_197 m_mostTime_197 m_leastTime_197 → ∀ (H : Heap) (locs : List Loc), va_P D vwCl (wM a cI cZ cJ m_thrown m_sets m_ways m_penalty m_blocks m_edges m_pairs m_lines m_isFresh m_isAnswer m_time m_touchMany m_touch m_line m_from m_to m_bound m_pairA m_pairB m_comeTo_70 m_greatest_70 m_least_70 m_nowGreatest_144 m_nowLeast_144 m_does_197 m_mostTime_197 m_leastTime_197 m_countUnit m_flagUnit m_worst m_best m_stack) H → va_D A (wM a cI cZ cJ m_thrown m_sets m_ways m_penalty m_blocks m_edges m_pairs m_lines m_isFresh m_isAnswer m_time m_touchMany m_touch m_line m_from m_to m_bound m_pairA m_pairB m_comeTo_70 m_greatest_70 m_least_70 m_nowGreatest_144 m_nowLeast_144 m_does_197 m_mostTime_197 m_leastTime_197 m_countUnit m_flagUnit m_worst m_best m_stack) → va_S A s.heap H locs → ∀ (ls : Array Slot), lv_has ls 4 [(0, .ref (a 0)), (2, .int v2_144), (3, .int v3_197)] → W p l e (headSpec wsX4_findAges rm_X4_findAges).room s m ([Value.ref (a 0)] : List Value).toArray below meth c H locs 0 0 Qz (F0 m 197 ls []) := by
                                intro n197
                                induction n197 with
                                | zero => intro v3_197 m_does_197 m_mostTime_197 m_leastTime_197 h; exact h.elim
                                | succ n197 ih197 =>
                                  intro v3_197 m_does_197 m_mostTime_197 m_leastTime_197 h H locs hP hD hS ls hl
                                  unfold lp_X4_findAges_197 at h
                                  refine lv_iload_n hx hb dX4_findAges_197 rfl (lv_at hl 2 rfl) ?_
                                  refine lv_bipush (v := 6) hx hb dX4_findAges_198 (by decide) ?_
                                  refine lv_iload_n hx hb dX4_findAges_200 rfl (lv_at hl 1 rfl) ?_
                                  refine lv_imul hx hb dX4_findAges_201 ?_
                                  refine lv_aload_n hx hb dX4_findAges_202 rfl (lv_at hl 0 rfl) ?_
                                  refine va_get (D := D) (ci := 4) (v := .ref (a 2)) (C := RX4) (T := TX4) (N := 32) hx hb hts hinX4 hown hK hP 0 rfl rfl 9 (by decide) (hts (.fieldLink RX4 13 "WorstPathsModel" "touchMany" "[I") (by decide +kernel)) (fun _ h9 => h9) rfl dX4_findAges_203 ?_
                                  refine lv_iload_n hx hb dX4_findAges_206 rfl (lv_at hl 1 rfl) ?_
                                  obtain ⟨hq, h⟩ := h
                                  refine va_iald (D := D) hx hb hK hP 2 0 rfl rfl hq dX4_findAges_207 ?_
                                  refine lv_iadd hx hb dX4_findAges_208 ?_
                                  refine lv_icmp_ge (tgt := 308) hx hb dX4_findAges_209 (by decide) (fun hc => ?_) (fun hc => ?_)
                                  · replace h := h.1 hc
                                    refine lv_iinc (v := (v2_144 + 1)) (lv' := [(2, .int (v2_144 + 1)), (0, .ref (a 0)), (3, .int v3_197)]) hx hb dX4_findAges_308 hl (k := 1) rfl rfl (by decide) rfl (fun ls hl => ?_)
                                    refine lv_goto (tgt := 144) hx hb dX4_findAges_311 (by decide) ?_
                                    exact ih144 (v2_144 + 1) m_nowGreatest_144 m_nowLeast_144 m_does_197 m_mostTime_197 m_leastTime_197 h _ _ hP hD hS _ (lv_sub hl [1, 0] rfl)
                                  · replace h := h.2 hc
                                    refine lv_aload_n hx hb dX4_findAges_212 rfl (lv_at hl 0 rfl) ?_
                                    refine va_get (D := D) (ci := 4) (v := .ref (a 15)) (C := RX4) (T := TX4) (N := 32) hx hb hts hinX4 hown hK hP 0 rfl rfl 23 (by decide) (hts (.fieldLink RX4 53 "WorstPathsModel" "does" "[I") (by decide +kernel)) (fun _ h9 => h9) rfl dX4_findAges_213 ?_
                                    refine lv_iload_n hx hb dX4_findAges_216 rfl (lv_at hl 2 rfl) ?_
                                    refine lv_aload_n hx hb dX4_findAges_217 rfl (lv_at hl 0 rfl) ?_
                                    refine va_get (D := D) (ci := 4) (v := .ref (a 10)) (C := RX4) (T := TX4) (N := 32) hx hb hts hinX4 hown hK hP 0 rfl rfl 18 (by decide) (hts (.fieldLink RX4 37 "WorstPathsModel" "comeTo" "[Z") (by decide +kernel)) (fun _ h9 => h9) rfl dX4_findAges_218 ?_
                                    refine lv_iload_n hx hb dX4_findAges_221 rfl (lv_at hl 1 rfl) ?_
                                    obtain ⟨hq, h⟩ := h
                                    refine va_zald (D := D) hx hb hK hP 10 1 rfl rfl hq dX4_findAges_222 ?_
                                    have JP236 : ∀ (t0_236 : Int32), jn_X4_findAges_236 v2_144 v3_197 m_sets m_ways m_penalty m_blocks m_edges m_lines m_time m_touchMany m_touch m_line m_from m_to m_comeTo_70 m_greatest_70 m_least_70 m_nowGreatest_144 m_nowLeast_144 m_does_197 m_mostTime_197 m_leastTime_197 t0_236 v3_197 (lp_X4_findAges_144 m_sets m_ways m_penalty m_blocks m_edges m_lines m_time m_touchMany m_touch m_line m_from m_to m_comeTo_70 m_greatest_70 m_least_70 Q n144) (lp_X4_findAges_197 v2_144 m_sets m_ways m_penalty m_blocks m_edges m_lines m_time m_touchMany m_touch m_line m_from m_to m_comeTo_70 m_greatest_70 m_least_70 m_nowGreatest_144 m_nowLeast_144 (lp_X4_findAges_144 m_sets m_ways m_penalty m_blocks m_edges m_lines m_time m_touchMany m_touch m_line m_from m_to m_comeTo_70 m_greatest_70 m_least_70 Q n144) Q n197) Q → ∀ (H : Heap) (locs : List Loc), va_P D vwCl (wM a cI cZ cJ m_thrown m_sets m_ways m_penalty m_blocks m_edges m_pairs m_lines m_isFresh m_isAnswer m_time m_touchMany m_touch m_line m_from m_to m_bound m_pairA m_pairB m_comeTo_70 m_greatest_70 m_least_70 m_nowGreatest_144 m_nowLeast_144 m_does_197 m_mostTime_197 m_leastTime_197 m_countUnit m_flagUnit m_worst m_best m_stack) H → va_D A (wM a cI cZ cJ m_thrown m_sets m_ways m_penalty m_blocks m_edges m_pairs m_lines m_isFresh m_isAnswer m_time m_touchMany m_touch m_line m_from m_to m_bound m_pairA m_pairB m_comeTo_70 m_greatest_70 m_least_70 m_nowGreatest_144 m_nowLeast_144 m_does_197 m_mostTime_197 m_leastTime_197 m_countUnit m_flagUnit m_worst m_best m_stack) → va_S A s.heap H locs → ∀ (ls : Array Slot), lv_has ls 4 [(0, .ref (a 0)), (2, .int v2_144), (3, .int v3_197)] → W p l e (headSpec wsX4_findAges rm_X4_findAges).room s m ([Value.ref (a 0)] : List Value).toArray below meth c H locs 0 0 Qz (F0 m 236 ls [.int t0_236, .int v3_197, .ref (a 15)]) := by
                                      intro t0_236 h H locs hP hD hS ls hl
                                      unfold jn_X4_findAges_236 at h
                                      obtain ⟨hq, h⟩ := h
                                      refine va_iast (D := D) hx hb hK hP hD hS 15 0 rfl rfl hq dX4_findAges_236 (fun H locs hP hD hS => ?_)
                                      have hP : va_P D vwCl (wM a cI cZ cJ m_thrown m_sets m_ways m_penalty m_blocks m_edges m_pairs m_lines m_isFresh m_isAnswer m_time m_touchMany m_touch m_line m_from m_to m_bound m_pairA m_pairB m_comeTo_70 m_greatest_70 m_least_70 m_nowGreatest_144 m_nowLeast_144 (upd m_does_197 (Int32.toNatClampNeg v3_197) t0_236) m_mostTime_197 m_leastTime_197 m_countUnit m_flagUnit m_worst m_best m_stack) H := hP
                                      have hD : va_D A (wM a cI cZ cJ m_thrown m_sets m_ways m_penalty m_blocks m_edges m_pairs m_lines m_isFresh m_isAnswer m_time m_touchMany m_touch m_line m_from m_to m_bound m_pairA m_pairB m_comeTo_70 m_greatest_70 m_least_70 m_nowGreatest_144 m_nowLeast_144 (upd m_does_197 (Int32.toNatClampNeg v3_197) t0_236) m_mostTime_197 m_leastTime_197 m_countUnit m_flagUnit m_worst m_best m_stack) := hD
                                      refine lv_aload_n hx hb dX4_findAges_237 rfl (lv_at hl 0 rfl) ?_
                                      refine va_get (D := D) (ci := 4) (v := .ref (a 16)) (C := RX4) (T := TX4) (N := 32) hx hb hts hinX4 hown hK hP 0 rfl rfl 24 (by decide) (hts (.fieldLink RX4 56 "WorstPathsModel" "mostTime" "[J") (by decide +kernel)) (fun _ h9 => h9) rfl dX4_findAges_238 ?_
                                      refine lv_iload_n hx hb dX4_findAges_241 rfl (lv_at hl 1 rfl) ?_
                                      refine lv_dup2_11 hx hb dX4_findAges_242 rfl rfl ?_
                                      obtain ⟨hq, h⟩ := h
                                      refine va_lald (D := D) hx hb hK hP 16 2 rfl rfl hq dX4_findAges_243 ?_
                                      refine lv_aload_n hx hb dX4_findAges_244 rfl (lv_at hl 0 rfl) ?_
                                      refine va_get (D := D) (ci := 4) (v := .ref (a 15)) (C := RX4) (T := TX4) (N := 32) hx hb hts hinX4 hown hK hP 0 rfl rfl 23 (by decide) (hts (.fieldLink RX4 53 "WorstPathsModel" "does" "[I") (by decide +kernel)) (fun _ h9 => h9) rfl dX4_findAges_245 ?_
                                      refine lv_iload_n hx hb dX4_findAges_248 rfl (lv_at hl 2 rfl) ?_
                                      obtain ⟨hq, h⟩ := h
                                      refine va_iald (D := D) hx hb hK hP 15 0 rfl rfl hq dX4_findAges_249 ?_
                                      refine lv_iconst (v := 2) hx hb dX4_findAges_250 (by decide) ?_
                                      have JP272 : ∀ (t0_272 : Int64), jn_X4_findAges_272 v2_144 v3_197 m_sets m_ways m_penalty m_blocks m_edges m_lines m_time m_touchMany m_touch m_line m_from m_to m_comeTo_70 m_greatest_70 m_least_70 m_nowGreatest_144 m_nowLeast_144 (upd m_does_197 (Int32.toNatClampNeg v3_197) t0_236) m_mostTime_197 m_leastTime_197 t0_272 (m_mostTime_197 (Int32.toNatClampNeg v2_144)) v2_144 (lp_X4_findAges_144 m_sets m_ways m_penalty m_blocks m_edges m_lines m_time m_touchMany m_touch m_line m_from m_to m_comeTo_70 m_greatest_70 m_least_70 Q n144) (lp_X4_findAges_197 v2_144 m_sets m_ways m_penalty m_blocks m_edges m_lines m_time m_touchMany m_touch m_line m_from m_to m_comeTo_70 m_greatest_70 m_least_70 m_nowGreatest_144 m_nowLeast_144 (lp_X4_findAges_144 m_sets m_ways m_penalty m_blocks m_edges m_lines m_time m_touchMany m_touch m_line m_from m_to m_comeTo_70 m_greatest_70 m_least_70 Q n144) Q n197) Q → ∀ (H : Heap) (locs : List Loc), va_P D vwCl (wM a cI cZ cJ m_thrown m_sets m_ways m_penalty m_blocks m_edges m_pairs m_lines m_isFresh m_isAnswer m_time m_touchMany m_touch m_line m_from m_to m_bound m_pairA m_pairB m_comeTo_70 m_greatest_70 m_least_70 m_nowGreatest_144 m_nowLeast_144 (upd m_does_197 (Int32.toNatClampNeg v3_197) t0_236) m_mostTime_197 m_leastTime_197 m_countUnit m_flagUnit m_worst m_best m_stack) H → va_D A (wM a cI cZ cJ m_thrown m_sets m_ways m_penalty m_blocks m_edges m_pairs m_lines m_isFresh m_isAnswer m_time m_touchMany m_touch m_line m_from m_to m_bound m_pairA m_pairB m_comeTo_70 m_greatest_70 m_least_70 m_nowGreatest_144 m_nowLeast_144 (upd m_does_197 (Int32.toNatClampNeg v3_197) t0_236) m_mostTime_197 m_leastTime_197 m_countUnit m_flagUnit m_worst m_best m_stack) → va_S A s.heap H locs → ∀ (ls : Array Slot), lv_has ls 4 [(0, .ref (a 0)), (2, .int v2_144), (3, .int v3_197)] → W p l e (headSpec wsX4_findAges rm_X4_findAges).room s m ([Value.ref (a 0)] : List Value).toArray below meth c H locs 0 0 Qz (F0 m 272 ls [.long t0_272, .long (m_mostTime_197 (Int32.toNatClampNeg v2_144)), .int v2_144, .ref (a 16)]) := by
                                        intro t0_272 h H locs hP hD hS ls hl
                                        unfold jn_X4_findAges_272 at h
                                        refine lv_ladd hx hb dX4_findAges_272 ?_
                                        obtain ⟨hq, h⟩ := h
                                        refine va_last (D := D) hx hb hK hP hD hS 16 2 rfl rfl hq dX4_findAges_273 (fun H locs hP hD hS => ?_)
                                        have hP : va_P D vwCl (wM a cI cZ cJ m_thrown m_sets m_ways m_penalty m_blocks m_edges m_pairs m_lines m_isFresh m_isAnswer m_time m_touchMany m_touch m_line m_from m_to m_bound m_pairA m_pairB m_comeTo_70 m_greatest_70 m_least_70 m_nowGreatest_144 m_nowLeast_144 (upd m_does_197 (Int32.toNatClampNeg v3_197) t0_236) (vp_updL m_mostTime_197 (Int32.toNatClampNeg v2_144) ((m_mostTime_197 (Int32.toNatClampNeg v2_144)) + t0_272)) m_leastTime_197 m_countUnit m_flagUnit m_worst m_best m_stack) H := hP
                                        have hD : va_D A (wM a cI cZ cJ m_thrown m_sets m_ways m_penalty m_blocks m_edges m_pairs m_lines m_isFresh m_isAnswer m_time m_touchMany m_touch m_line m_from m_to m_bound m_pairA m_pairB m_comeTo_70 m_greatest_70 m_least_70 m_nowGreatest_144 m_nowLeast_144 (upd m_does_197 (Int32.toNatClampNeg v3_197) t0_236) (vp_updL m_mostTime_197 (Int32.toNatClampNeg v2_144) ((m_mostTime_197 (Int32.toNatClampNeg v2_144)) + t0_272)) m_leastTime_197 m_countUnit m_flagUnit m_worst m_best m_stack) := hD
                                        refine lv_aload_n hx hb dX4_findAges_274 rfl (lv_at hl 0 rfl) ?_
                                        refine va_get (D := D) (ci := 4) (v := .ref (a 17)) (C := RX4) (T := TX4) (N := 32) hx hb hts hinX4 hown hK hP 0 rfl rfl 25 (by decide) (hts (.fieldLink RX4 60 "WorstPathsModel" "leastTime" "[J") (by decide +kernel)) (fun _ h9 => h9) rfl dX4_findAges_275 ?_
                                        refine lv_iload_n hx hb dX4_findAges_278 rfl (lv_at hl 1 rfl) ?_
                                        refine lv_dup2_11 hx hb dX4_findAges_279 rfl rfl ?_
                                        obtain ⟨hq, h⟩ := h
                                        refine va_lald (D := D) hx hb hK hP 17 2 rfl rfl hq dX4_findAges_280 ?_
                                        refine lv_aload_n hx hb dX4_findAges_281 rfl (lv_at hl 0 rfl) ?_
                                        refine va_get (D := D) (ci := 4) (v := .ref (a 15)) (C := RX4) (T := TX4) (N := 32) hx hb hts hinX4 hown hK hP 0 rfl rfl 23 (by decide) (hts (.fieldLink RX4 53 "WorstPathsModel" "does" "[I") (by decide +kernel)) (fun _ h9 => h9) rfl dX4_findAges_282 ?_
                                        refine lv_iload_n hx hb dX4_findAges_285 rfl (lv_at hl 2 rfl) ?_
                                        obtain ⟨hq, h⟩ := h
                                        refine va_iald (D := D) hx hb hK hP 15 0 rfl rfl hq dX4_findAges_286 ?_
                                        refine lv_iconst (v := 2) hx hb dX4_findAges_287 (by decide) ?_
                                        refine lv_icmp_ne (tgt := 299) hx hb dX4_findAges_288 (by decide) (fun hc => ?_) (fun hc => ?_)
                                        · replace h := h.1 hc
                                          refine lv_lconst (v := 0) hx hb dX4_findAges_299 (by decide) ?_
                                          refine lv_ladd hx hb dX4_findAges_300 ?_
                                          obtain ⟨hq, h⟩ := h
                                          refine va_last (D := D) hx hb hK hP hD hS 17 2 rfl rfl hq dX4_findAges_301 (fun H locs hP hD hS => ?_)
                                          have hP : va_P D vwCl (wM a cI cZ cJ m_thrown m_sets m_ways m_penalty m_blocks m_edges m_pairs m_lines m_isFresh m_isAnswer m_time m_touchMany m_touch m_line m_from m_to m_bound m_pairA m_pairB m_comeTo_70 m_greatest_70 m_least_70 m_nowGreatest_144 m_nowLeast_144 (upd m_does_197 (Int32.toNatClampNeg v3_197) t0_236) (vp_updL m_mostTime_197 (Int32.toNatClampNeg v2_144) ((m_mostTime_197 (Int32.toNatClampNeg v2_144)) + t0_272)) (vp_updL m_leastTime_197 (Int32.toNatClampNeg v2_144) ((m_leastTime_197 (Int32.toNatClampNeg v2_144)) + 0)) m_countUnit m_flagUnit m_worst m_best m_stack) H := hP
                                          have hD : va_D A (wM a cI cZ cJ m_thrown m_sets m_ways m_penalty m_blocks m_edges m_pairs m_lines m_isFresh m_isAnswer m_time m_touchMany m_touch m_line m_from m_to m_bound m_pairA m_pairB m_comeTo_70 m_greatest_70 m_least_70 m_nowGreatest_144 m_nowLeast_144 (upd m_does_197 (Int32.toNatClampNeg v3_197) t0_236) (vp_updL m_mostTime_197 (Int32.toNatClampNeg v2_144) ((m_mostTime_197 (Int32.toNatClampNeg v2_144)) + t0_272)) (vp_updL m_leastTime_197 (Int32.toNatClampNeg v2_144) ((m_leastTime_197 (Int32.toNatClampNeg v2_144)) + 0)) m_countUnit m_flagUnit m_worst m_best m_stack) := hD
                                          refine lv_iinc (v := (v3_197 + 1)) (lv' := [(3, .int (v3_197 + 1)), (0, .ref (a 0)), (2, .int v2_144)]) hx hb dX4_findAges_302 hl (k := 2) rfl rfl (by decide) rfl (fun ls hl => ?_)
                                          refine lv_goto (tgt := 197) hx hb dX4_findAges_305 (by decide) ?_
                                          exact ih197 (v3_197 + 1) (upd m_does_197 (Int32.toNatClampNeg v3_197) t0_236) (vp_updL m_mostTime_197 (Int32.toNatClampNeg v2_144) ((m_mostTime_197 (Int32.toNatClampNeg v2_144)) + t0_272)) (vp_updL m_leastTime_197 (Int32.toNatClampNeg v2_144) ((m_leastTime_197 (Int32.toNatClampNeg v2_144)) + 0)) h _ _ hP hD hS _ (lv_sub hl [1, 2, 0] rfl)
                                        · replace h := h.2 hc
                                          refine lv_aload_n hx hb dX4_findAges_291 rfl (lv_at hl 0 rfl) ?_
                                          refine va_get (D := D) (ci := 4) (v := .int m_penalty) (C := RX4) (T := TX4) (N := 32) hx hb hts hinX4 hown hK hP 0 rfl rfl 3 (by decide) (hts (.fieldLink RX4 91 "WorstPathsModel" "penalty" "I") (by decide +kernel)) (fun _ h9 => h9) rfl dX4_findAges_292 ?_
                                          refine lv_i2l hx hb dX4_findAges_295 rfl ?_
                                          refine lv_goto (tgt := 300) hx hb dX4_findAges_296 (by decide) ?_
                                          refine lv_ladd hx hb dX4_findAges_300 ?_
                                          obtain ⟨hq, h⟩ := h
                                          refine va_last (D := D) hx hb hK hP hD hS 17 2 rfl rfl hq dX4_findAges_301 (fun H locs hP hD hS => ?_)
                                          have hP : va_P D vwCl (wM a cI cZ cJ m_thrown m_sets m_ways m_penalty m_blocks m_edges m_pairs m_lines m_isFresh m_isAnswer m_time m_touchMany m_touch m_line m_from m_to m_bound m_pairA m_pairB m_comeTo_70 m_greatest_70 m_least_70 m_nowGreatest_144 m_nowLeast_144 (upd m_does_197 (Int32.toNatClampNeg v3_197) t0_236) (vp_updL m_mostTime_197 (Int32.toNatClampNeg v2_144) ((m_mostTime_197 (Int32.toNatClampNeg v2_144)) + t0_272)) (vp_updL m_leastTime_197 (Int32.toNatClampNeg v2_144) ((m_leastTime_197 (Int32.toNatClampNeg v2_144)) + (Int32.toInt64 m_penalty))) m_countUnit m_flagUnit m_worst m_best m_stack) H := hP
                                          have hD : va_D A (wM a cI cZ cJ m_thrown m_sets m_ways m_penalty m_blocks m_edges m_pairs m_lines m_isFresh m_isAnswer m_time m_touchMany m_touch m_line m_from m_to m_bound m_pairA m_pairB m_comeTo_70 m_greatest_70 m_least_70 m_nowGreatest_144 m_nowLeast_144 (upd m_does_197 (Int32.toNatClampNeg v3_197) t0_236) (vp_updL m_mostTime_197 (Int32.toNatClampNeg v2_144) ((m_mostTime_197 (Int32.toNatClampNeg v2_144)) + t0_272)) (vp_updL m_leastTime_197 (Int32.toNatClampNeg v2_144) ((m_leastTime_197 (Int32.toNatClampNeg v2_144)) + (Int32.toInt64 m_penalty))) m_countUnit m_flagUnit m_worst m_best m_stack) := hD
                                          refine lv_iinc (v := (v3_197 + 1)) (lv' := [(3, .int (v3_197 + 1)), (0, .ref (a 0)), (2, .int v2_144)]) hx hb dX4_findAges_302 hl (k := 2) rfl rfl (by decide) rfl (fun ls hl => ?_)
                                          refine lv_goto (tgt := 197) hx hb dX4_findAges_305 (by decide) ?_
                                          exact ih197 (v3_197 + 1) (upd m_does_197 (Int32.toNatClampNeg v3_197) t0_236) (vp_updL m_mostTime_197 (Int32.toNatClampNeg v2_144) ((m_mostTime_197 (Int32.toNatClampNeg v2_144)) + t0_272)) (vp_updL m_leastTime_197 (Int32.toNatClampNeg v2_144) ((m_leastTime_197 (Int32.toNatClampNeg v2_144)) + (Int32.toInt64 m_penalty))) h _ _ hP hD hS _ (lv_sub hl [1, 2, 0] rfl)
                                      refine lv_icmp_eq (tgt := 263) hx hb dX4_findAges_251 (by decide) (fun hc => ?_) (fun hc => ?_)
                                      · replace h := h.1 hc
                                        refine lv_aload_n hx hb dX4_findAges_263 rfl (lv_at hl 0 rfl) ?_
                                        refine va_get (D := D) (ci := 4) (v := .int m_penalty) (C := RX4) (T := TX4) (N := 32) hx hb hts hinX4 hown hK hP 0 rfl rfl 3 (by decide) (hts (.fieldLink RX4 91 "WorstPathsModel" "penalty" "I") (by decide +kernel)) (fun _ h9 => h9) rfl dX4_findAges_264 ?_
                                        refine lv_i2l hx hb dX4_findAges_267 rfl ?_
                                        refine lv_goto (tgt := 272) hx hb dX4_findAges_268 (by decide) ?_
                                        exact JP272 (Int32.toInt64 m_penalty) h _ _ hP hD hS _ (lv_sub hl [0, 1, 2] rfl)
                                      · replace h := h.2 hc
                                        refine lv_aload_n hx hb dX4_findAges_254 rfl (lv_at hl 0 rfl) ?_
                                        refine va_get (D := D) (ci := 4) (v := .ref (a 15)) (C := RX4) (T := TX4) (N := 32) hx hb hts hinX4 hown hK hP 0 rfl rfl 23 (by decide) (hts (.fieldLink RX4 53 "WorstPathsModel" "does" "[I") (by decide +kernel)) (fun _ h9 => h9) rfl dX4_findAges_255 ?_
                                        refine lv_iload_n hx hb dX4_findAges_258 rfl (lv_at hl 2 rfl) ?_
                                        obtain ⟨hq, h⟩ := h
                                        refine va_iald (D := D) hx hb hK hP 15 0 rfl rfl hq dX4_findAges_259 ?_
                                        refine lv_if_ne (tgt := 271) hx hb dX4_findAges_260 (by decide) (fun hc => ?_) (fun hc => ?_)
                                        · replace h := h.1 hc
                                          refine lv_lconst (v := 0) hx hb dX4_findAges_271 (by decide) ?_
                                          exact JP272 0 h _ _ hP hD hS _ (lv_sub hl [0, 1, 2] rfl)
                                        · replace h := h.2 hc
                                          refine lv_aload_n hx hb dX4_findAges_263 rfl (lv_at hl 0 rfl) ?_
                                          refine va_get (D := D) (ci := 4) (v := .int m_penalty) (C := RX4) (T := TX4) (N := 32) hx hb hts hinX4 hown hK hP 0 rfl rfl 3 (by decide) (hts (.fieldLink RX4 91 "WorstPathsModel" "penalty" "I") (by decide +kernel)) (fun _ h9 => h9) rfl dX4_findAges_264 ?_
                                          refine lv_i2l hx hb dX4_findAges_267 rfl ?_
                                          refine lv_goto (tgt := 272) hx hb dX4_findAges_268 (by decide) ?_
                                          exact JP272 (Int32.toInt64 m_penalty) h _ _ hP hD hS _ (lv_sub hl [0, 1, 2] rfl)
                                    refine lv_if_eq (tgt := 235) hx hb dX4_findAges_223 (by decide) (fun hc => ?_) (fun hc => ?_)
                                    · replace h := h.1 hc
                                      refine lv_iconst (v := (-1)) hx hb dX4_findAges_235 (by decide) ?_
                                      exact JP236 (-1) h _ _ hP hD hS _ (lv_sub hl [0, 1, 2] rfl)
                                    · replace h := h.2 hc
                                      refine lv_aload_n hx hb dX4_findAges_226 rfl (lv_at hl 0 rfl) ?_
                                      refine va_get (D := D) (ci := 4) (v := .ref (a 15)) (C := RX4) (T := TX4) (N := 32) hx hb hts hinX4 hown hK hP 0 rfl rfl 23 (by decide) (hts (.fieldLink RX4 53 "WorstPathsModel" "does" "[I") (by decide +kernel)) (fun _ h9 => h9) rfl dX4_findAges_227 ?_
                                      refine lv_iload_n hx hb dX4_findAges_230 rfl (lv_at hl 2 rfl) ?_
                                      obtain ⟨hq, h⟩ := h
                                      refine va_iald (D := D) hx hb hK hP 15 0 rfl rfl hq dX4_findAges_231 ?_
                                      refine lv_goto (tgt := 236) hx hb dX4_findAges_232 (by decide) ?_
                                      exact JP236 (m_does_197 (Int32.toNatClampNeg v3_197)) h _ _ hP hD hS _ (lv_sub hl [0, 1, 2] rfl)
                              obtain ⟨k9, h⟩ := h
                              exact LP197 k9 (6 * v2_144) m_does_144 (vp_updL m_mostTime_144 (Int32.toNatClampNeg v2_144) (Int32.toInt64 (m_time (Int32.toNatClampNeg v2_144)))) (vp_updL m_leastTime_144 (Int32.toNatClampNeg v2_144) (Int32.toInt64 (m_time (Int32.toNatClampNeg v2_144)))) h _ _ hP hD hS _ (lv_sub hl [1, 2, 0] rfl)
                            · replace h := h.2 hc
                              refine lv_aload_n hx hb dX4_findAges_187 rfl (lv_at hl 0 rfl) ?_
                              refine lv_iload_n hx hb dX4_findAges_188 rfl (lv_at hl 1 rfl) ?_
                              have hF := wz_free hD hS hA
                              refine va_callv (va_runV (As := [.int v2_144]) (rest := []) ⟨hx, hb, hml, hown, hts⟩ (c_X4_goThrough l D a cI cZ cJ _ m_thrown m_sets m_ways m_penalty m_blocks m_edges m_pairs m_lines m_isFresh m_isAnswer m_time m_touchMany m_touch m_line m_from m_to m_bound m_pairA m_pairB m_comeTo_70 m_greatest_70 m_least_70 m_nowGreatest_144 m_nowLeast_144 m_does_144 (vp_updL m_mostTime_144 (Int32.toNatClampNeg v2_144) (Int32.toInt64 (m_time (Int32.toNatClampNeg v2_144)))) (vp_updL m_leastTime_144 (Int32.toNatClampNeg v2_144) (Int32.toInt64 (m_time (Int32.toNatClampNeg v2_144)))) m_countUnit m_flagUnit m_worst m_best m_stack v2_144 _ h) (cwV 1 hts gX4_findAges_X4_goThrough rfl rfl rfl (by decide +kernel) ⟨Nat.le_of_ble_eq_true rfl, Nat.le_of_ble_eq_true rfl⟩) ⟨wz_blind, va_recv hK hP (ci := 4) (q0 := 0) rfl rfl, fun U hU hW => wz_at hU hW hP hK hD⟩ rfl rfl hl.1 rfl (lv_room (Nat.le_of_ble_eq_true rfl)) dX4_findAges_189 ⟨Nat.zero_le _, Nat.zero_le _⟩) hS (fun q _ hq => hF q hq) hF (fun u t H locs ht hvm h hB hz1 hk1 hS => ?_)
                              obtain ⟨m_nowGreatest_189, m_nowLeast_189, m_does_189⟩ := u
                              dsimp only at h hB
                              obtain ⟨hP, -, hD⟩ := wz_back ht hF hB
                              have hP : va_P D vwCl (wM a cI cZ cJ m_thrown m_sets m_ways m_penalty m_blocks m_edges m_pairs m_lines m_isFresh m_isAnswer m_time m_touchMany m_touch m_line m_from m_to m_bound m_pairA m_pairB m_comeTo_70 m_greatest_70 m_least_70 m_nowGreatest_189 m_nowLeast_189 m_does_189 (vp_updL m_mostTime_144 (Int32.toNatClampNeg v2_144) (Int32.toInt64 (m_time (Int32.toNatClampNeg v2_144)))) (vp_updL m_leastTime_144 (Int32.toNatClampNeg v2_144) (Int32.toInt64 (m_time (Int32.toNatClampNeg v2_144)))) m_countUnit m_flagUnit m_worst m_best m_stack) H := hP
                              have hD : va_D A (wM a cI cZ cJ m_thrown m_sets m_ways m_penalty m_blocks m_edges m_pairs m_lines m_isFresh m_isAnswer m_time m_touchMany m_touch m_line m_from m_to m_bound m_pairA m_pairB m_comeTo_70 m_greatest_70 m_least_70 m_nowGreatest_189 m_nowLeast_189 m_does_189 (vp_updL m_mostTime_144 (Int32.toNatClampNeg v2_144) (Int32.toInt64 (m_time (Int32.toNatClampNeg v2_144)))) (vp_updL m_leastTime_144 (Int32.toNatClampNeg v2_144) (Int32.toInt64 (m_time (Int32.toNatClampNeg v2_144)))) m_countUnit m_flagUnit m_worst m_best m_stack) := hD
                              refine lv_bipush (v := 6) hx hb dX4_findAges_192 (by decide) ?_
                              refine lv_iload_n hx hb dX4_findAges_194 rfl (lv_at hl 1 rfl) ?_
                              refine lv_imul hx hb dX4_findAges_195 ?_
                              refine lv_istore_n (lv' := [(3, .int (6 * v2_144)), (0, .ref (a 0)), (2, .int v2_144)]) hx hb dX4_findAges_196 rfl hl (by decide) rfl (fun ls hl => ?_)
                              have LP197 : ∀ (n197 : Nat) (v3_197 : Int32) (m_does_197 : Nat → Int32) (m_mostTime_197 : Nat → Int64) (m_leastTime_197 : Nat → Int64), lp_X4_findAges_197 v2_144 m_sets m_ways m_penalty m_blocks m_edges m_lines m_time m_touchMany m_touch m_line m_from m_to m_comeTo_70 m_greatest_70 m_least_70 m_nowGreatest_189 m_nowLeast_189 (lp_X4_findAges_144 m_sets m_ways m_penalty m_blocks m_edges m_lines m_time m_touchMany m_touch m_line m_from m_to m_comeTo_70 m_greatest_70 m_least_70 Q n144) Q n197 v3_197 m_does_197 m_mostTime_197 m_leastTime_197 → ∀ (H : Heap) (locs : List Loc), va_P D vwCl (wM a cI cZ cJ m_thrown m_sets m_ways m_penalty m_blocks m_edges m_pairs m_lines m_isFresh m_isAnswer m_time m_touchMany m_touch m_line m_from m_to m_bound m_pairA m_pairB m_comeTo_70 m_greatest_70 m_least_70 m_nowGreatest_189 m_nowLeast_189 m_does_197 m_mostTime_197 m_leastTime_197 m_countUnit m_flagUnit m_worst m_best m_stack) H → va_D A (wM a cI cZ cJ m_thrown m_sets m_ways m_penalty m_blocks m_edges m_pairs m_lines m_isFresh m_isAnswer m_time m_touchMany m_touch m_line m_from m_to m_bound m_pairA m_pairB m_comeTo_70 m_greatest_70 m_least_70 m_nowGreatest_189 m_nowLeast_189 m_does_197 m_mostTime_197 m_leastTime_197 m_countUnit m_flagUnit m_worst m_best m_stack) → va_S A s.heap H locs → ∀ (ls : Array Slot), lv_has ls 4 [(0, .ref (a 0)), (2, .int v2_144), (3, .int v3_197)] → W p l e (headSpec wsX4_findAges rm_X4_findAges).room s m ([Value.ref (a 0)] : List Value).toArray below meth c H locs 0 0 Qz (F0 m 197 ls []) := by
                                intro n197
                                induction n197 with
                                | zero => intro v3_197 m_does_197 m_mostTime_197 m_leastTime_197 h; exact h.elim
                                | succ n197 ih197 =>
                                  intro v3_197 m_does_197 m_mostTime_197 m_leastTime_197 h H locs hP hD hS ls hl
                                  unfold lp_X4_findAges_197 at h
                                  refine lv_iload_n hx hb dX4_findAges_197 rfl (lv_at hl 2 rfl) ?_
                                  refine lv_bipush (v := 6) hx hb dX4_findAges_198 (by decide) ?_
                                  refine lv_iload_n hx hb dX4_findAges_200 rfl (lv_at hl 1 rfl) ?_
                                  refine lv_imul hx hb dX4_findAges_201 ?_
                                  refine lv_aload_n hx hb dX4_findAges_202 rfl (lv_at hl 0 rfl) ?_
                                  refine va_get (D := D) (ci := 4) (v := .ref (a 2)) (C := RX4) (T := TX4) (N := 32) hx hb hts hinX4 hown hK hP 0 rfl rfl 9 (by decide) (hts (.fieldLink RX4 13 "WorstPathsModel" "touchMany" "[I") (by decide +kernel)) (fun _ h9 => h9) rfl dX4_findAges_203 ?_
                                  refine lv_iload_n hx hb dX4_findAges_206 rfl (lv_at hl 1 rfl) ?_
                                  obtain ⟨hq, h⟩ := h
                                  refine va_iald (D := D) hx hb hK hP 2 0 rfl rfl hq dX4_findAges_207 ?_
                                  refine lv_iadd hx hb dX4_findAges_208 ?_
                                  refine lv_icmp_ge (tgt := 308) hx hb dX4_findAges_209 (by decide) (fun hc => ?_) (fun hc => ?_)
                                  · replace h := h.1 hc
                                    refine lv_iinc (v := (v2_144 + 1)) (lv' := [(2, .int (v2_144 + 1)), (0, .ref (a 0)), (3, .int v3_197)]) hx hb dX4_findAges_308 hl (k := 1) rfl rfl (by decide) rfl (fun ls hl => ?_)
                                    refine lv_goto (tgt := 144) hx hb dX4_findAges_311 (by decide) ?_
                                    exact ih144 (v2_144 + 1) m_nowGreatest_189 m_nowLeast_189 m_does_197 m_mostTime_197 m_leastTime_197 h _ _ hP hD hS _ (lv_sub hl [1, 0] rfl)
                                  · replace h := h.2 hc
                                    refine lv_aload_n hx hb dX4_findAges_212 rfl (lv_at hl 0 rfl) ?_
                                    refine va_get (D := D) (ci := 4) (v := .ref (a 15)) (C := RX4) (T := TX4) (N := 32) hx hb hts hinX4 hown hK hP 0 rfl rfl 23 (by decide) (hts (.fieldLink RX4 53 "WorstPathsModel" "does" "[I") (by decide +kernel)) (fun _ h9 => h9) rfl dX4_findAges_213 ?_
                                    refine lv_iload_n hx hb dX4_findAges_216 rfl (lv_at hl 2 rfl) ?_
                                    refine lv_aload_n hx hb dX4_findAges_217 rfl (lv_at hl 0 rfl) ?_
                                    refine va_get (D := D) (ci := 4) (v := .ref (a 10)) (C := RX4) (T := TX4) (N := 32) hx hb hts hinX4 hown hK hP 0 rfl rfl 18 (by decide) (hts (.fieldLink RX4 37 "WorstPathsModel" "comeTo" "[Z") (by decide +kernel)) (fun _ h9 => h9) rfl dX4_findAges_218 ?_
                                    refine lv_iload_n hx hb dX4_findAges_221 rfl (lv_at hl 1 rfl) ?_
                                    obtain ⟨hq, h⟩ := h
                                    refine va_zald (D := D) hx hb hK hP 10 1 rfl rfl hq dX4_findAges_222 ?_
                                    have JP236 : ∀ (t0_236 : Int32), jn_X4_findAges_236 v2_144 v3_197 m_sets m_ways m_penalty m_blocks m_edges m_lines m_time m_touchMany m_touch m_line m_from m_to m_comeTo_70 m_greatest_70 m_least_70 m_nowGreatest_189 m_nowLeast_189 m_does_197 m_mostTime_197 m_leastTime_197 t0_236 v3_197 (lp_X4_findAges_144 m_sets m_ways m_penalty m_blocks m_edges m_lines m_time m_touchMany m_touch m_line m_from m_to m_comeTo_70 m_greatest_70 m_least_70 Q n144) (lp_X4_findAges_197 v2_144 m_sets m_ways m_penalty m_blocks m_edges m_lines m_time m_touchMany m_touch m_line m_from m_to m_comeTo_70 m_greatest_70 m_least_70 m_nowGreatest_189 m_nowLeast_189 (lp_X4_findAges_144 m_sets m_ways m_penalty m_blocks m_edges m_lines m_time m_touchMany m_touch m_line m_from m_to m_comeTo_70 m_greatest_70 m_least_70 Q n144) Q n197) Q → ∀ (H : Heap) (locs : List Loc), va_P D vwCl (wM a cI cZ cJ m_thrown m_sets m_ways m_penalty m_blocks m_edges m_pairs m_lines m_isFresh m_isAnswer m_time m_touchMany m_touch m_line m_from m_to m_bound m_pairA m_pairB m_comeTo_70 m_greatest_70 m_least_70 m_nowGreatest_189 m_nowLeast_189 m_does_197 m_mostTime_197 m_leastTime_197 m_countUnit m_flagUnit m_worst m_best m_stack) H → va_D A (wM a cI cZ cJ m_thrown m_sets m_ways m_penalty m_blocks m_edges m_pairs m_lines m_isFresh m_isAnswer m_time m_touchMany m_touch m_line m_from m_to m_bound m_pairA m_pairB m_comeTo_70 m_greatest_70 m_least_70 m_nowGreatest_189 m_nowLeast_189 m_does_197 m_mostTime_197 m_leastTime_197 m_countUnit m_flagUnit m_worst m_best m_stack) → va_S A s.heap H locs → ∀ (ls : Array Slot), lv_has ls 4 [(0, .ref (a 0)), (2, .int v2_144), (3, .int v3_197)] → W p l e (headSpec wsX4_findAges rm_X4_findAges).room s m ([Value.ref (a 0)] : List Value).toArray below meth c H locs 0 0 Qz (F0 m 236 ls [.int t0_236, .int v3_197, .ref (a 15)]) := by
                                      intro t0_236 h H locs hP hD hS ls hl
                                      unfold jn_X4_findAges_236 at h
                                      obtain ⟨hq, h⟩ := h
                                      refine va_iast (D := D) hx hb hK hP hD hS 15 0 rfl rfl hq dX4_findAges_236 (fun H locs hP hD hS => ?_)
                                      have hP : va_P D vwCl (wM a cI cZ cJ m_thrown m_sets m_ways m_penalty m_blocks m_edges m_pairs m_lines m_isFresh m_isAnswer m_time m_touchMany m_touch m_line m_from m_to m_bound m_pairA m_pairB m_comeTo_70 m_greatest_70 m_least_70 m_nowGreatest_189 m_nowLeast_189 (upd m_does_197 (Int32.toNatClampNeg v3_197) t0_236) m_mostTime_197 m_leastTime_197 m_countUnit m_flagUnit m_worst m_best m_stack) H := hP
                                      have hD : va_D A (wM a cI cZ cJ m_thrown m_sets m_ways m_penalty m_blocks m_edges m_pairs m_lines m_isFresh m_isAnswer m_time m_touchMany m_touch m_line m_from m_to m_bound m_pairA m_pairB m_comeTo_70 m_greatest_70 m_least_70 m_nowGreatest_189 m_nowLeast_189 (upd m_does_197 (Int32.toNatClampNeg v3_197) t0_236) m_mostTime_197 m_leastTime_197 m_countUnit m_flagUnit m_worst m_best m_stack) := hD
                                      refine lv_aload_n hx hb dX4_findAges_237 rfl (lv_at hl 0 rfl) ?_
                                      refine va_get (D := D) (ci := 4) (v := .ref (a 16)) (C := RX4) (T := TX4) (N := 32) hx hb hts hinX4 hown hK hP 0 rfl rfl 24 (by decide) (hts (.fieldLink RX4 56 "WorstPathsModel" "mostTime" "[J") (by decide +kernel)) (fun _ h9 => h9) rfl dX4_findAges_238 ?_
                                      refine lv_iload_n hx hb dX4_findAges_241 rfl (lv_at hl 1 rfl) ?_
                                      refine lv_dup2_11 hx hb dX4_findAges_242 rfl rfl ?_
                                      obtain ⟨hq, h⟩ := h
                                      refine va_lald (D := D) hx hb hK hP 16 2 rfl rfl hq dX4_findAges_243 ?_
                                      refine lv_aload_n hx hb dX4_findAges_244 rfl (lv_at hl 0 rfl) ?_
                                      refine va_get (D := D) (ci := 4) (v := .ref (a 15)) (C := RX4) (T := TX4) (N := 32) hx hb hts hinX4 hown hK hP 0 rfl rfl 23 (by decide) (hts (.fieldLink RX4 53 "WorstPathsModel" "does" "[I") (by decide +kernel)) (fun _ h9 => h9) rfl dX4_findAges_245 ?_
                                      refine lv_iload_n hx hb dX4_findAges_248 rfl (lv_at hl 2 rfl) ?_
                                      obtain ⟨hq, h⟩ := h
                                      refine va_iald (D := D) hx hb hK hP 15 0 rfl rfl hq dX4_findAges_249 ?_
                                      refine lv_iconst (v := 2) hx hb dX4_findAges_250 (by decide) ?_
                                      have JP272 : ∀ (t0_272 : Int64), jn_X4_findAges_272 v2_144 v3_197 m_sets m_ways m_penalty m_blocks m_edges m_lines m_time m_touchMany m_touch m_line m_from m_to m_comeTo_70 m_greatest_70 m_least_70 m_nowGreatest_189 m_nowLeast_189 (upd m_does_197 (Int32.toNatClampNeg v3_197) t0_236) m_mostTime_197 m_leastTime_197 t0_272 (m_mostTime_197 (Int32.toNatClampNeg v2_144)) v2_144 (lp_X4_findAges_144 m_sets m_ways m_penalty m_blocks m_edges m_lines m_time m_touchMany m_touch m_line m_from m_to m_comeTo_70 m_greatest_70 m_least_70 Q n144) (lp_X4_findAges_197 v2_144 m_sets m_ways m_penalty m_blocks m_edges m_lines m_time m_touchMany m_touch m_line m_from m_to m_comeTo_70 m_greatest_70 m_least_70 m_nowGreatest_189 m_nowLeast_189 (lp_X4_findAges_144 m_sets m_ways m_penalty m_blocks m_edges m_lines m_time m_touchMany m_touch m_line m_from m_to m_comeTo_70 m_greatest_70 m_least_70 Q n144) Q n197) Q → ∀ (H : Heap) (locs : List Loc), va_P D vwCl (wM a cI cZ cJ m_thrown m_sets m_ways m_penalty m_blocks m_edges m_pairs m_lines m_isFresh m_isAnswer m_time m_touchMany m_touch m_line m_from m_to m_bound m_pairA m_pairB m_comeTo_70 m_greatest_70 m_least_70 m_nowGreatest_189 m_nowLeast_189 (upd m_does_197 (Int32.toNatClampNeg v3_197) t0_236) m_mostTime_197 m_leastTime_197 m_countUnit m_flagUnit m_worst m_best m_stack) H → va_D A (wM a cI cZ cJ m_thrown m_sets m_ways m_penalty m_blocks m_edges m_pairs m_lines m_isFresh m_isAnswer m_time m_touchMany m_touch m_line m_from m_to m_bound m_pairA m_pairB m_comeTo_70 m_greatest_70 m_least_70 m_nowGreatest_189 m_nowLeast_189 (upd m_does_197 (Int32.toNatClampNeg v3_197) t0_236) m_mostTime_197 m_leastTime_197 m_countUnit m_flagUnit m_worst m_best m_stack) → va_S A s.heap H locs → ∀ (ls : Array Slot), lv_has ls 4 [(0, .ref (a 0)), (2, .int v2_144), (3, .int v3_197)] → W p l e (headSpec wsX4_findAges rm_X4_findAges).room s m ([Value.ref (a 0)] : List Value).toArray below meth c H locs 0 0 Qz (F0 m 272 ls [.long t0_272, .long (m_mostTime_197 (Int32.toNatClampNeg v2_144)), .int v2_144, .ref (a 16)]) := by
                                        intro t0_272 h H locs hP hD hS ls hl
                                        unfold jn_X4_findAges_272 at h
                                        refine lv_ladd hx hb dX4_findAges_272 ?_
                                        obtain ⟨hq, h⟩ := h
                                        refine va_last (D := D) hx hb hK hP hD hS 16 2 rfl rfl hq dX4_findAges_273 (fun H locs hP hD hS => ?_)
                                        have hP : va_P D vwCl (wM a cI cZ cJ m_thrown m_sets m_ways m_penalty m_blocks m_edges m_pairs m_lines m_isFresh m_isAnswer m_time m_touchMany m_touch m_line m_from m_to m_bound m_pairA m_pairB m_comeTo_70 m_greatest_70 m_least_70 m_nowGreatest_189 m_nowLeast_189 (upd m_does_197 (Int32.toNatClampNeg v3_197) t0_236) (vp_updL m_mostTime_197 (Int32.toNatClampNeg v2_144) ((m_mostTime_197 (Int32.toNatClampNeg v2_144)) + t0_272)) m_leastTime_197 m_countUnit m_flagUnit m_worst m_best m_stack) H := hP
                                        have hD : va_D A (wM a cI cZ cJ m_thrown m_sets m_ways m_penalty m_blocks m_edges m_pairs m_lines m_isFresh m_isAnswer m_time m_touchMany m_touch m_line m_from m_to m_bound m_pairA m_pairB m_comeTo_70 m_greatest_70 m_least_70 m_nowGreatest_189 m_nowLeast_189 (upd m_does_197 (Int32.toNatClampNeg v3_197) t0_236) (vp_updL m_mostTime_197 (Int32.toNatClampNeg v2_144) ((m_mostTime_197 (Int32.toNatClampNeg v2_144)) + t0_272)) m_leastTime_197 m_countUnit m_flagUnit m_worst m_best m_stack) := hD
                                        refine lv_aload_n hx hb dX4_findAges_274 rfl (lv_at hl 0 rfl) ?_
                                        refine va_get (D := D) (ci := 4) (v := .ref (a 17)) (C := RX4) (T := TX4) (N := 32) hx hb hts hinX4 hown hK hP 0 rfl rfl 25 (by decide) (hts (.fieldLink RX4 60 "WorstPathsModel" "leastTime" "[J") (by decide +kernel)) (fun _ h9 => h9) rfl dX4_findAges_275 ?_
                                        refine lv_iload_n hx hb dX4_findAges_278 rfl (lv_at hl 1 rfl) ?_
                                        refine lv_dup2_11 hx hb dX4_findAges_279 rfl rfl ?_
                                        obtain ⟨hq, h⟩ := h
                                        refine va_lald (D := D) hx hb hK hP 17 2 rfl rfl hq dX4_findAges_280 ?_
                                        refine lv_aload_n hx hb dX4_findAges_281 rfl (lv_at hl 0 rfl) ?_
                                        refine va_get (D := D) (ci := 4) (v := .ref (a 15)) (C := RX4) (T := TX4) (N := 32) hx hb hts hinX4 hown hK hP 0 rfl rfl 23 (by decide) (hts (.fieldLink RX4 53 "WorstPathsModel" "does" "[I") (by decide +kernel)) (fun _ h9 => h9) rfl dX4_findAges_282 ?_
                                        refine lv_iload_n hx hb dX4_findAges_285 rfl (lv_at hl 2 rfl) ?_
                                        obtain ⟨hq, h⟩ := h
                                        refine va_iald (D := D) hx hb hK hP 15 0 rfl rfl hq dX4_findAges_286 ?_
                                        refine lv_iconst (v := 2) hx hb dX4_findAges_287 (by decide) ?_
                                        refine lv_icmp_ne (tgt := 299) hx hb dX4_findAges_288 (by decide) (fun hc => ?_) (fun hc => ?_)
                                        · replace h := h.1 hc
                                          refine lv_lconst (v := 0) hx hb dX4_findAges_299 (by decide) ?_
                                          refine lv_ladd hx hb dX4_findAges_300 ?_
                                          obtain ⟨hq, h⟩ := h
                                          refine va_last (D := D) hx hb hK hP hD hS 17 2 rfl rfl hq dX4_findAges_301 (fun H locs hP hD hS => ?_)
                                          have hP : va_P D vwCl (wM a cI cZ cJ m_thrown m_sets m_ways m_penalty m_blocks m_edges m_pairs m_lines m_isFresh m_isAnswer m_time m_touchMany m_touch m_line m_from m_to m_bound m_pairA m_pairB m_comeTo_70 m_greatest_70 m_least_70 m_nowGreatest_189 m_nowLeast_189 (upd m_does_197 (Int32.toNatClampNeg v3_197) t0_236) (vp_updL m_mostTime_197 (Int32.toNatClampNeg v2_144) ((m_mostTime_197 (Int32.toNatClampNeg v2_144)) + t0_272)) (vp_updL m_leastTime_197 (Int32.toNatClampNeg v2_144) ((m_leastTime_197 (Int32.toNatClampNeg v2_144)) + 0)) m_countUnit m_flagUnit m_worst m_best m_stack) H := hP
                                          have hD : va_D A (wM a cI cZ cJ m_thrown m_sets m_ways m_penalty m_blocks m_edges m_pairs m_lines m_isFresh m_isAnswer m_time m_touchMany m_touch m_line m_from m_to m_bound m_pairA m_pairB m_comeTo_70 m_greatest_70 m_least_70 m_nowGreatest_189 m_nowLeast_189 (upd m_does_197 (Int32.toNatClampNeg v3_197) t0_236) (vp_updL m_mostTime_197 (Int32.toNatClampNeg v2_144) ((m_mostTime_197 (Int32.toNatClampNeg v2_144)) + t0_272)) (vp_updL m_leastTime_197 (Int32.toNatClampNeg v2_144) ((m_leastTime_197 (Int32.toNatClampNeg v2_144)) + 0)) m_countUnit m_flagUnit m_worst m_best m_stack) := hD
                                          refine lv_iinc (v := (v3_197 + 1)) (lv' := [(3, .int (v3_197 + 1)), (0, .ref (a 0)), (2, .int v2_144)]) hx hb dX4_findAges_302 hl (k := 2) rfl rfl (by decide) rfl (fun ls hl => ?_)
                                          refine lv_goto (tgt := 197) hx hb dX4_findAges_305 (by decide) ?_
                                          exact ih197 (v3_197 + 1) (upd m_does_197 (Int32.toNatClampNeg v3_197) t0_236) (vp_updL m_mostTime_197 (Int32.toNatClampNeg v2_144) ((m_mostTime_197 (Int32.toNatClampNeg v2_144)) + t0_272)) (vp_updL m_leastTime_197 (Int32.toNatClampNeg v2_144) ((m_leastTime_197 (Int32.toNatClampNeg v2_144)) + 0)) h _ _ hP hD hS _ (lv_sub hl [1, 2, 0] rfl)
                                        · replace h := h.2 hc
                                          refine lv_aload_n hx hb dX4_findAges_291 rfl (lv_at hl 0 rfl) ?_
                                          refine va_get (D := D) (ci := 4) (v := .int m_penalty) (C := RX4) (T := TX4) (N := 32) hx hb hts hinX4 hown hK hP 0 rfl rfl 3 (by decide) (hts (.fieldLink RX4 91 "WorstPathsModel" "penalty" "I") (by decide +kernel)) (fun _ h9 => h9) rfl dX4_findAges_292 ?_
                                          refine lv_i2l hx hb dX4_findAges_295 rfl ?_
                                          refine lv_goto (tgt := 300) hx hb dX4_findAges_296 (by decide) ?_
                                          refine lv_ladd hx hb dX4_findAges_300 ?_
                                          obtain ⟨hq, h⟩ := h
                                          refine va_last (D := D) hx hb hK hP hD hS 17 2 rfl rfl hq dX4_findAges_301 (fun H locs hP hD hS => ?_)
                                          have hP : va_P D vwCl (wM a cI cZ cJ m_thrown m_sets m_ways m_penalty m_blocks m_edges m_pairs m_lines m_isFresh m_isAnswer m_time m_touchMany m_touch m_line m_from m_to m_bound m_pairA m_pairB m_comeTo_70 m_greatest_70 m_least_70 m_nowGreatest_189 m_nowLeast_189 (upd m_does_197 (Int32.toNatClampNeg v3_197) t0_236) (vp_updL m_mostTime_197 (Int32.toNatClampNeg v2_144) ((m_mostTime_197 (Int32.toNatClampNeg v2_144)) + t0_272)) (vp_updL m_leastTime_197 (Int32.toNatClampNeg v2_144) ((m_leastTime_197 (Int32.toNatClampNeg v2_144)) + (Int32.toInt64 m_penalty))) m_countUnit m_flagUnit m_worst m_best m_stack) H := hP
                                          have hD : va_D A (wM a cI cZ cJ m_thrown m_sets m_ways m_penalty m_blocks m_edges m_pairs m_lines m_isFresh m_isAnswer m_time m_touchMany m_touch m_line m_from m_to m_bound m_pairA m_pairB m_comeTo_70 m_greatest_70 m_least_70 m_nowGreatest_189 m_nowLeast_189 (upd m_does_197 (Int32.toNatClampNeg v3_197) t0_236) (vp_updL m_mostTime_197 (Int32.toNatClampNeg v2_144) ((m_mostTime_197 (Int32.toNatClampNeg v2_144)) + t0_272)) (vp_updL m_leastTime_197 (Int32.toNatClampNeg v2_144) ((m_leastTime_197 (Int32.toNatClampNeg v2_144)) + (Int32.toInt64 m_penalty))) m_countUnit m_flagUnit m_worst m_best m_stack) := hD
                                          refine lv_iinc (v := (v3_197 + 1)) (lv' := [(3, .int (v3_197 + 1)), (0, .ref (a 0)), (2, .int v2_144)]) hx hb dX4_findAges_302 hl (k := 2) rfl rfl (by decide) rfl (fun ls hl => ?_)
                                          refine lv_goto (tgt := 197) hx hb dX4_findAges_305 (by decide) ?_
                                          exact ih197 (v3_197 + 1) (upd m_does_197 (Int32.toNatClampNeg v3_197) t0_236) (vp_updL m_mostTime_197 (Int32.toNatClampNeg v2_144) ((m_mostTime_197 (Int32.toNatClampNeg v2_144)) + t0_272)) (vp_updL m_leastTime_197 (Int32.toNatClampNeg v2_144) ((m_leastTime_197 (Int32.toNatClampNeg v2_144)) + (Int32.toInt64 m_penalty))) h _ _ hP hD hS _ (lv_sub hl [1, 2, 0] rfl)
                                      refine lv_icmp_eq (tgt := 263) hx hb dX4_findAges_251 (by decide) (fun hc => ?_) (fun hc => ?_)
                                      · replace h := h.1 hc
                                        refine lv_aload_n hx hb dX4_findAges_263 rfl (lv_at hl 0 rfl) ?_
                                        refine va_get (D := D) (ci := 4) (v := .int m_penalty) (C := RX4) (T := TX4) (N := 32) hx hb hts hinX4 hown hK hP 0 rfl rfl 3 (by decide) (hts (.fieldLink RX4 91 "WorstPathsModel" "penalty" "I") (by decide +kernel)) (fun _ h9 => h9) rfl dX4_findAges_264 ?_
                                        refine lv_i2l hx hb dX4_findAges_267 rfl ?_
                                        refine lv_goto (tgt := 272) hx hb dX4_findAges_268 (by decide) ?_
                                        exact JP272 (Int32.toInt64 m_penalty) h _ _ hP hD hS _ (lv_sub hl [0, 1, 2] rfl)
                                      · replace h := h.2 hc
                                        refine lv_aload_n hx hb dX4_findAges_254 rfl (lv_at hl 0 rfl) ?_
                                        refine va_get (D := D) (ci := 4) (v := .ref (a 15)) (C := RX4) (T := TX4) (N := 32) hx hb hts hinX4 hown hK hP 0 rfl rfl 23 (by decide) (hts (.fieldLink RX4 53 "WorstPathsModel" "does" "[I") (by decide +kernel)) (fun _ h9 => h9) rfl dX4_findAges_255 ?_
                                        refine lv_iload_n hx hb dX4_findAges_258 rfl (lv_at hl 2 rfl) ?_
                                        obtain ⟨hq, h⟩ := h
                                        refine va_iald (D := D) hx hb hK hP 15 0 rfl rfl hq dX4_findAges_259 ?_
                                        refine lv_if_ne (tgt := 271) hx hb dX4_findAges_260 (by decide) (fun hc => ?_) (fun hc => ?_)
                                        · replace h := h.1 hc
                                          refine lv_lconst (v := 0) hx hb dX4_findAges_271 (by decide) ?_
                                          exact JP272 0 h _ _ hP hD hS _ (lv_sub hl [0, 1, 2] rfl)
                                        · replace h := h.2 hc
                                          refine lv_aload_n hx hb dX4_findAges_263 rfl (lv_at hl 0 rfl) ?_
                                          refine va_get (D := D) (ci := 4) (v := .int m_penalty) (C := RX4) (T := TX4) (N := 32) hx hb hts hinX4 hown hK hP 0 rfl rfl 3 (by decide) (hts (.fieldLink RX4 91 "WorstPathsModel" "penalty" "I") (by decide +kernel)) (fun _ h9 => h9) rfl dX4_findAges_264 ?_
                                          refine lv_i2l hx hb dX4_findAges_267 rfl ?_
                                          refine lv_goto (tgt := 272) hx hb dX4_findAges_268 (by decide) ?_
                                          exact JP272 (Int32.toInt64 m_penalty) h _ _ hP hD hS _ (lv_sub hl [0, 1, 2] rfl)
                                    refine lv_if_eq (tgt := 235) hx hb dX4_findAges_223 (by decide) (fun hc => ?_) (fun hc => ?_)
                                    · replace h := h.1 hc
                                      refine lv_iconst (v := (-1)) hx hb dX4_findAges_235 (by decide) ?_
                                      exact JP236 (-1) h _ _ hP hD hS _ (lv_sub hl [0, 1, 2] rfl)
                                    · replace h := h.2 hc
                                      refine lv_aload_n hx hb dX4_findAges_226 rfl (lv_at hl 0 rfl) ?_
                                      refine va_get (D := D) (ci := 4) (v := .ref (a 15)) (C := RX4) (T := TX4) (N := 32) hx hb hts hinX4 hown hK hP 0 rfl rfl 23 (by decide) (hts (.fieldLink RX4 53 "WorstPathsModel" "does" "[I") (by decide +kernel)) (fun _ h9 => h9) rfl dX4_findAges_227 ?_
                                      refine lv_iload_n hx hb dX4_findAges_230 rfl (lv_at hl 2 rfl) ?_
                                      obtain ⟨hq, h⟩ := h
                                      refine va_iald (D := D) hx hb hK hP 15 0 rfl rfl hq dX4_findAges_231 ?_
                                      refine lv_goto (tgt := 236) hx hb dX4_findAges_232 (by decide) ?_
                                      exact JP236 (m_does_197 (Int32.toNatClampNeg v3_197)) h _ _ hP hD hS _ (lv_sub hl [0, 1, 2] rfl)
                              obtain ⟨k9, h⟩ := h
                              exact LP197 k9 (6 * v2_144) m_does_189 (vp_updL m_mostTime_144 (Int32.toNatClampNeg v2_144) (Int32.toInt64 (m_time (Int32.toNatClampNeg v2_144)))) (vp_updL m_leastTime_144 (Int32.toNatClampNeg v2_144) (Int32.toInt64 (m_time (Int32.toNatClampNeg v2_144)))) h _ _ hP hD hS _ (lv_sub hl [1, 2, 0] rfl)
                      obtain ⟨k9, h⟩ := h
                      exact LP144 k9 0 m_nowGreatest_70 m_nowLeast_70 m_does_70 m_mostTime m_leastTime h _ _ hP hD hS _ (lv_sub hl [1, 0] rfl)
                    · replace h := h.2 hc
                      refine lv_iconst (v := 0) hx hb dX4_findAges_74 (by decide) ?_
                      refine lv_istore_n (lv' := [(1, .int 0), (0, .ref (a 0))]) hx hb dX4_findAges_75 rfl hl (by decide) rfl (fun ls hl => ?_)
                      refine lv_iconst (v := 0) hx hb dX4_findAges_76 (by decide) ?_
                      refine lv_istore_n (lv' := [(2, .int 0), (1, .int 0), (0, .ref (a 0))]) hx hb dX4_findAges_77 rfl hl (by decide) rfl (fun ls hl => ?_)
                      have LP78 : ∀ (n78 : Nat) (v1_78 : Int32) (v2_78 : Int32) (m_comeTo_78 : Nat → Int32) (m_greatest_78 : Nat → Int32) (m_least_78 : Nat → Int32) (m_nowGreatest_78 : Nat → Int32) (m_nowLeast_78 : Nat → Int32) (m_does_78 : Nat → Int32), lp_X4_findAges_78 m_sets m_ways m_penalty m_blocks m_edges m_lines m_time m_touchMany m_touch m_line m_from m_to m_mostTime m_leastTime (lp_X4_findAges_70 m_sets m_ways m_penalty m_blocks m_edges m_lines m_time m_touchMany m_touch m_line m_from m_to m_mostTime m_leastTime Q n70) Q n78 v1_78 v2_78 m_comeTo_78 m_greatest_78 m_least_78 m_nowGreatest_78 m_nowLeast_78 m_does_78 → ∀ (H : Heap) (locs : List Loc), va_P D vwCl (wM a cI cZ cJ m_thrown m_sets m_ways m_penalty m_blocks m_edges m_pairs m_lines m_isFresh m_isAnswer m_time m_touchMany m_touch m_line m_from m_to m_bound m_pairA m_pairB m_comeTo_78 m_greatest_78 m_least_78 m_nowGreatest_78 m_nowLeast_78 m_does_78 m_mostTime m_leastTime m_countUnit m_flagUnit m_worst m_best m_stack) H → va_D A (wM a cI cZ cJ m_thrown m_sets m_ways m_penalty m_blocks m_edges m_pairs m_lines m_isFresh m_isAnswer m_time m_touchMany m_touch m_line m_from m_to m_bound m_pairA m_pairB m_comeTo_78 m_greatest_78 m_least_78 m_nowGreatest_78 m_nowLeast_78 m_does_78 m_mostTime m_leastTime m_countUnit m_flagUnit m_worst m_best m_stack) → va_S A s.heap H locs → ∀ (ls : Array Slot), lv_has ls 4 [(0, .ref (a 0)), (1, .int v1_78), (2, .int v2_78)] → W p l e (headSpec wsX4_findAges rm_X4_findAges).room s m ([Value.ref (a 0)] : List Value).toArray below meth c H locs 0 0 Qz (F0 m 78 ls []) := by
                        intro n78
                        induction n78 with
                        | zero => intro v1_78 v2_78 m_comeTo_78 m_greatest_78 m_least_78 m_nowGreatest_78 m_nowLeast_78 m_does_78 h; exact h.elim
                        | succ n78 ih78 =>
                          intro v1_78 v2_78 m_comeTo_78 m_greatest_78 m_least_78 m_nowGreatest_78 m_nowLeast_78 m_does_78 h H locs hP hD hS ls hl
                          unfold lp_X4_findAges_78 at h
                          refine lv_iload_n hx hb dX4_findAges_78 rfl (lv_at hl 2 rfl) ?_
                          refine lv_aload_n hx hb dX4_findAges_79 rfl (lv_at hl 0 rfl) ?_
                          refine va_get (D := D) (ci := 4) (v := .int m_edges) (C := RX4) (T := TX4) (N := 32) hx hb hts hinX4 hown hK hP 0 rfl rfl 5 (by decide) (hts (.fieldLink RX4 119 "WorstPathsModel" "edges" "I") (by decide +kernel)) (fun _ h9 => h9) rfl dX4_findAges_80 ?_
                          refine lv_icmp_ge (tgt := 139) hx hb dX4_findAges_83 (by decide) (fun hc => ?_) (fun hc => ?_)
                          · replace h := h.1 hc
                            refine lv_goto (tgt := 70) hx hb dX4_findAges_139 (by decide) ?_
                            exact ih70 v1_78 m_comeTo_78 m_greatest_78 m_least_78 m_nowGreatest_78 m_nowLeast_78 m_does_78 h _ _ hP hD hS _ (lv_sub hl [0, 1] rfl)
                          · replace h := h.2 hc
                            refine lv_aload_n hx hb dX4_findAges_86 rfl (lv_at hl 0 rfl) ?_
                            refine va_get (D := D) (ci := 4) (v := .ref (a 10)) (C := RX4) (T := TX4) (N := 32) hx hb hts hinX4 hown hK hP 0 rfl rfl 18 (by decide) (hts (.fieldLink RX4 37 "WorstPathsModel" "comeTo" "[Z") (by decide +kernel)) (fun _ h9 => h9) rfl dX4_findAges_87 ?_
                            refine lv_aload_n hx hb dX4_findAges_90 rfl (lv_at hl 0 rfl) ?_
                            refine va_get (D := D) (ci := 4) (v := .ref (a 5)) (C := RX4) (T := TX4) (N := 32) hx hb hts hinX4 hown hK hP 0 rfl rfl 12 (by decide) (hts (.fieldLink RX4 22 "WorstPathsModel" "from" "[I") (by decide +kernel)) (fun _ h9 => h9) rfl dX4_findAges_91 ?_
                            refine lv_iload_n hx hb dX4_findAges_94 rfl (lv_at hl 2 rfl) ?_
                            obtain ⟨hq, h⟩ := h
                            refine va_iald (D := D) hx hb hK hP 5 0 rfl rfl hq dX4_findAges_95 ?_
                            obtain ⟨hq, h⟩ := h
                            refine va_zald (D := D) hx hb hK hP 10 1 rfl rfl hq dX4_findAges_96 ?_
                            refine lv_if_eq (tgt := 133) hx hb dX4_findAges_97 (by decide) (fun hc => ?_) (fun hc => ?_)
                            · replace h := h.1 hc
                              refine lv_iinc (v := (v2_78 + 1)) (lv' := [(2, .int (v2_78 + 1)), (0, .ref (a 0)), (1, .int v1_78)]) hx hb dX4_findAges_133 hl (k := 2) rfl rfl (by decide) rfl (fun ls hl => ?_)
                              refine lv_goto (tgt := 78) hx hb dX4_findAges_136 (by decide) ?_
                              exact ih78 v1_78 (v2_78 + 1) m_comeTo_78 m_greatest_78 m_least_78 m_nowGreatest_78 m_nowLeast_78 m_does_78 h _ _ hP hD hS _ (lv_sub hl [1, 2, 0] rfl)
                            · replace h := h.2 hc
                              refine lv_aload_n hx hb dX4_findAges_100 rfl (lv_at hl 0 rfl) ?_
                              refine lv_aload_n hx hb dX4_findAges_101 rfl (lv_at hl 0 rfl) ?_
                              refine va_get (D := D) (ci := 4) (v := .ref (a 5)) (C := RX4) (T := TX4) (N := 32) hx hb hts hinX4 hown hK hP 0 rfl rfl 12 (by decide) (hts (.fieldLink RX4 22 "WorstPathsModel" "from" "[I") (by decide +kernel)) (fun _ h9 => h9) rfl dX4_findAges_102 ?_
                              refine lv_iload_n hx hb dX4_findAges_105 rfl (lv_at hl 2 rfl) ?_
                              obtain ⟨hq, h⟩ := h
                              refine va_iald (D := D) hx hb hK hP 5 0 rfl rfl hq dX4_findAges_106 ?_
                              have hF := wz_free hD hS hA
                              refine va_callv (va_runV (As := [.int (m_from (Int32.toNatClampNeg v2_78))]) (rest := []) ⟨hx, hb, hml, hown, hts⟩ (c_X4_goThrough l D a cI cZ cJ _ m_thrown m_sets m_ways m_penalty m_blocks m_edges m_pairs m_lines m_isFresh m_isAnswer m_time m_touchMany m_touch m_line m_from m_to m_bound m_pairA m_pairB m_comeTo_78 m_greatest_78 m_least_78 m_nowGreatest_78 m_nowLeast_78 m_does_78 m_mostTime m_leastTime m_countUnit m_flagUnit m_worst m_best m_stack (m_from (Int32.toNatClampNeg v2_78)) _ h) (cwV 1 hts gX4_findAges_X4_goThrough rfl rfl rfl (by decide +kernel) ⟨Nat.le_of_ble_eq_true rfl, Nat.le_of_ble_eq_true rfl⟩) ⟨wz_blind, va_recv hK hP (ci := 4) (q0 := 0) rfl rfl, fun U hU hW => wz_at hU hW hP hK hD⟩ rfl rfl hl.1 rfl (lv_room (Nat.le_of_ble_eq_true rfl)) dX4_findAges_107 ⟨Nat.zero_le _, Nat.zero_le _⟩) hS (fun q _ hq => hF q hq) hF (fun u t H locs ht hvm h hB hz1 hk1 hS => ?_)
                              obtain ⟨m_nowGreatest_107, m_nowLeast_107, m_does_107⟩ := u
                              dsimp only at h hB
                              obtain ⟨hP, -, hD⟩ := wz_back ht hF hB
                              have hP : va_P D vwCl (wM a cI cZ cJ m_thrown m_sets m_ways m_penalty m_blocks m_edges m_pairs m_lines m_isFresh m_isAnswer m_time m_touchMany m_touch m_line m_from m_to m_bound m_pairA m_pairB m_comeTo_78 m_greatest_78 m_least_78 m_nowGreatest_107 m_nowLeast_107 m_does_107 m_mostTime m_leastTime m_countUnit m_flagUnit m_worst m_best m_stack) H := hP
                              have hD : va_D A (wM a cI cZ cJ m_thrown m_sets m_ways m_penalty m_blocks m_edges m_pairs m_lines m_isFresh m_isAnswer m_time m_touchMany m_touch m_line m_from m_to m_bound m_pairA m_pairB m_comeTo_78 m_greatest_78 m_least_78 m_nowGreatest_107 m_nowLeast_107 m_does_107 m_mostTime m_leastTime m_countUnit m_flagUnit m_worst m_best m_stack) := hD
                              refine lv_aload_n hx hb dX4_findAges_110 rfl (lv_at hl 0 rfl) ?_
                              refine lv_aload_n hx hb dX4_findAges_111 rfl (lv_at hl 0 rfl) ?_
                              refine va_get (D := D) (ci := 4) (v := .ref (a 6)) (C := RX4) (T := TX4) (N := 32) hx hb hts hinX4 hown hK hP 0 rfl rfl 13 (by decide) (hts (.fieldLink RX4 25 "WorstPathsModel" "to" "[I") (by decide +kernel)) (fun _ h9 => h9) rfl dX4_findAges_112 ?_
                              refine lv_iload_n hx hb dX4_findAges_115 rfl (lv_at hl 2 rfl) ?_
                              obtain ⟨hq, h⟩ := h
                              refine va_iald (D := D) hx hb hK hP 6 0 rfl rfl hq dX4_findAges_116 ?_
                              have hF := wz_free hD hS hA
                              refine va_calli (va_runV (As := [.int (m_to (Int32.toNatClampNeg v2_78))]) (rest := []) ⟨hx, hb, hml, hown, hts⟩ (c_X4_meet l D a cI cZ cJ _ m_thrown m_sets m_ways m_penalty m_blocks m_edges m_pairs m_lines m_isFresh m_isAnswer m_time m_touchMany m_touch m_line m_from m_to m_bound m_pairA m_pairB m_comeTo_78 m_greatest_78 m_least_78 m_nowGreatest_107 m_nowLeast_107 m_does_107 m_mostTime m_leastTime m_countUnit m_flagUnit m_worst m_best m_stack (m_to (Int32.toNatClampNeg v2_78)) _ h) (cwV 1 hts gX4_findAges_X4_meet rfl rfl rfl (by decide +kernel) ⟨Nat.le_of_ble_eq_true rfl, Nat.le_of_ble_eq_true rfl⟩) ⟨wz_blind, va_recv hK hP (ci := 4) (q0 := 0) rfl rfl, fun U hU hW => wz_at hU hW hP hK hD⟩ rfl rfl hl.1 rfl (lv_room (Nat.le_of_ble_eq_true rfl)) dX4_findAges_117 ⟨Nat.zero_le _, Nat.zero_le _⟩) hS (fun q _ hq => hF q hq) hF (fun r_117 u t H locs ht hvm h hB hz1 hk1 hS => ?_)
                              obtain ⟨m_comeTo_117, m_greatest_117, m_least_117⟩ := u
                              dsimp only at h hB
                              obtain ⟨hP, -, hD⟩ := wz_back ht hF hB
                              have hP : va_P D vwCl (wM a cI cZ cJ m_thrown m_sets m_ways m_penalty m_blocks m_edges m_pairs m_lines m_isFresh m_isAnswer m_time m_touchMany m_touch m_line m_from m_to m_bound m_pairA m_pairB m_comeTo_117 m_greatest_117 m_least_117 m_nowGreatest_107 m_nowLeast_107 m_does_107 m_mostTime m_leastTime m_countUnit m_flagUnit m_worst m_best m_stack) H := hP
                              have hD : va_D A (wM a cI cZ cJ m_thrown m_sets m_ways m_penalty m_blocks m_edges m_pairs m_lines m_isFresh m_isAnswer m_time m_touchMany m_touch m_line m_from m_to m_bound m_pairA m_pairB m_comeTo_117 m_greatest_117 m_least_117 m_nowGreatest_107 m_nowLeast_107 m_does_107 m_mostTime m_leastTime m_countUnit m_flagUnit m_worst m_best m_stack) := hD
                              refine lv_if_ne (tgt := 127) hx hb dX4_findAges_120 (by decide) (fun hc => ?_) (fun hc => ?_)
                              · replace h := h.1 hc
                                refine lv_iconst (v := 1) hx hb dX4_findAges_127 (by decide) ?_
                                refine lv_goto (tgt := 132) hx hb dX4_findAges_128 (by decide) ?_
                                refine lv_istore_n (lv' := [(1, .int 1), (0, .ref (a 0)), (2, .int v2_78)]) hx hb dX4_findAges_132 rfl hl (by decide) rfl (fun ls hl => ?_)
                                refine lv_iinc (v := (v2_78 + 1)) (lv' := [(2, .int (v2_78 + 1)), (1, .int 1), (0, .ref (a 0))]) hx hb dX4_findAges_133 hl (k := 2) rfl rfl (by decide) rfl (fun ls hl => ?_)
                                refine lv_goto (tgt := 78) hx hb dX4_findAges_136 (by decide) ?_
                                exact ih78 1 (v2_78 + 1) m_comeTo_117 m_greatest_117 m_least_117 m_nowGreatest_107 m_nowLeast_107 m_does_107 h _ _ hP hD hS _ (lv_sub hl [2, 1, 0] rfl)
                              · replace h := h.2 hc
                                refine lv_iload_n hx hb dX4_findAges_123 rfl (lv_at hl 1 rfl) ?_
                                refine lv_if_eq (tgt := 131) hx hb dX4_findAges_124 (by decide) (fun hc => ?_) (fun hc => ?_)
                                · replace h := h.1 hc
                                  refine lv_iconst (v := 0) hx hb dX4_findAges_131 (by decide) ?_
                                  refine lv_istore_n (lv' := [(1, .int 0), (0, .ref (a 0)), (2, .int v2_78)]) hx hb dX4_findAges_132 rfl hl (by decide) rfl (fun ls hl => ?_)
                                  refine lv_iinc (v := (v2_78 + 1)) (lv' := [(2, .int (v2_78 + 1)), (1, .int 0), (0, .ref (a 0))]) hx hb dX4_findAges_133 hl (k := 2) rfl rfl (by decide) rfl (fun ls hl => ?_)
                                  refine lv_goto (tgt := 78) hx hb dX4_findAges_136 (by decide) ?_
                                  exact ih78 0 (v2_78 + 1) m_comeTo_117 m_greatest_117 m_least_117 m_nowGreatest_107 m_nowLeast_107 m_does_107 h _ _ hP hD hS _ (lv_sub hl [2, 1, 0] rfl)
                                · replace h := h.2 hc
                                  refine lv_iconst (v := 1) hx hb dX4_findAges_127 (by decide) ?_
                                  refine lv_goto (tgt := 132) hx hb dX4_findAges_128 (by decide) ?_
                                  refine lv_istore_n (lv' := [(1, .int 1), (0, .ref (a 0)), (2, .int v2_78)]) hx hb dX4_findAges_132 rfl hl (by decide) rfl (fun ls hl => ?_)
                                  refine lv_iinc (v := (v2_78 + 1)) (lv' := [(2, .int (v2_78 + 1)), (1, .int 1), (0, .ref (a 0))]) hx hb dX4_findAges_133 hl (k := 2) rfl rfl (by decide) rfl (fun ls hl => ?_)
                                  refine lv_goto (tgt := 78) hx hb dX4_findAges_136 (by decide) ?_
                                  exact ih78 1 (v2_78 + 1) m_comeTo_117 m_greatest_117 m_least_117 m_nowGreatest_107 m_nowLeast_107 m_does_107 h _ _ hP hD hS _ (lv_sub hl [2, 1, 0] rfl)
                      obtain ⟨k9, h⟩ := h
                      exact LP78 k9 0 0 m_comeTo_70 m_greatest_70 m_least_70 m_nowGreatest_70 m_nowLeast_70 m_does_70 h _ _ hP hD hS _ (lv_sub hl [2, 1, 0] rfl)
                obtain ⟨k9, h⟩ := h
                exact LP70 k9 0 m_comeTo_2 m_greatest m_least m_nowGreatest_23 m_nowLeast_23 m_does h _ _ hP hD hS _ (lv_sub hl [1, 0] rfl)
              · replace h := h.2 hc
                refine lv_aload_n hx hb dX4_findAges_56 rfl (lv_at hl 0 rfl) ?_
                refine lv_iconst (v := 0) hx hb dX4_findAges_57 (by decide) ?_
                have hF := wz_free hD hS hA
                refine va_calli (va_runV (As := [.int 0]) (rest := []) ⟨hx, hb, hml, hown, hts⟩ (c_X4_meet l D a cI cZ cJ _ m_thrown m_sets m_ways m_penalty m_blocks m_edges m_pairs m_lines m_isFresh m_isAnswer m_time m_touchMany m_touch m_line m_from m_to m_bound m_pairA m_pairB m_comeTo_2 m_greatest m_least m_nowGreatest_23 m_nowLeast_23 m_does m_mostTime m_leastTime m_countUnit m_flagUnit m_worst m_best m_stack 0 _ h) (cwV 1 hts gX4_findAges_X4_meet rfl rfl rfl (by decide +kernel) ⟨Nat.le_of_ble_eq_true rfl, Nat.le_of_ble_eq_true rfl⟩) ⟨wz_blind, va_recv hK hP (ci := 4) (q0 := 0) rfl rfl, fun U hU hW => wz_at hU hW hP hK hD⟩ rfl rfl hl.1 rfl (lv_room (Nat.le_of_ble_eq_true rfl)) dX4_findAges_58 ⟨Nat.zero_le _, Nat.zero_le _⟩) hS (fun q _ hq => hF q hq) hF (fun r_58 u t H locs ht hvm h hB hz1 hk1 hS => ?_)
                obtain ⟨m_comeTo_58, m_greatest_58, m_least_58⟩ := u
                dsimp only at h hB
                obtain ⟨hP, -, hD⟩ := wz_back ht hF hB
                have hP : va_P D vwCl (wM a cI cZ cJ m_thrown m_sets m_ways m_penalty m_blocks m_edges m_pairs m_lines m_isFresh m_isAnswer m_time m_touchMany m_touch m_line m_from m_to m_bound m_pairA m_pairB m_comeTo_58 m_greatest_58 m_least_58 m_nowGreatest_23 m_nowLeast_23 m_does m_mostTime m_leastTime m_countUnit m_flagUnit m_worst m_best m_stack) H := hP
                have hD : va_D A (wM a cI cZ cJ m_thrown m_sets m_ways m_penalty m_blocks m_edges m_pairs m_lines m_isFresh m_isAnswer m_time m_touchMany m_touch m_line m_from m_to m_bound m_pairA m_pairB m_comeTo_58 m_greatest_58 m_least_58 m_nowGreatest_23 m_nowLeast_23 m_does m_mostTime m_leastTime m_countUnit m_flagUnit m_worst m_best m_stack) := hD
                refine lv_if_eq (tgt := 68) hx hb dX4_findAges_61 (by decide) (fun hc => ?_) (fun hc => ?_)
                · replace h := h.1 hc
                  refine lv_iconst (v := 0) hx hb dX4_findAges_68 (by decide) ?_
                  refine lv_istore_n (lv' := [(1, .int 0), (0, .ref (a 0))]) hx hb dX4_findAges_69 rfl hl (by decide) rfl (fun ls hl => ?_)
                  have LP70 : ∀ (n70 : Nat) (v1_70 : Int32) (m_comeTo_70 : Nat → Int32) (m_greatest_70 : Nat → Int32) (m_least_70 : Nat → Int32) (m_nowGreatest_70 : Nat → Int32) (m_nowLeast_70 : Nat → Int32) (m_does_70 : Nat → Int32), lp_X4_findAges_70 m_sets m_ways m_penalty m_blocks m_edges m_lines m_time m_touchMany m_touch m_line m_from m_to m_mostTime m_leastTime Q n70 v1_70 m_comeTo_70 m_greatest_70 m_least_70 m_nowGreatest_70 m_nowLeast_70 m_does_70 → ∀ (H : Heap) (locs : List Loc), va_P D vwCl (wM a cI cZ cJ m_thrown m_sets m_ways m_penalty m_blocks m_edges m_pairs m_lines m_isFresh m_isAnswer m_time m_touchMany m_touch m_line m_from m_to m_bound m_pairA m_pairB m_comeTo_70 m_greatest_70 m_least_70 m_nowGreatest_70 m_nowLeast_70 m_does_70 m_mostTime m_leastTime m_countUnit m_flagUnit m_worst m_best m_stack) H → va_D A (wM a cI cZ cJ m_thrown m_sets m_ways m_penalty m_blocks m_edges m_pairs m_lines m_isFresh m_isAnswer m_time m_touchMany m_touch m_line m_from m_to m_bound m_pairA m_pairB m_comeTo_70 m_greatest_70 m_least_70 m_nowGreatest_70 m_nowLeast_70 m_does_70 m_mostTime m_leastTime m_countUnit m_flagUnit m_worst m_best m_stack) → va_S A s.heap H locs → ∀ (ls : Array Slot), lv_has ls 4 [(0, .ref (a 0)), (1, .int v1_70)] → W p l e (headSpec wsX4_findAges rm_X4_findAges).room s m ([Value.ref (a 0)] : List Value).toArray below meth c H locs 0 0 Qz (F0 m 70 ls []) := by
                    intro n70
                    induction n70 with
                    | zero => intro v1_70 m_comeTo_70 m_greatest_70 m_least_70 m_nowGreatest_70 m_nowLeast_70 m_does_70 h; exact h.elim
                    | succ n70 ih70 =>
                      intro v1_70 m_comeTo_70 m_greatest_70 m_least_70 m_nowGreatest_70 m_nowLeast_70 m_does_70 h H locs hP hD hS ls hl
                      unfold lp_X4_findAges_70 at h
                      refine lv_iload_n hx hb dX4_findAges_70 rfl (lv_at hl 1 rfl) ?_
                      refine lv_if_eq (tgt := 142) hx hb dX4_findAges_71 (by decide) (fun hc => ?_) (fun hc => ?_)
                      · replace h := h.1 hc
                        refine lv_iconst (v := 0) hx hb dX4_findAges_142 (by decide) ?_
                        refine lv_istore_n (lv' := [(2, .int 0), (0, .ref (a 0)), (1, .int v1_70)]) hx hb dX4_findAges_143 rfl hl (by decide) rfl (fun ls hl => ?_)
                        have LP144 : ∀ (n144 : Nat) (v2_144 : Int32) (m_nowGreatest_144 : Nat → Int32) (m_nowLeast_144 : Nat → Int32) (m_does_144 : Nat → Int32) (m_mostTime_144 : Nat → Int64) (m_leastTime_144 : Nat → Int64), lp_X4_findAges_144 m_sets m_ways m_penalty m_blocks m_edges m_lines m_time m_touchMany m_touch m_line m_from m_to m_comeTo_70 m_greatest_70 m_least_70 Q n144 v2_144 m_nowGreatest_144 m_nowLeast_144 m_does_144 m_mostTime_144 m_leastTime_144 → ∀ (H : Heap) (locs : List Loc), va_P D vwCl (wM a cI cZ cJ m_thrown m_sets m_ways m_penalty m_blocks m_edges m_pairs m_lines m_isFresh m_isAnswer m_time m_touchMany m_touch m_line m_from m_to m_bound m_pairA m_pairB m_comeTo_70 m_greatest_70 m_least_70 m_nowGreatest_144 m_nowLeast_144 m_does_144 m_mostTime_144 m_leastTime_144 m_countUnit m_flagUnit m_worst m_best m_stack) H → va_D A (wM a cI cZ cJ m_thrown m_sets m_ways m_penalty m_blocks m_edges m_pairs m_lines m_isFresh m_isAnswer m_time m_touchMany m_touch m_line m_from m_to m_bound m_pairA m_pairB m_comeTo_70 m_greatest_70 m_least_70 m_nowGreatest_144 m_nowLeast_144 m_does_144 m_mostTime_144 m_leastTime_144 m_countUnit m_flagUnit m_worst m_best m_stack) → va_S A s.heap H locs → ∀ (ls : Array Slot), lv_has ls 4 [(0, .ref (a 0)), (2, .int v2_144)] → W p l e (headSpec wsX4_findAges rm_X4_findAges).room s m ([Value.ref (a 0)] : List Value).toArray below meth c H locs 0 0 Qz (F0 m 144 ls []) := by
                          intro n144
                          induction n144 with
                          | zero => intro v2_144 m_nowGreatest_144 m_nowLeast_144 m_does_144 m_mostTime_144 m_leastTime_144 h; exact h.elim
                          | succ n144 ih144 =>
                            intro v2_144 m_nowGreatest_144 m_nowLeast_144 m_does_144 m_mostTime_144 m_leastTime_144 h H locs hP hD hS ls hl
                            unfold lp_X4_findAges_144 at h
                            refine lv_iload_n hx hb dX4_findAges_144 rfl (lv_at hl 1 rfl) ?_
                            refine lv_aload_n hx hb dX4_findAges_145 rfl (lv_at hl 0 rfl) ?_
                            refine va_get (D := D) (ci := 4) (v := .int m_blocks) (C := RX4) (T := TX4) (N := 32) hx hb hts hinX4 hown hK hP 0 rfl rfl 4 (by decide) (hts (.fieldLink RX4 106 "WorstPathsModel" "blocks" "I") (by decide +kernel)) (fun _ h9 => h9) rfl dX4_findAges_146 ?_
                            refine lv_icmp_ge (tgt := 314) hx hb dX4_findAges_149 (by decide) (fun hc => ?_) (fun hc => ?_)
                            · replace h := h.1 hc
                              refine wz_mono hQz ?_
                              exact W.vret hx hb hr (fun t ht hW => ⟨⟨(m_comeTo_70, m_greatest_70, m_least_70, m_nowGreatest_144, m_nowLeast_144, m_does_144, m_mostTime_144, m_leastTime_144), rfl, h, by rw [ht]; exact hP, va_K.moved hW.alike hK, hD⟩, hS.F ht⟩) hS.2.2 dX4_findAges_314
                            · replace h := h.2 hc
                              refine lv_aload_n hx hb dX4_findAges_152 rfl (lv_at hl 0 rfl) ?_
                              refine va_get (D := D) (ci := 4) (v := .ref (a 16)) (C := RX4) (T := TX4) (N := 32) hx hb hts hinX4 hown hK hP 0 rfl rfl 24 (by decide) (hts (.fieldLink RX4 56 "WorstPathsModel" "mostTime" "[J") (by decide +kernel)) (fun _ h9 => h9) rfl dX4_findAges_153 ?_
                              refine lv_iload_n hx hb dX4_findAges_156 rfl (lv_at hl 1 rfl) ?_
                              refine lv_aload_n hx hb dX4_findAges_157 rfl (lv_at hl 0 rfl) ?_
                              refine va_get (D := D) (ci := 4) (v := .ref (a 1)) (C := RX4) (T := TX4) (N := 32) hx hb hts hinX4 hown hK hP 0 rfl rfl 8 (by decide) (hts (.fieldLink RX4 7 "WorstPathsModel" "time" "[I") (by decide +kernel)) (fun _ h9 => h9) rfl dX4_findAges_158 ?_
                              refine lv_iload_n hx hb dX4_findAges_161 rfl (lv_at hl 1 rfl) ?_
                              obtain ⟨hq, h⟩ := h
                              refine va_iald (D := D) hx hb hK hP 1 0 rfl rfl hq dX4_findAges_162 ?_
                              refine lv_i2l hx hb dX4_findAges_163 rfl ?_
                              obtain ⟨hq, h⟩ := h
                              refine va_last (D := D) hx hb hK hP hD hS 16 2 rfl rfl hq dX4_findAges_164 (fun H locs hP hD hS => ?_)
                              have hP : va_P D vwCl (wM a cI cZ cJ m_thrown m_sets m_ways m_penalty m_blocks m_edges m_pairs m_lines m_isFresh m_isAnswer m_time m_touchMany m_touch m_line m_from m_to m_bound m_pairA m_pairB m_comeTo_70 m_greatest_70 m_least_70 m_nowGreatest_144 m_nowLeast_144 m_does_144 (vp_updL m_mostTime_144 (Int32.toNatClampNeg v2_144) (Int32.toInt64 (m_time (Int32.toNatClampNeg v2_144)))) m_leastTime_144 m_countUnit m_flagUnit m_worst m_best m_stack) H := hP
                              have hD : va_D A (wM a cI cZ cJ m_thrown m_sets m_ways m_penalty m_blocks m_edges m_pairs m_lines m_isFresh m_isAnswer m_time m_touchMany m_touch m_line m_from m_to m_bound m_pairA m_pairB m_comeTo_70 m_greatest_70 m_least_70 m_nowGreatest_144 m_nowLeast_144 m_does_144 (vp_updL m_mostTime_144 (Int32.toNatClampNeg v2_144) (Int32.toInt64 (m_time (Int32.toNatClampNeg v2_144)))) m_leastTime_144 m_countUnit m_flagUnit m_worst m_best m_stack) := hD
                              refine lv_aload_n hx hb dX4_findAges_165 rfl (lv_at hl 0 rfl) ?_
                              refine va_get (D := D) (ci := 4) (v := .ref (a 17)) (C := RX4) (T := TX4) (N := 32) hx hb hts hinX4 hown hK hP 0 rfl rfl 25 (by decide) (hts (.fieldLink RX4 60 "WorstPathsModel" "leastTime" "[J") (by decide +kernel)) (fun _ h9 => h9) rfl dX4_findAges_166 ?_
                              refine lv_iload_n hx hb dX4_findAges_169 rfl (lv_at hl 1 rfl) ?_
                              refine lv_aload_n hx hb dX4_findAges_170 rfl (lv_at hl 0 rfl) ?_
                              refine va_get (D := D) (ci := 4) (v := .ref (a 1)) (C := RX4) (T := TX4) (N := 32) hx hb hts hinX4 hown hK hP 0 rfl rfl 8 (by decide) (hts (.fieldLink RX4 7 "WorstPathsModel" "time" "[I") (by decide +kernel)) (fun _ h9 => h9) rfl dX4_findAges_171 ?_
                              refine lv_iload_n hx hb dX4_findAges_174 rfl (lv_at hl 1 rfl) ?_
                              obtain ⟨hq, h⟩ := h
                              refine va_iald (D := D) hx hb hK hP 1 0 rfl rfl hq dX4_findAges_175 ?_
                              refine lv_i2l hx hb dX4_findAges_176 rfl ?_
                              obtain ⟨hq, h⟩ := h
                              refine va_last (D := D) hx hb hK hP hD hS 17 2 rfl rfl hq dX4_findAges_177 (fun H locs hP hD hS => ?_)
                              have hP : va_P D vwCl (wM a cI cZ cJ m_thrown m_sets m_ways m_penalty m_blocks m_edges m_pairs m_lines m_isFresh m_isAnswer m_time m_touchMany m_touch m_line m_from m_to m_bound m_pairA m_pairB m_comeTo_70 m_greatest_70 m_least_70 m_nowGreatest_144 m_nowLeast_144 m_does_144 (vp_updL m_mostTime_144 (Int32.toNatClampNeg v2_144) (Int32.toInt64 (m_time (Int32.toNatClampNeg v2_144)))) (vp_updL m_leastTime_144 (Int32.toNatClampNeg v2_144) (Int32.toInt64 (m_time (Int32.toNatClampNeg v2_144)))) m_countUnit m_flagUnit m_worst m_best m_stack) H := hP
                              have hD : va_D A (wM a cI cZ cJ m_thrown m_sets m_ways m_penalty m_blocks m_edges m_pairs m_lines m_isFresh m_isAnswer m_time m_touchMany m_touch m_line m_from m_to m_bound m_pairA m_pairB m_comeTo_70 m_greatest_70 m_least_70 m_nowGreatest_144 m_nowLeast_144 m_does_144 (vp_updL m_mostTime_144 (Int32.toNatClampNeg v2_144) (Int32.toInt64 (m_time (Int32.toNatClampNeg v2_144)))) (vp_updL m_leastTime_144 (Int32.toNatClampNeg v2_144) (Int32.toInt64 (m_time (Int32.toNatClampNeg v2_144)))) m_countUnit m_flagUnit m_worst m_best m_stack) := hD
                              refine lv_aload_n hx hb dX4_findAges_178 rfl (lv_at hl 0 rfl) ?_
                              refine va_get (D := D) (ci := 4) (v := .ref (a 10)) (C := RX4) (T := TX4) (N := 32) hx hb hts hinX4 hown hK hP 0 rfl rfl 18 (by decide) (hts (.fieldLink RX4 37 "WorstPathsModel" "comeTo" "[Z") (by decide +kernel)) (fun _ h9 => h9) rfl dX4_findAges_179 ?_
                              refine lv_iload_n hx hb dX4_findAges_182 rfl (lv_at hl 1 rfl) ?_
                              obtain ⟨hq, h⟩ := h
                              refine va_zald (D := D) hx hb hK hP 10 1 rfl rfl hq dX4_findAges_183 ?_
                              refine lv_if_eq (tgt := 192) hx hb dX4_findAges_184 (by decide) (fun hc => ?_) (fun hc => ?_)
                              · replace h := h.1 hc
                                refine lv_bipush (v := 6) hx hb dX4_findAges_192 (by decide) ?_
                                refine lv_iload_n hx hb dX4_findAges_194 rfl (lv_at hl 1 rfl) ?_
                                refine lv_imul hx hb dX4_findAges_195 ?_
                                refine lv_istore_n (lv' := [(3, .int (6 * v2_144)), (0, .ref (a 0)), (2, .int v2_144)]) hx hb dX4_findAges_196 rfl hl (by decide) rfl (fun ls hl => ?_)
                                have LP197 : ∀ (n197 : Nat) (v3_197 : Int32) (m_does_197 : Nat → Int32) (m_mostTime_197 : Nat → Int64) (m_leastTime_197 : Nat → Int64), lp_X4_findAges_197 v2_144 m_sets m_ways m_penalty m_blocks m_edges m_lines m_time m_touchMany m_touch m_line m_from m_to m_comeTo_70 m_greatest_70 m_least_70 m_nowGreatest_144 m_nowLeast_144 (lp_X4_findAges_144 m_sets m_ways m_penalty m_blocks m_edges m_lines m_time m_touchMany m_touch m_line m_from m_to m_comeTo_70 m_greatest_70 m_least_70 Q n144) Q n197 v3_197 m_does_197 m_mostTime_197 m_leastTime_197 → ∀ (H : Heap) (locs : List Loc), va_P D vwCl (wM a cI cZ cJ m_thrown m_sets m_ways m_penalty m_blocks m_edges m_pairs m_lines m_isFresh m_isAnswer m_time m_touchMany m_touch m_line m_from m_to m_bound m_pairA m_pairB m_comeTo_70 m_greatest_70 m_least_70 m_nowGreatest_144 m_nowLeast_144 m_does_197 m_mostTime_197 m_leastTime_197 m_countUnit m_flagUnit m_worst m_best m_stack) H → va_D A (wM a cI cZ cJ m_thrown m_sets m_ways m_penalty m_blocks m_edges m_pairs m_lines m_isFresh m_isAnswer m_time m_touchMany m_touch m_line m_from m_to m_bound m_pairA m_pairB m_comeTo_70 m_greatest_70 m_least_70 m_nowGreatest_144 m_nowLeast_144 m_does_197 m_mostTime_197 m_leastTime_197 m_countUnit m_flagUnit m_worst m_best m_stack) → va_S A s.heap H locs → ∀ (ls : Array Slot), lv_has ls 4 [(0, .ref (a 0)), (2, .int v2_144), (3, .int v3_197)] → W p l e (headSpec wsX4_findAges rm_X4_findAges).room s m ([Value.ref (a 0)] : List Value).toArray below meth c H locs 0 0 Qz (F0 m 197 ls []) := by
                                  intro n197
                                  induction n197 with
                                  | zero => intro v3_197 m_does_197 m_mostTime_197 m_leastTime_197 h; exact h.elim
                                  | succ n197 ih197 =>
                                    intro v3_197 m_does_197 m_mostTime_197 m_leastTime_197 h H locs hP hD hS ls hl
                                    unfold lp_X4_findAges_197 at h
                                    refine lv_iload_n hx hb dX4_findAges_197 rfl (lv_at hl 2 rfl) ?_
                                    refine lv_bipush (v := 6) hx hb dX4_findAges_198 (by decide) ?_
                                    refine lv_iload_n hx hb dX4_findAges_200 rfl (lv_at hl 1 rfl) ?_
                                    refine lv_imul hx hb dX4_findAges_201 ?_
                                    refine lv_aload_n hx hb dX4_findAges_202 rfl (lv_at hl 0 rfl) ?_
                                    refine va_get (D := D) (ci := 4) (v := .ref (a 2)) (C := RX4) (T := TX4) (N := 32) hx hb hts hinX4 hown hK hP 0 rfl rfl 9 (by decide) (hts (.fieldLink RX4 13 "WorstPathsModel" "touchMany" "[I") (by decide +kernel)) (fun _ h9 => h9) rfl dX4_findAges_203 ?_
                                    refine lv_iload_n hx hb dX4_findAges_206 rfl (lv_at hl 1 rfl) ?_
                                    obtain ⟨hq, h⟩ := h
                                    refine va_iald (D := D) hx hb hK hP 2 0 rfl rfl hq dX4_findAges_207 ?_
                                    refine lv_iadd hx hb dX4_findAges_208 ?_
                                    refine lv_icmp_ge (tgt := 308) hx hb dX4_findAges_209 (by decide) (fun hc => ?_) (fun hc => ?_)
                                    · replace h := h.1 hc
                                      refine lv_iinc (v := (v2_144 + 1)) (lv' := [(2, .int (v2_144 + 1)), (0, .ref (a 0)), (3, .int v3_197)]) hx hb dX4_findAges_308 hl (k := 1) rfl rfl (by decide) rfl (fun ls hl => ?_)
                                      refine lv_goto (tgt := 144) hx hb dX4_findAges_311 (by decide) ?_
                                      exact ih144 (v2_144 + 1) m_nowGreatest_144 m_nowLeast_144 m_does_197 m_mostTime_197 m_leastTime_197 h _ _ hP hD hS _ (lv_sub hl [1, 0] rfl)
                                    · replace h := h.2 hc
                                      refine lv_aload_n hx hb dX4_findAges_212 rfl (lv_at hl 0 rfl) ?_
                                      refine va_get (D := D) (ci := 4) (v := .ref (a 15)) (C := RX4) (T := TX4) (N := 32) hx hb hts hinX4 hown hK hP 0 rfl rfl 23 (by decide) (hts (.fieldLink RX4 53 "WorstPathsModel" "does" "[I") (by decide +kernel)) (fun _ h9 => h9) rfl dX4_findAges_213 ?_
                                      refine lv_iload_n hx hb dX4_findAges_216 rfl (lv_at hl 2 rfl) ?_
                                      refine lv_aload_n hx hb dX4_findAges_217 rfl (lv_at hl 0 rfl) ?_
                                      refine va_get (D := D) (ci := 4) (v := .ref (a 10)) (C := RX4) (T := TX4) (N := 32) hx hb hts hinX4 hown hK hP 0 rfl rfl 18 (by decide) (hts (.fieldLink RX4 37 "WorstPathsModel" "comeTo" "[Z") (by decide +kernel)) (fun _ h9 => h9) rfl dX4_findAges_218 ?_
                                      refine lv_iload_n hx hb dX4_findAges_221 rfl (lv_at hl 1 rfl) ?_
                                      obtain ⟨hq, h⟩ := h
                                      refine va_zald (D := D) hx hb hK hP 10 1 rfl rfl hq dX4_findAges_222 ?_
                                      have JP236 : ∀ (t0_236 : Int32), jn_X4_findAges_236 v2_144 v3_197 m_sets m_ways m_penalty m_blocks m_edges m_lines m_time m_touchMany m_touch m_line m_from m_to m_comeTo_70 m_greatest_70 m_least_70 m_nowGreatest_144 m_nowLeast_144 m_does_197 m_mostTime_197 m_leastTime_197 t0_236 v3_197 (lp_X4_findAges_144 m_sets m_ways m_penalty m_blocks m_edges m_lines m_time m_touchMany m_touch m_line m_from m_to m_comeTo_70 m_greatest_70 m_least_70 Q n144) (lp_X4_findAges_197 v2_144 m_sets m_ways m_penalty m_blocks m_edges m_lines m_time m_touchMany m_touch m_line m_from m_to m_comeTo_70 m_greatest_70 m_least_70 m_nowGreatest_144 m_nowLeast_144 (lp_X4_findAges_144 m_sets m_ways m_penalty m_blocks m_edges m_lines m_time m_touchMany m_touch m_line m_from m_to m_comeTo_70 m_greatest_70 m_least_70 Q n144) Q n197) Q → ∀ (H : Heap) (locs : List Loc), va_P D vwCl (wM a cI cZ cJ m_thrown m_sets m_ways m_penalty m_blocks m_edges m_pairs m_lines m_isFresh m_isAnswer m_time m_touchMany m_touch m_line m_from m_to m_bound m_pairA m_pairB m_comeTo_70 m_greatest_70 m_least_70 m_nowGreatest_144 m_nowLeast_144 m_does_197 m_mostTime_197 m_leastTime_197 m_countUnit m_flagUnit m_worst m_best m_stack) H → va_D A (wM a cI cZ cJ m_thrown m_sets m_ways m_penalty m_blocks m_edges m_pairs m_lines m_isFresh m_isAnswer m_time m_touchMany m_touch m_line m_from m_to m_bound m_pairA m_pairB m_comeTo_70 m_greatest_70 m_least_70 m_nowGreatest_144 m_nowLeast_144 m_does_197 m_mostTime_197 m_leastTime_197 m_countUnit m_flagUnit m_worst m_best m_stack) → va_S A s.heap H locs → ∀ (ls : Array Slot), lv_has ls 4 [(0, .ref (a 0)), (2, .int v2_144), (3, .int v3_197)] → W p l e (headSpec wsX4_findAges rm_X4_findAges).room s m ([Value.ref (a 0)] : List Value).toArray below meth c H locs 0 0 Qz (F0 m 236 ls [.int t0_236, .int v3_197, .ref (a 15)]) := by
                                        intro t0_236 h H locs hP hD hS ls hl
                                        unfold jn_X4_findAges_236 at h
                                        obtain ⟨hq, h⟩ := h
                                        refine va_iast (D := D) hx hb hK hP hD hS 15 0 rfl rfl hq dX4_findAges_236 (fun H locs hP hD hS => ?_)
                                        have hP : va_P D vwCl (wM a cI cZ cJ m_thrown m_sets m_ways m_penalty m_blocks m_edges m_pairs m_lines m_isFresh m_isAnswer m_time m_touchMany m_touch m_line m_from m_to m_bound m_pairA m_pairB m_comeTo_70 m_greatest_70 m_least_70 m_nowGreatest_144 m_nowLeast_144 (upd m_does_197 (Int32.toNatClampNeg v3_197) t0_236) m_mostTime_197 m_leastTime_197 m_countUnit m_flagUnit m_worst m_best m_stack) H := hP
                                        have hD : va_D A (wM a cI cZ cJ m_thrown m_sets m_ways m_penalty m_blocks m_edges m_pairs m_lines m_isFresh m_isAnswer m_time m_touchMany m_touch m_line m_from m_to m_bound m_pairA m_pairB m_comeTo_70 m_greatest_70 m_least_70 m_nowGreatest_144 m_nowLeast_144 (upd m_does_197 (Int32.toNatClampNeg v3_197) t0_236) m_mostTime_197 m_leastTime_197 m_countUnit m_flagUnit m_worst m_best m_stack) := hD
                                        refine lv_aload_n hx hb dX4_findAges_237 rfl (lv_at hl 0 rfl) ?_
                                        refine va_get (D := D) (ci := 4) (v := .ref (a 16)) (C := RX4) (T := TX4) (N := 32) hx hb hts hinX4 hown hK hP 0 rfl rfl 24 (by decide) (hts (.fieldLink RX4 56 "WorstPathsModel" "mostTime" "[J") (by decide +kernel)) (fun _ h9 => h9) rfl dX4_findAges_238 ?_
                                        refine lv_iload_n hx hb dX4_findAges_241 rfl (lv_at hl 1 rfl) ?_
                                        refine lv_dup2_11 hx hb dX4_findAges_242 rfl rfl ?_
                                        obtain ⟨hq, h⟩ := h
                                        refine va_lald (D := D) hx hb hK hP 16 2 rfl rfl hq dX4_findAges_243 ?_
                                        refine lv_aload_n hx hb dX4_findAges_244 rfl (lv_at hl 0 rfl) ?_
                                        refine va_get (D := D) (ci := 4) (v := .ref (a 15)) (C := RX4) (T := TX4) (N := 32) hx hb hts hinX4 hown hK hP 0 rfl rfl 23 (by decide) (hts (.fieldLink RX4 53 "WorstPathsModel" "does" "[I") (by decide +kernel)) (fun _ h9 => h9) rfl dX4_findAges_245 ?_
                                        refine lv_iload_n hx hb dX4_findAges_248 rfl (lv_at hl 2 rfl) ?_
                                        obtain ⟨hq, h⟩ := h
                                        refine va_iald (D := D) hx hb hK hP 15 0 rfl rfl hq dX4_findAges_249 ?_
                                        refine lv_iconst (v := 2) hx hb dX4_findAges_250 (by decide) ?_
                                        have JP272 : ∀ (t0_272 : Int64), jn_X4_findAges_272 v2_144 v3_197 m_sets m_ways m_penalty m_blocks m_edges m_lines m_time m_touchMany m_touch m_line m_from m_to m_comeTo_70 m_greatest_70 m_least_70 m_nowGreatest_144 m_nowLeast_144 (upd m_does_197 (Int32.toNatClampNeg v3_197) t0_236) m_mostTime_197 m_leastTime_197 t0_272 (m_mostTime_197 (Int32.toNatClampNeg v2_144)) v2_144 (lp_X4_findAges_144 m_sets m_ways m_penalty m_blocks m_edges m_lines m_time m_touchMany m_touch m_line m_from m_to m_comeTo_70 m_greatest_70 m_least_70 Q n144) (lp_X4_findAges_197 v2_144 m_sets m_ways m_penalty m_blocks m_edges m_lines m_time m_touchMany m_touch m_line m_from m_to m_comeTo_70 m_greatest_70 m_least_70 m_nowGreatest_144 m_nowLeast_144 (lp_X4_findAges_144 m_sets m_ways m_penalty m_blocks m_edges m_lines m_time m_touchMany m_touch m_line m_from m_to m_comeTo_70 m_greatest_70 m_least_70 Q n144) Q n197) Q → ∀ (H : Heap) (locs : List Loc), va_P D vwCl (wM a cI cZ cJ m_thrown m_sets m_ways m_penalty m_blocks m_edges m_pairs m_lines m_isFresh m_isAnswer m_time m_touchMany m_touch m_line m_from m_to m_bound m_pairA m_pairB m_comeTo_70 m_greatest_70 m_least_70 m_nowGreatest_144 m_nowLeast_144 (upd m_does_197 (Int32.toNatClampNeg v3_197) t0_236) m_mostTime_197 m_leastTime_197 m_countUnit m_flagUnit m_worst m_best m_stack) H → va_D A (wM a cI cZ cJ m_thrown m_sets m_ways m_penalty m_blocks m_edges m_pairs m_lines m_isFresh m_isAnswer m_time m_touchMany m_touch m_line m_from m_to m_bound m_pairA m_pairB m_comeTo_70 m_greatest_70 m_least_70 m_nowGreatest_144 m_nowLeast_144 (upd m_does_197 (Int32.toNatClampNeg v3_197) t0_236) m_mostTime_197 m_leastTime_197 m_countUnit m_flagUnit m_worst m_best m_stack) → va_S A s.heap H locs → ∀ (ls : Array Slot), lv_has ls 4 [(0, .ref (a 0)), (2, .int v2_144), (3, .int v3_197)] → W p l e (headSpec wsX4_findAges rm_X4_findAges).room s m ([Value.ref (a 0)] : List Value).toArray below meth c H locs 0 0 Qz (F0 m 272 ls [.long t0_272, .long (m_mostTime_197 (Int32.toNatClampNeg v2_144)), .int v2_144, .ref (a 16)]) := by
                                          intro t0_272 h H locs hP hD hS ls hl
                                          unfold jn_X4_findAges_272 at h
                                          refine lv_ladd hx hb dX4_findAges_272 ?_
                                          obtain ⟨hq, h⟩ := h
                                          refine va_last (D := D) hx hb hK hP hD hS 16 2 rfl rfl hq dX4_findAges_273 (fun H locs hP hD hS => ?_)
                                          have hP : va_P D vwCl (wM a cI cZ cJ m_thrown m_sets m_ways m_penalty m_blocks m_edges m_pairs m_lines m_isFresh m_isAnswer m_time m_touchMany m_touch m_line m_from m_to m_bound m_pairA m_pairB m_comeTo_70 m_greatest_70 m_least_70 m_nowGreatest_144 m_nowLeast_144 (upd m_does_197 (Int32.toNatClampNeg v3_197) t0_236) (vp_updL m_mostTime_197 (Int32.toNatClampNeg v2_144) ((m_mostTime_197 (Int32.toNatClampNeg v2_144)) + t0_272)) m_leastTime_197 m_countUnit m_flagUnit m_worst m_best m_stack) H := hP
                                          have hD : va_D A (wM a cI cZ cJ m_thrown m_sets m_ways m_penalty m_blocks m_edges m_pairs m_lines m_isFresh m_isAnswer m_time m_touchMany m_touch m_line m_from m_to m_bound m_pairA m_pairB m_comeTo_70 m_greatest_70 m_least_70 m_nowGreatest_144 m_nowLeast_144 (upd m_does_197 (Int32.toNatClampNeg v3_197) t0_236) (vp_updL m_mostTime_197 (Int32.toNatClampNeg v2_144) ((m_mostTime_197 (Int32.toNatClampNeg v2_144)) + t0_272)) m_leastTime_197 m_countUnit m_flagUnit m_worst m_best m_stack) := hD
                                          refine lv_aload_n hx hb dX4_findAges_274 rfl (lv_at hl 0 rfl) ?_
                                          refine va_get (D := D) (ci := 4) (v := .ref (a 17)) (C := RX4) (T := TX4) (N := 32) hx hb hts hinX4 hown hK hP 0 rfl rfl 25 (by decide) (hts (.fieldLink RX4 60 "WorstPathsModel" "leastTime" "[J") (by decide +kernel)) (fun _ h9 => h9) rfl dX4_findAges_275 ?_
                                          refine lv_iload_n hx hb dX4_findAges_278 rfl (lv_at hl 1 rfl) ?_
                                          refine lv_dup2_11 hx hb dX4_findAges_279 rfl rfl ?_
                                          obtain ⟨hq, h⟩ := h
                                          refine va_lald (D := D) hx hb hK hP 17 2 rfl rfl hq dX4_findAges_280 ?_
                                          refine lv_aload_n hx hb dX4_findAges_281 rfl (lv_at hl 0 rfl) ?_
                                          refine va_get (D := D) (ci := 4) (v := .ref (a 15)) (C := RX4) (T := TX4) (N := 32) hx hb hts hinX4 hown hK hP 0 rfl rfl 23 (by decide) (hts (.fieldLink RX4 53 "WorstPathsModel" "does" "[I") (by decide +kernel)) (fun _ h9 => h9) rfl dX4_findAges_282 ?_
                                          refine lv_iload_n hx hb dX4_findAges_285 rfl (lv_at hl 2 rfl) ?_
                                          obtain ⟨hq, h⟩ := h
                                          refine va_iald (D := D) hx hb hK hP 15 0 rfl rfl hq dX4_findAges_286 ?_
                                          refine lv_iconst (v := 2) hx hb dX4_findAges_287 (by decide) ?_
                                          refine lv_icmp_ne (tgt := 299) hx hb dX4_findAges_288 (by decide) (fun hc => ?_) (fun hc => ?_)
                                          · replace h := h.1 hc
                                            refine lv_lconst (v := 0) hx hb dX4_findAges_299 (by decide) ?_
                                            refine lv_ladd hx hb dX4_findAges_300 ?_
                                            obtain ⟨hq, h⟩ := h
                                            refine va_last (D := D) hx hb hK hP hD hS 17 2 rfl rfl hq dX4_findAges_301 (fun H locs hP hD hS => ?_)
                                            have hP : va_P D vwCl (wM a cI cZ cJ m_thrown m_sets m_ways m_penalty m_blocks m_edges m_pairs m_lines m_isFresh m_isAnswer m_time m_touchMany m_touch m_line m_from m_to m_bound m_pairA m_pairB m_comeTo_70 m_greatest_70 m_least_70 m_nowGreatest_144 m_nowLeast_144 (upd m_does_197 (Int32.toNatClampNeg v3_197) t0_236) (vp_updL m_mostTime_197 (Int32.toNatClampNeg v2_144) ((m_mostTime_197 (Int32.toNatClampNeg v2_144)) + t0_272)) (vp_updL m_leastTime_197 (Int32.toNatClampNeg v2_144) ((m_leastTime_197 (Int32.toNatClampNeg v2_144)) + 0)) m_countUnit m_flagUnit m_worst m_best m_stack) H := hP
                                            have hD : va_D A (wM a cI cZ cJ m_thrown m_sets m_ways m_penalty m_blocks m_edges m_pairs m_lines m_isFresh m_isAnswer m_time m_touchMany m_touch m_line m_from m_to m_bound m_pairA m_pairB m_comeTo_70 m_greatest_70 m_least_70 m_nowGreatest_144 m_nowLeast_144 (upd m_does_197 (Int32.toNatClampNeg v3_197) t0_236) (vp_updL m_mostTime_197 (Int32.toNatClampNeg v2_144) ((m_mostTime_197 (Int32.toNatClampNeg v2_144)) + t0_272)) (vp_updL m_leastTime_197 (Int32.toNatClampNeg v2_144) ((m_leastTime_197 (Int32.toNatClampNeg v2_144)) + 0)) m_countUnit m_flagUnit m_worst m_best m_stack) := hD
                                            refine lv_iinc (v := (v3_197 + 1)) (lv' := [(3, .int (v3_197 + 1)), (0, .ref (a 0)), (2, .int v2_144)]) hx hb dX4_findAges_302 hl (k := 2) rfl rfl (by decide) rfl (fun ls hl => ?_)
                                            refine lv_goto (tgt := 197) hx hb dX4_findAges_305 (by decide) ?_
                                            exact ih197 (v3_197 + 1) (upd m_does_197 (Int32.toNatClampNeg v3_197) t0_236) (vp_updL m_mostTime_197 (Int32.toNatClampNeg v2_144) ((m_mostTime_197 (Int32.toNatClampNeg v2_144)) + t0_272)) (vp_updL m_leastTime_197 (Int32.toNatClampNeg v2_144) ((m_leastTime_197 (Int32.toNatClampNeg v2_144)) + 0)) h _ _ hP hD hS _ (lv_sub hl [1, 2, 0] rfl)
                                          · replace h := h.2 hc
                                            refine lv_aload_n hx hb dX4_findAges_291 rfl (lv_at hl 0 rfl) ?_
                                            refine va_get (D := D) (ci := 4) (v := .int m_penalty) (C := RX4) (T := TX4) (N := 32) hx hb hts hinX4 hown hK hP 0 rfl rfl 3 (by decide) (hts (.fieldLink RX4 91 "WorstPathsModel" "penalty" "I") (by decide +kernel)) (fun _ h9 => h9) rfl dX4_findAges_292 ?_
                                            refine lv_i2l hx hb dX4_findAges_295 rfl ?_
                                            refine lv_goto (tgt := 300) hx hb dX4_findAges_296 (by decide) ?_
                                            refine lv_ladd hx hb dX4_findAges_300 ?_
                                            obtain ⟨hq, h⟩ := h
                                            refine va_last (D := D) hx hb hK hP hD hS 17 2 rfl rfl hq dX4_findAges_301 (fun H locs hP hD hS => ?_)
                                            have hP : va_P D vwCl (wM a cI cZ cJ m_thrown m_sets m_ways m_penalty m_blocks m_edges m_pairs m_lines m_isFresh m_isAnswer m_time m_touchMany m_touch m_line m_from m_to m_bound m_pairA m_pairB m_comeTo_70 m_greatest_70 m_least_70 m_nowGreatest_144 m_nowLeast_144 (upd m_does_197 (Int32.toNatClampNeg v3_197) t0_236) (vp_updL m_mostTime_197 (Int32.toNatClampNeg v2_144) ((m_mostTime_197 (Int32.toNatClampNeg v2_144)) + t0_272)) (vp_updL m_leastTime_197 (Int32.toNatClampNeg v2_144) ((m_leastTime_197 (Int32.toNatClampNeg v2_144)) + (Int32.toInt64 m_penalty))) m_countUnit m_flagUnit m_worst m_best m_stack) H := hP
                                            have hD : va_D A (wM a cI cZ cJ m_thrown m_sets m_ways m_penalty m_blocks m_edges m_pairs m_lines m_isFresh m_isAnswer m_time m_touchMany m_touch m_line m_from m_to m_bound m_pairA m_pairB m_comeTo_70 m_greatest_70 m_least_70 m_nowGreatest_144 m_nowLeast_144 (upd m_does_197 (Int32.toNatClampNeg v3_197) t0_236) (vp_updL m_mostTime_197 (Int32.toNatClampNeg v2_144) ((m_mostTime_197 (Int32.toNatClampNeg v2_144)) + t0_272)) (vp_updL m_leastTime_197 (Int32.toNatClampNeg v2_144) ((m_leastTime_197 (Int32.toNatClampNeg v2_144)) + (Int32.toInt64 m_penalty))) m_countUnit m_flagUnit m_worst m_best m_stack) := hD
                                            refine lv_iinc (v := (v3_197 + 1)) (lv' := [(3, .int (v3_197 + 1)), (0, .ref (a 0)), (2, .int v2_144)]) hx hb dX4_findAges_302 hl (k := 2) rfl rfl (by decide) rfl (fun ls hl => ?_)
                                            refine lv_goto (tgt := 197) hx hb dX4_findAges_305 (by decide) ?_
                                            exact ih197 (v3_197 + 1) (upd m_does_197 (Int32.toNatClampNeg v3_197) t0_236) (vp_updL m_mostTime_197 (Int32.toNatClampNeg v2_144) ((m_mostTime_197 (Int32.toNatClampNeg v2_144)) + t0_272)) (vp_updL m_leastTime_197 (Int32.toNatClampNeg v2_144) ((m_leastTime_197 (Int32.toNatClampNeg v2_144)) + (Int32.toInt64 m_penalty))) h _ _ hP hD hS _ (lv_sub hl [1, 2, 0] rfl)
                                        refine lv_icmp_eq (tgt := 263) hx hb dX4_findAges_251 (by decide) (fun hc => ?_) (fun hc => ?_)
                                        · replace h := h.1 hc
                                          refine lv_aload_n hx hb dX4_findAges_263 rfl (lv_at hl 0 rfl) ?_
                                          refine va_get (D := D) (ci := 4) (v := .int m_penalty) (C := RX4) (T := TX4) (N := 32) hx hb hts hinX4 hown hK hP 0 rfl rfl 3 (by decide) (hts (.fieldLink RX4 91 "WorstPathsModel" "penalty" "I") (by decide +kernel)) (fun _ h9 => h9) rfl dX4_findAges_264 ?_
                                          refine lv_i2l hx hb dX4_findAges_267 rfl ?_
                                          refine lv_goto (tgt := 272) hx hb dX4_findAges_268 (by decide) ?_
                                          exact JP272 (Int32.toInt64 m_penalty) h _ _ hP hD hS _ (lv_sub hl [0, 1, 2] rfl)
                                        · replace h := h.2 hc
                                          refine lv_aload_n hx hb dX4_findAges_254 rfl (lv_at hl 0 rfl) ?_
                                          refine va_get (D := D) (ci := 4) (v := .ref (a 15)) (C := RX4) (T := TX4) (N := 32) hx hb hts hinX4 hown hK hP 0 rfl rfl 23 (by decide) (hts (.fieldLink RX4 53 "WorstPathsModel" "does" "[I") (by decide +kernel)) (fun _ h9 => h9) rfl dX4_findAges_255 ?_
                                          refine lv_iload_n hx hb dX4_findAges_258 rfl (lv_at hl 2 rfl) ?_
                                          obtain ⟨hq, h⟩ := h
                                          refine va_iald (D := D) hx hb hK hP 15 0 rfl rfl hq dX4_findAges_259 ?_
                                          refine lv_if_ne (tgt := 271) hx hb dX4_findAges_260 (by decide) (fun hc => ?_) (fun hc => ?_)
                                          · replace h := h.1 hc
                                            refine lv_lconst (v := 0) hx hb dX4_findAges_271 (by decide) ?_
                                            exact JP272 0 h _ _ hP hD hS _ (lv_sub hl [0, 1, 2] rfl)
                                          · replace h := h.2 hc
                                            refine lv_aload_n hx hb dX4_findAges_263 rfl (lv_at hl 0 rfl) ?_
                                            refine va_get (D := D) (ci := 4) (v := .int m_penalty) (C := RX4) (T := TX4) (N := 32) hx hb hts hinX4 hown hK hP 0 rfl rfl 3 (by decide) (hts (.fieldLink RX4 91 "WorstPathsModel" "penalty" "I") (by decide +kernel)) (fun _ h9 => h9) rfl dX4_findAges_264 ?_
                                            refine lv_i2l hx hb dX4_findAges_267 rfl ?_
                                            refine lv_goto (tgt := 272) hx hb dX4_findAges_268 (by decide) ?_
                                            exact JP272 (Int32.toInt64 m_penalty) h _ _ hP hD hS _ (lv_sub hl [0, 1, 2] rfl)
                                      refine lv_if_eq (tgt := 235) hx hb dX4_findAges_223 (by decide) (fun hc => ?_) (fun hc => ?_)
                                      · replace h := h.1 hc
                                        refine lv_iconst (v := (-1)) hx hb dX4_findAges_235 (by decide) ?_
                                        exact JP236 (-1) h _ _ hP hD hS _ (lv_sub hl [0, 1, 2] rfl)
                                      · replace h := h.2 hc
                                        refine lv_aload_n hx hb dX4_findAges_226 rfl (lv_at hl 0 rfl) ?_
                                        refine va_get (D := D) (ci := 4) (v := .ref (a 15)) (C := RX4) (T := TX4) (N := 32) hx hb hts hinX4 hown hK hP 0 rfl rfl 23 (by decide) (hts (.fieldLink RX4 53 "WorstPathsModel" "does" "[I") (by decide +kernel)) (fun _ h9 => h9) rfl dX4_findAges_227 ?_
                                        refine lv_iload_n hx hb dX4_findAges_230 rfl (lv_at hl 2 rfl) ?_
                                        obtain ⟨hq, h⟩ := h
                                        refine va_iald (D := D) hx hb hK hP 15 0 rfl rfl hq dX4_findAges_231 ?_
                                        refine lv_goto (tgt := 236) hx hb dX4_findAges_232 (by decide) ?_
                                        exact JP236 (m_does_197 (Int32.toNatClampNeg v3_197)) h _ _ hP hD hS _ (lv_sub hl [0, 1, 2] rfl)
                                obtain ⟨k9, h⟩ := h
                                exact LP197 k9 (6 * v2_144) m_does_144 (vp_updL m_mostTime_144 (Int32.toNatClampNeg v2_144) (Int32.toInt64 (m_time (Int32.toNatClampNeg v2_144)))) (vp_updL m_leastTime_144 (Int32.toNatClampNeg v2_144) (Int32.toInt64 (m_time (Int32.toNatClampNeg v2_144)))) h _ _ hP hD hS _ (lv_sub hl [1, 2, 0] rfl)
                              · replace h := h.2 hc
                                refine lv_aload_n hx hb dX4_findAges_187 rfl (lv_at hl 0 rfl) ?_
                                refine lv_iload_n hx hb dX4_findAges_188 rfl (lv_at hl 1 rfl) ?_
                                have hF := wz_free hD hS hA
                                refine va_callv (va_runV (As := [.int v2_144]) (rest := []) ⟨hx, hb, hml, hown, hts⟩ (c_X4_goThrough l D a cI cZ cJ _ m_thrown m_sets m_ways m_penalty m_blocks m_edges m_pairs m_lines m_isFresh m_isAnswer m_time m_touchMany m_touch m_line m_from m_to m_bound m_pairA m_pairB m_comeTo_70 m_greatest_70 m_least_70 m_nowGreatest_144 m_nowLeast_144 m_does_144 (vp_updL m_mostTime_144 (Int32.toNatClampNeg v2_144) (Int32.toInt64 (m_time (Int32.toNatClampNeg v2_144)))) (vp_updL m_leastTime_144 (Int32.toNatClampNeg v2_144) (Int32.toInt64 (m_time (Int32.toNatClampNeg v2_144)))) m_countUnit m_flagUnit m_worst m_best m_stack v2_144 _ h) (cwV 1 hts gX4_findAges_X4_goThrough rfl rfl rfl (by decide +kernel) ⟨Nat.le_of_ble_eq_true rfl, Nat.le_of_ble_eq_true rfl⟩) ⟨wz_blind, va_recv hK hP (ci := 4) (q0 := 0) rfl rfl, fun U hU hW => wz_at hU hW hP hK hD⟩ rfl rfl hl.1 rfl (lv_room (Nat.le_of_ble_eq_true rfl)) dX4_findAges_189 ⟨Nat.zero_le _, Nat.zero_le _⟩) hS (fun q _ hq => hF q hq) hF (fun u t H locs ht hvm h hB hz1 hk1 hS => ?_)
                                obtain ⟨m_nowGreatest_189, m_nowLeast_189, m_does_189⟩ := u
                                dsimp only at h hB
                                obtain ⟨hP, -, hD⟩ := wz_back ht hF hB
                                have hP : va_P D vwCl (wM a cI cZ cJ m_thrown m_sets m_ways m_penalty m_blocks m_edges m_pairs m_lines m_isFresh m_isAnswer m_time m_touchMany m_touch m_line m_from m_to m_bound m_pairA m_pairB m_comeTo_70 m_greatest_70 m_least_70 m_nowGreatest_189 m_nowLeast_189 m_does_189 (vp_updL m_mostTime_144 (Int32.toNatClampNeg v2_144) (Int32.toInt64 (m_time (Int32.toNatClampNeg v2_144)))) (vp_updL m_leastTime_144 (Int32.toNatClampNeg v2_144) (Int32.toInt64 (m_time (Int32.toNatClampNeg v2_144)))) m_countUnit m_flagUnit m_worst m_best m_stack) H := hP
                                have hD : va_D A (wM a cI cZ cJ m_thrown m_sets m_ways m_penalty m_blocks m_edges m_pairs m_lines m_isFresh m_isAnswer m_time m_touchMany m_touch m_line m_from m_to m_bound m_pairA m_pairB m_comeTo_70 m_greatest_70 m_least_70 m_nowGreatest_189 m_nowLeast_189 m_does_189 (vp_updL m_mostTime_144 (Int32.toNatClampNeg v2_144) (Int32.toInt64 (m_time (Int32.toNatClampNeg v2_144)))) (vp_updL m_leastTime_144 (Int32.toNatClampNeg v2_144) (Int32.toInt64 (m_time (Int32.toNatClampNeg v2_144)))) m_countUnit m_flagUnit m_worst m_best m_stack) := hD
                                refine lv_bipush (v := 6) hx hb dX4_findAges_192 (by decide) ?_
                                refine lv_iload_n hx hb dX4_findAges_194 rfl (lv_at hl 1 rfl) ?_
                                refine lv_imul hx hb dX4_findAges_195 ?_
                                refine lv_istore_n (lv' := [(3, .int (6 * v2_144)), (0, .ref (a 0)), (2, .int v2_144)]) hx hb dX4_findAges_196 rfl hl (by decide) rfl (fun ls hl => ?_)
                                have LP197 : ∀ (n197 : Nat) (v3_197 : Int32) (m_does_197 : Nat → Int32) (m_mostTime_197 : Nat → Int64) (m_leastTime_197 : Nat → Int64), lp_X4_findAges_197 v2_144 m_sets m_ways m_penalty m_blocks m_edges m_lines m_time m_touchMany m_touch m_line m_from m_to m_comeTo_70 m_greatest_70 m_least_70 m_nowGreatest_189 m_nowLeast_189 (lp_X4_findAges_144 m_sets m_ways m_penalty m_blocks m_edges m_lines m_time m_touchMany m_touch m_line m_from m_to m_comeTo_70 m_greatest_70 m_least_70 Q n144) Q n197 v3_197 m_does_197 m_mostTime_197 m_leastTime_197 → ∀ (H : Heap) (locs : List Loc), va_P D vwCl (wM a cI cZ cJ m_thrown m_sets m_ways m_penalty m_blocks m_edges m_pairs m_lines m_isFresh m_isAnswer m_time m_touchMany m_touch m_line m_from m_to m_bound m_pairA m_pairB m_comeTo_70 m_greatest_70 m_least_70 m_nowGreatest_189 m_nowLeast_189 m_does_197 m_mostTime_197 m_leastTime_197 m_countUnit m_flagUnit m_worst m_best m_stack) H → va_D A (wM a cI cZ cJ m_thrown m_sets m_ways m_penalty m_blocks m_edges m_pairs m_lines m_isFresh m_isAnswer m_time m_touchMany m_touch m_line m_from m_to m_bound m_pairA m_pairB m_comeTo_70 m_greatest_70 m_least_70 m_nowGreatest_189 m_nowLeast_189 m_does_197 m_mostTime_197 m_leastTime_197 m_countUnit m_flagUnit m_worst m_best m_stack) → va_S A s.heap H locs → ∀ (ls : Array Slot), lv_has ls 4 [(0, .ref (a 0)), (2, .int v2_144), (3, .int v3_197)] → W p l e (headSpec wsX4_findAges rm_X4_findAges).room s m ([Value.ref (a 0)] : List Value).toArray below meth c H locs 0 0 Qz (F0 m 197 ls []) := by
                                  intro n197
                                  induction n197 with
                                  | zero => intro v3_197 m_does_197 m_mostTime_197 m_leastTime_197 h; exact h.elim
                                  | succ n197 ih197 =>
                                    intro v3_197 m_does_197 m_mostTime_197 m_leastTime_197 h H locs hP hD hS ls hl
                                    unfold lp_X4_findAges_197 at h
                                    refine lv_iload_n hx hb dX4_findAges_197 rfl (lv_at hl 2 rfl) ?_
                                    refine lv_bipush (v := 6) hx hb dX4_findAges_198 (by decide) ?_
                                    refine lv_iload_n hx hb dX4_findAges_200 rfl (lv_at hl 1 rfl) ?_
                                    refine lv_imul hx hb dX4_findAges_201 ?_
                                    refine lv_aload_n hx hb dX4_findAges_202 rfl (lv_at hl 0 rfl) ?_
                                    refine va_get (D := D) (ci := 4) (v := .ref (a 2)) (C := RX4) (T := TX4) (N := 32) hx hb hts hinX4 hown hK hP 0 rfl rfl 9 (by decide) (hts (.fieldLink RX4 13 "WorstPathsModel" "touchMany" "[I") (by decide +kernel)) (fun _ h9 => h9) rfl dX4_findAges_203 ?_
                                    refine lv_iload_n hx hb dX4_findAges_206 rfl (lv_at hl 1 rfl) ?_
                                    obtain ⟨hq, h⟩ := h
                                    refine va_iald (D := D) hx hb hK hP 2 0 rfl rfl hq dX4_findAges_207 ?_
                                    refine lv_iadd hx hb dX4_findAges_208 ?_
                                    refine lv_icmp_ge (tgt := 308) hx hb dX4_findAges_209 (by decide) (fun hc => ?_) (fun hc => ?_)
                                    · replace h := h.1 hc
                                      refine lv_iinc (v := (v2_144 + 1)) (lv' := [(2, .int (v2_144 + 1)), (0, .ref (a 0)), (3, .int v3_197)]) hx hb dX4_findAges_308 hl (k := 1) rfl rfl (by decide) rfl (fun ls hl => ?_)
                                      refine lv_goto (tgt := 144) hx hb dX4_findAges_311 (by decide) ?_
                                      exact ih144 (v2_144 + 1) m_nowGreatest_189 m_nowLeast_189 m_does_197 m_mostTime_197 m_leastTime_197 h _ _ hP hD hS _ (lv_sub hl [1, 0] rfl)
                                    · replace h := h.2 hc
                                      refine lv_aload_n hx hb dX4_findAges_212 rfl (lv_at hl 0 rfl) ?_
                                      refine va_get (D := D) (ci := 4) (v := .ref (a 15)) (C := RX4) (T := TX4) (N := 32) hx hb hts hinX4 hown hK hP 0 rfl rfl 23 (by decide) (hts (.fieldLink RX4 53 "WorstPathsModel" "does" "[I") (by decide +kernel)) (fun _ h9 => h9) rfl dX4_findAges_213 ?_
                                      refine lv_iload_n hx hb dX4_findAges_216 rfl (lv_at hl 2 rfl) ?_
                                      refine lv_aload_n hx hb dX4_findAges_217 rfl (lv_at hl 0 rfl) ?_
                                      refine va_get (D := D) (ci := 4) (v := .ref (a 10)) (C := RX4) (T := TX4) (N := 32) hx hb hts hinX4 hown hK hP 0 rfl rfl 18 (by decide) (hts (.fieldLink RX4 37 "WorstPathsModel" "comeTo" "[Z") (by decide +kernel)) (fun _ h9 => h9) rfl dX4_findAges_218 ?_
                                      refine lv_iload_n hx hb dX4_findAges_221 rfl (lv_at hl 1 rfl) ?_
                                      obtain ⟨hq, h⟩ := h
                                      refine va_zald (D := D) hx hb hK hP 10 1 rfl rfl hq dX4_findAges_222 ?_
                                      have JP236 : ∀ (t0_236 : Int32), jn_X4_findAges_236 v2_144 v3_197 m_sets m_ways m_penalty m_blocks m_edges m_lines m_time m_touchMany m_touch m_line m_from m_to m_comeTo_70 m_greatest_70 m_least_70 m_nowGreatest_189 m_nowLeast_189 m_does_197 m_mostTime_197 m_leastTime_197 t0_236 v3_197 (lp_X4_findAges_144 m_sets m_ways m_penalty m_blocks m_edges m_lines m_time m_touchMany m_touch m_line m_from m_to m_comeTo_70 m_greatest_70 m_least_70 Q n144) (lp_X4_findAges_197 v2_144 m_sets m_ways m_penalty m_blocks m_edges m_lines m_time m_touchMany m_touch m_line m_from m_to m_comeTo_70 m_greatest_70 m_least_70 m_nowGreatest_189 m_nowLeast_189 (lp_X4_findAges_144 m_sets m_ways m_penalty m_blocks m_edges m_lines m_time m_touchMany m_touch m_line m_from m_to m_comeTo_70 m_greatest_70 m_least_70 Q n144) Q n197) Q → ∀ (H : Heap) (locs : List Loc), va_P D vwCl (wM a cI cZ cJ m_thrown m_sets m_ways m_penalty m_blocks m_edges m_pairs m_lines m_isFresh m_isAnswer m_time m_touchMany m_touch m_line m_from m_to m_bound m_pairA m_pairB m_comeTo_70 m_greatest_70 m_least_70 m_nowGreatest_189 m_nowLeast_189 m_does_197 m_mostTime_197 m_leastTime_197 m_countUnit m_flagUnit m_worst m_best m_stack) H → va_D A (wM a cI cZ cJ m_thrown m_sets m_ways m_penalty m_blocks m_edges m_pairs m_lines m_isFresh m_isAnswer m_time m_touchMany m_touch m_line m_from m_to m_bound m_pairA m_pairB m_comeTo_70 m_greatest_70 m_least_70 m_nowGreatest_189 m_nowLeast_189 m_does_197 m_mostTime_197 m_leastTime_197 m_countUnit m_flagUnit m_worst m_best m_stack) → va_S A s.heap H locs → ∀ (ls : Array Slot), lv_has ls 4 [(0, .ref (a 0)), (2, .int v2_144), (3, .int v3_197)] → W p l e (headSpec wsX4_findAges rm_X4_findAges).room s m ([Value.ref (a 0)] : List Value).toArray below meth c H locs 0 0 Qz (F0 m 236 ls [.int t0_236, .int v3_197, .ref (a 15)]) := by
                                        intro t0_236 h H locs hP hD hS ls hl
                                        unfold jn_X4_findAges_236 at h
                                        obtain ⟨hq, h⟩ := h
                                        refine va_iast (D := D) hx hb hK hP hD hS 15 0 rfl rfl hq dX4_findAges_236 (fun H locs hP hD hS => ?_)
                                        have hP : va_P D vwCl (wM a cI cZ cJ m_thrown m_sets m_ways m_penalty m_blocks m_edges m_pairs m_lines m_isFresh m_isAnswer m_time m_touchMany m_touch m_line m_from m_to m_bound m_pairA m_pairB m_comeTo_70 m_greatest_70 m_least_70 m_nowGreatest_189 m_nowLeast_189 (upd m_does_197 (Int32.toNatClampNeg v3_197) t0_236) m_mostTime_197 m_leastTime_197 m_countUnit m_flagUnit m_worst m_best m_stack) H := hP
                                        have hD : va_D A (wM a cI cZ cJ m_thrown m_sets m_ways m_penalty m_blocks m_edges m_pairs m_lines m_isFresh m_isAnswer m_time m_touchMany m_touch m_line m_from m_to m_bound m_pairA m_pairB m_comeTo_70 m_greatest_70 m_least_70 m_nowGreatest_189 m_nowLeast_189 (upd m_does_197 (Int32.toNatClampNeg v3_197) t0_236) m_mostTime_197 m_leastTime_197 m_countUnit m_flagUnit m_worst m_best m_stack) := hD
                                        refine lv_aload_n hx hb dX4_findAges_237 rfl (lv_at hl 0 rfl) ?_
                                        refine va_get (D := D) (ci := 4) (v := .ref (a 16)) (C := RX4) (T := TX4) (N := 32) hx hb hts hinX4 hown hK hP 0 rfl rfl 24 (by decide) (hts (.fieldLink RX4 56 "WorstPathsModel" "mostTime" "[J") (by decide +kernel)) (fun _ h9 => h9) rfl dX4_findAges_238 ?_
                                        refine lv_iload_n hx hb dX4_findAges_241 rfl (lv_at hl 1 rfl) ?_
                                        refine lv_dup2_11 hx hb dX4_findAges_242 rfl rfl ?_
                                        obtain ⟨hq, h⟩ := h
                                        refine va_lald (D := D) hx hb hK hP 16 2 rfl rfl hq dX4_findAges_243 ?_
                                        refine lv_aload_n hx hb dX4_findAges_244 rfl (lv_at hl 0 rfl) ?_
                                        refine va_get (D := D) (ci := 4) (v := .ref (a 15)) (C := RX4) (T := TX4) (N := 32) hx hb hts hinX4 hown hK hP 0 rfl rfl 23 (by decide) (hts (.fieldLink RX4 53 "WorstPathsModel" "does" "[I") (by decide +kernel)) (fun _ h9 => h9) rfl dX4_findAges_245 ?_
                                        refine lv_iload_n hx hb dX4_findAges_248 rfl (lv_at hl 2 rfl) ?_
                                        obtain ⟨hq, h⟩ := h
                                        refine va_iald (D := D) hx hb hK hP 15 0 rfl rfl hq dX4_findAges_249 ?_
                                        refine lv_iconst (v := 2) hx hb dX4_findAges_250 (by decide) ?_
                                        have JP272 : ∀ (t0_272 : Int64), jn_X4_findAges_272 v2_144 v3_197 m_sets m_ways m_penalty m_blocks m_edges m_lines m_time m_touchMany m_touch m_line m_from m_to m_comeTo_70 m_greatest_70 m_least_70 m_nowGreatest_189 m_nowLeast_189 (upd m_does_197 (Int32.toNatClampNeg v3_197) t0_236) m_mostTime_197 m_leastTime_197 t0_272 (m_mostTime_197 (Int32.toNatClampNeg v2_144)) v2_144 (lp_X4_findAges_144 m_sets m_ways m_penalty m_blocks m_edges m_lines m_time m_touchMany m_touch m_line m_from m_to m_comeTo_70 m_greatest_70 m_least_70 Q n144) (lp_X4_findAges_197 v2_144 m_sets m_ways m_penalty m_blocks m_edges m_lines m_time m_touchMany m_touch m_line m_from m_to m_comeTo_70 m_greatest_70 m_least_70 m_nowGreatest_189 m_nowLeast_189 (lp_X4_findAges_144 m_sets m_ways m_penalty m_blocks m_edges m_lines m_time m_touchMany m_touch m_line m_from m_to m_comeTo_70 m_greatest_70 m_least_70 Q n144) Q n197) Q → ∀ (H : Heap) (locs : List Loc), va_P D vwCl (wM a cI cZ cJ m_thrown m_sets m_ways m_penalty m_blocks m_edges m_pairs m_lines m_isFresh m_isAnswer m_time m_touchMany m_touch m_line m_from m_to m_bound m_pairA m_pairB m_comeTo_70 m_greatest_70 m_least_70 m_nowGreatest_189 m_nowLeast_189 (upd m_does_197 (Int32.toNatClampNeg v3_197) t0_236) m_mostTime_197 m_leastTime_197 m_countUnit m_flagUnit m_worst m_best m_stack) H → va_D A (wM a cI cZ cJ m_thrown m_sets m_ways m_penalty m_blocks m_edges m_pairs m_lines m_isFresh m_isAnswer m_time m_touchMany m_touch m_line m_from m_to m_bound m_pairA m_pairB m_comeTo_70 m_greatest_70 m_least_70 m_nowGreatest_189 m_nowLeast_189 (upd m_does_197 (Int32.toNatClampNeg v3_197) t0_236) m_mostTime_197 m_leastTime_197 m_countUnit m_flagUnit m_worst m_best m_stack) → va_S A s.heap H locs → ∀ (ls : Array Slot), lv_has ls 4 [(0, .ref (a 0)), (2, .int v2_144), (3, .int v3_197)] → W p l e (headSpec wsX4_findAges rm_X4_findAges).room s m ([Value.ref (a 0)] : List Value).toArray below meth c H locs 0 0 Qz (F0 m 272 ls [.long t0_272, .long (m_mostTime_197 (Int32.toNatClampNeg v2_144)), .int v2_144, .ref (a 16)]) := by
                                          intro t0_272 h H locs hP hD hS ls hl
                                          unfold jn_X4_findAges_272 at h
                                          refine lv_ladd hx hb dX4_findAges_272 ?_
                                          obtain ⟨hq, h⟩ := h
                                          refine va_last (D := D) hx hb hK hP hD hS 16 2 rfl rfl hq dX4_findAges_273 (fun H locs hP hD hS => ?_)
                                          have hP : va_P D vwCl (wM a cI cZ cJ m_thrown m_sets m_ways m_penalty m_blocks m_edges m_pairs m_lines m_isFresh m_isAnswer m_time m_touchMany m_touch m_line m_from m_to m_bound m_pairA m_pairB m_comeTo_70 m_greatest_70 m_least_70 m_nowGreatest_189 m_nowLeast_189 (upd m_does_197 (Int32.toNatClampNeg v3_197) t0_236) (vp_updL m_mostTime_197 (Int32.toNatClampNeg v2_144) ((m_mostTime_197 (Int32.toNatClampNeg v2_144)) + t0_272)) m_leastTime_197 m_countUnit m_flagUnit m_worst m_best m_stack) H := hP
                                          have hD : va_D A (wM a cI cZ cJ m_thrown m_sets m_ways m_penalty m_blocks m_edges m_pairs m_lines m_isFresh m_isAnswer m_time m_touchMany m_touch m_line m_from m_to m_bound m_pairA m_pairB m_comeTo_70 m_greatest_70 m_least_70 m_nowGreatest_189 m_nowLeast_189 (upd m_does_197 (Int32.toNatClampNeg v3_197) t0_236) (vp_updL m_mostTime_197 (Int32.toNatClampNeg v2_144) ((m_mostTime_197 (Int32.toNatClampNeg v2_144)) + t0_272)) m_leastTime_197 m_countUnit m_flagUnit m_worst m_best m_stack) := hD
                                          refine lv_aload_n hx hb dX4_findAges_274 rfl (lv_at hl 0 rfl) ?_
                                          refine va_get (D := D) (ci := 4) (v := .ref (a 17)) (C := RX4) (T := TX4) (N := 32) hx hb hts hinX4 hown hK hP 0 rfl rfl 25 (by decide) (hts (.fieldLink RX4 60 "WorstPathsModel" "leastTime" "[J") (by decide +kernel)) (fun _ h9 => h9) rfl dX4_findAges_275 ?_
                                          refine lv_iload_n hx hb dX4_findAges_278 rfl (lv_at hl 1 rfl) ?_
                                          refine lv_dup2_11 hx hb dX4_findAges_279 rfl rfl ?_
                                          obtain ⟨hq, h⟩ := h
                                          refine va_lald (D := D) hx hb hK hP 17 2 rfl rfl hq dX4_findAges_280 ?_
                                          refine lv_aload_n hx hb dX4_findAges_281 rfl (lv_at hl 0 rfl) ?_
                                          refine va_get (D := D) (ci := 4) (v := .ref (a 15)) (C := RX4) (T := TX4) (N := 32) hx hb hts hinX4 hown hK hP 0 rfl rfl 23 (by decide) (hts (.fieldLink RX4 53 "WorstPathsModel" "does" "[I") (by decide +kernel)) (fun _ h9 => h9) rfl dX4_findAges_282 ?_
                                          refine lv_iload_n hx hb dX4_findAges_285 rfl (lv_at hl 2 rfl) ?_
                                          obtain ⟨hq, h⟩ := h
                                          refine va_iald (D := D) hx hb hK hP 15 0 rfl rfl hq dX4_findAges_286 ?_
                                          refine lv_iconst (v := 2) hx hb dX4_findAges_287 (by decide) ?_
                                          refine lv_icmp_ne (tgt := 299) hx hb dX4_findAges_288 (by decide) (fun hc => ?_) (fun hc => ?_)
                                          · replace h := h.1 hc
                                            refine lv_lconst (v := 0) hx hb dX4_findAges_299 (by decide) ?_
                                            refine lv_ladd hx hb dX4_findAges_300 ?_
                                            obtain ⟨hq, h⟩ := h
                                            refine va_last (D := D) hx hb hK hP hD hS 17 2 rfl rfl hq dX4_findAges_301 (fun H locs hP hD hS => ?_)
                                            have hP : va_P D vwCl (wM a cI cZ cJ m_thrown m_sets m_ways m_penalty m_blocks m_edges m_pairs m_lines m_isFresh m_isAnswer m_time m_touchMany m_touch m_line m_from m_to m_bound m_pairA m_pairB m_comeTo_70 m_greatest_70 m_least_70 m_nowGreatest_189 m_nowLeast_189 (upd m_does_197 (Int32.toNatClampNeg v3_197) t0_236) (vp_updL m_mostTime_197 (Int32.toNatClampNeg v2_144) ((m_mostTime_197 (Int32.toNatClampNeg v2_144)) + t0_272)) (vp_updL m_leastTime_197 (Int32.toNatClampNeg v2_144) ((m_leastTime_197 (Int32.toNatClampNeg v2_144)) + 0)) m_countUnit m_flagUnit m_worst m_best m_stack) H := hP
                                            have hD : va_D A (wM a cI cZ cJ m_thrown m_sets m_ways m_penalty m_blocks m_edges m_pairs m_lines m_isFresh m_isAnswer m_time m_touchMany m_touch m_line m_from m_to m_bound m_pairA m_pairB m_comeTo_70 m_greatest_70 m_least_70 m_nowGreatest_189 m_nowLeast_189 (upd m_does_197 (Int32.toNatClampNeg v3_197) t0_236) (vp_updL m_mostTime_197 (Int32.toNatClampNeg v2_144) ((m_mostTime_197 (Int32.toNatClampNeg v2_144)) + t0_272)) (vp_updL m_leastTime_197 (Int32.toNatClampNeg v2_144) ((m_leastTime_197 (Int32.toNatClampNeg v2_144)) + 0)) m_countUnit m_flagUnit m_worst m_best m_stack) := hD
                                            refine lv_iinc (v := (v3_197 + 1)) (lv' := [(3, .int (v3_197 + 1)), (0, .ref (a 0)), (2, .int v2_144)]) hx hb dX4_findAges_302 hl (k := 2) rfl rfl (by decide) rfl (fun ls hl => ?_)
                                            refine lv_goto (tgt := 197) hx hb dX4_findAges_305 (by decide) ?_
                                            exact ih197 (v3_197 + 1) (upd m_does_197 (Int32.toNatClampNeg v3_197) t0_236) (vp_updL m_mostTime_197 (Int32.toNatClampNeg v2_144) ((m_mostTime_197 (Int32.toNatClampNeg v2_144)) + t0_272)) (vp_updL m_leastTime_197 (Int32.toNatClampNeg v2_144) ((m_leastTime_197 (Int32.toNatClampNeg v2_144)) + 0)) h _ _ hP hD hS _ (lv_sub hl [1, 2, 0] rfl)
                                          · replace h := h.2 hc
                                            refine lv_aload_n hx hb dX4_findAges_291 rfl (lv_at hl 0 rfl) ?_
                                            refine va_get (D := D) (ci := 4) (v := .int m_penalty) (C := RX4) (T := TX4) (N := 32) hx hb hts hinX4 hown hK hP 0 rfl rfl 3 (by decide) (hts (.fieldLink RX4 91 "WorstPathsModel" "penalty" "I") (by decide +kernel)) (fun _ h9 => h9) rfl dX4_findAges_292 ?_
                                            refine lv_i2l hx hb dX4_findAges_295 rfl ?_
                                            refine lv_goto (tgt := 300) hx hb dX4_findAges_296 (by decide) ?_
                                            refine lv_ladd hx hb dX4_findAges_300 ?_
                                            obtain ⟨hq, h⟩ := h
                                            refine va_last (D := D) hx hb hK hP hD hS 17 2 rfl rfl hq dX4_findAges_301 (fun H locs hP hD hS => ?_)
                                            have hP : va_P D vwCl (wM a cI cZ cJ m_thrown m_sets m_ways m_penalty m_blocks m_edges m_pairs m_lines m_isFresh m_isAnswer m_time m_touchMany m_touch m_line m_from m_to m_bound m_pairA m_pairB m_comeTo_70 m_greatest_70 m_least_70 m_nowGreatest_189 m_nowLeast_189 (upd m_does_197 (Int32.toNatClampNeg v3_197) t0_236) (vp_updL m_mostTime_197 (Int32.toNatClampNeg v2_144) ((m_mostTime_197 (Int32.toNatClampNeg v2_144)) + t0_272)) (vp_updL m_leastTime_197 (Int32.toNatClampNeg v2_144) ((m_leastTime_197 (Int32.toNatClampNeg v2_144)) + (Int32.toInt64 m_penalty))) m_countUnit m_flagUnit m_worst m_best m_stack) H := hP
                                            have hD : va_D A (wM a cI cZ cJ m_thrown m_sets m_ways m_penalty m_blocks m_edges m_pairs m_lines m_isFresh m_isAnswer m_time m_touchMany m_touch m_line m_from m_to m_bound m_pairA m_pairB m_comeTo_70 m_greatest_70 m_least_70 m_nowGreatest_189 m_nowLeast_189 (upd m_does_197 (Int32.toNatClampNeg v3_197) t0_236) (vp_updL m_mostTime_197 (Int32.toNatClampNeg v2_144) ((m_mostTime_197 (Int32.toNatClampNeg v2_144)) + t0_272)) (vp_updL m_leastTime_197 (Int32.toNatClampNeg v2_144) ((m_leastTime_197 (Int32.toNatClampNeg v2_144)) + (Int32.toInt64 m_penalty))) m_countUnit m_flagUnit m_worst m_best m_stack) := hD
                                            refine lv_iinc (v := (v3_197 + 1)) (lv' := [(3, .int (v3_197 + 1)), (0, .ref (a 0)), (2, .int v2_144)]) hx hb dX4_findAges_302 hl (k := 2) rfl rfl (by decide) rfl (fun ls hl => ?_)
                                            refine lv_goto (tgt := 197) hx hb dX4_findAges_305 (by decide) ?_
                                            exact ih197 (v3_197 + 1) (upd m_does_197 (Int32.toNatClampNeg v3_197) t0_236) (vp_updL m_mostTime_197 (Int32.toNatClampNeg v2_144) ((m_mostTime_197 (Int32.toNatClampNeg v2_144)) + t0_272)) (vp_updL m_leastTime_197 (Int32.toNatClampNeg v2_144) ((m_leastTime_197 (Int32.toNatClampNeg v2_144)) + (Int32.toInt64 m_penalty))) h _ _ hP hD hS _ (lv_sub hl [1, 2, 0] rfl)
                                        refine lv_icmp_eq (tgt := 263) hx hb dX4_findAges_251 (by decide) (fun hc => ?_) (fun hc => ?_)
                                        · replace h := h.1 hc
                                          refine lv_aload_n hx hb dX4_findAges_263 rfl (lv_at hl 0 rfl) ?_
                                          refine va_get (D := D) (ci := 4) (v := .int m_penalty) (C := RX4) (T := TX4) (N := 32) hx hb hts hinX4 hown hK hP 0 rfl rfl 3 (by decide) (hts (.fieldLink RX4 91 "WorstPathsModel" "penalty" "I") (by decide +kernel)) (fun _ h9 => h9) rfl dX4_findAges_264 ?_
                                          refine lv_i2l hx hb dX4_findAges_267 rfl ?_
                                          refine lv_goto (tgt := 272) hx hb dX4_findAges_268 (by decide) ?_
                                          exact JP272 (Int32.toInt64 m_penalty) h _ _ hP hD hS _ (lv_sub hl [0, 1, 2] rfl)
                                        · replace h := h.2 hc
                                          refine lv_aload_n hx hb dX4_findAges_254 rfl (lv_at hl 0 rfl) ?_
                                          refine va_get (D := D) (ci := 4) (v := .ref (a 15)) (C := RX4) (T := TX4) (N := 32) hx hb hts hinX4 hown hK hP 0 rfl rfl 23 (by decide) (hts (.fieldLink RX4 53 "WorstPathsModel" "does" "[I") (by decide +kernel)) (fun _ h9 => h9) rfl dX4_findAges_255 ?_
                                          refine lv_iload_n hx hb dX4_findAges_258 rfl (lv_at hl 2 rfl) ?_
                                          obtain ⟨hq, h⟩ := h
                                          refine va_iald (D := D) hx hb hK hP 15 0 rfl rfl hq dX4_findAges_259 ?_
                                          refine lv_if_ne (tgt := 271) hx hb dX4_findAges_260 (by decide) (fun hc => ?_) (fun hc => ?_)
                                          · replace h := h.1 hc
                                            refine lv_lconst (v := 0) hx hb dX4_findAges_271 (by decide) ?_
                                            exact JP272 0 h _ _ hP hD hS _ (lv_sub hl [0, 1, 2] rfl)
                                          · replace h := h.2 hc
                                            refine lv_aload_n hx hb dX4_findAges_263 rfl (lv_at hl 0 rfl) ?_
                                            refine va_get (D := D) (ci := 4) (v := .int m_penalty) (C := RX4) (T := TX4) (N := 32) hx hb hts hinX4 hown hK hP 0 rfl rfl 3 (by decide) (hts (.fieldLink RX4 91 "WorstPathsModel" "penalty" "I") (by decide +kernel)) (fun _ h9 => h9) rfl dX4_findAges_264 ?_
                                            refine lv_i2l hx hb dX4_findAges_267 rfl ?_
                                            refine lv_goto (tgt := 272) hx hb dX4_findAges_268 (by decide) ?_
                                            exact JP272 (Int32.toInt64 m_penalty) h _ _ hP hD hS _ (lv_sub hl [0, 1, 2] rfl)
                                      refine lv_if_eq (tgt := 235) hx hb dX4_findAges_223 (by decide) (fun hc => ?_) (fun hc => ?_)
                                      · replace h := h.1 hc
                                        refine lv_iconst (v := (-1)) hx hb dX4_findAges_235 (by decide) ?_
                                        exact JP236 (-1) h _ _ hP hD hS _ (lv_sub hl [0, 1, 2] rfl)
                                      · replace h := h.2 hc
                                        refine lv_aload_n hx hb dX4_findAges_226 rfl (lv_at hl 0 rfl) ?_
                                        refine va_get (D := D) (ci := 4) (v := .ref (a 15)) (C := RX4) (T := TX4) (N := 32) hx hb hts hinX4 hown hK hP 0 rfl rfl 23 (by decide) (hts (.fieldLink RX4 53 "WorstPathsModel" "does" "[I") (by decide +kernel)) (fun _ h9 => h9) rfl dX4_findAges_227 ?_
                                        refine lv_iload_n hx hb dX4_findAges_230 rfl (lv_at hl 2 rfl) ?_
                                        obtain ⟨hq, h⟩ := h
                                        refine va_iald (D := D) hx hb hK hP 15 0 rfl rfl hq dX4_findAges_231 ?_
                                        refine lv_goto (tgt := 236) hx hb dX4_findAges_232 (by decide) ?_
                                        exact JP236 (m_does_197 (Int32.toNatClampNeg v3_197)) h _ _ hP hD hS _ (lv_sub hl [0, 1, 2] rfl)
                                obtain ⟨k9, h⟩ := h
                                exact LP197 k9 (6 * v2_144) m_does_189 (vp_updL m_mostTime_144 (Int32.toNatClampNeg v2_144) (Int32.toInt64 (m_time (Int32.toNatClampNeg v2_144)))) (vp_updL m_leastTime_144 (Int32.toNatClampNeg v2_144) (Int32.toInt64 (m_time (Int32.toNatClampNeg v2_144)))) h _ _ hP hD hS _ (lv_sub hl [1, 2, 0] rfl)
                        obtain ⟨k9, h⟩ := h
                        exact LP144 k9 0 m_nowGreatest_70 m_nowLeast_70 m_does_70 m_mostTime m_leastTime h _ _ hP hD hS _ (lv_sub hl [1, 0] rfl)
                      · replace h := h.2 hc
                        refine lv_iconst (v := 0) hx hb dX4_findAges_74 (by decide) ?_
                        refine lv_istore_n (lv' := [(1, .int 0), (0, .ref (a 0))]) hx hb dX4_findAges_75 rfl hl (by decide) rfl (fun ls hl => ?_)
                        refine lv_iconst (v := 0) hx hb dX4_findAges_76 (by decide) ?_
                        refine lv_istore_n (lv' := [(2, .int 0), (1, .int 0), (0, .ref (a 0))]) hx hb dX4_findAges_77 rfl hl (by decide) rfl (fun ls hl => ?_)
                        have LP78 : ∀ (n78 : Nat) (v1_78 : Int32) (v2_78 : Int32) (m_comeTo_78 : Nat → Int32) (m_greatest_78 : Nat → Int32) (m_least_78 : Nat → Int32) (m_nowGreatest_78 : Nat → Int32) (m_nowLeast_78 : Nat → Int32) (m_does_78 : Nat → Int32), lp_X4_findAges_78 m_sets m_ways m_penalty m_blocks m_edges m_lines m_time m_touchMany m_touch m_line m_from m_to m_mostTime m_leastTime (lp_X4_findAges_70 m_sets m_ways m_penalty m_blocks m_edges m_lines m_time m_touchMany m_touch m_line m_from m_to m_mostTime m_leastTime Q n70) Q n78 v1_78 v2_78 m_comeTo_78 m_greatest_78 m_least_78 m_nowGreatest_78 m_nowLeast_78 m_does_78 → ∀ (H : Heap) (locs : List Loc), va_P D vwCl (wM a cI cZ cJ m_thrown m_sets m_ways m_penalty m_blocks m_edges m_pairs m_lines m_isFresh m_isAnswer m_time m_touchMany m_touch m_line m_from m_to m_bound m_pairA m_pairB m_comeTo_78 m_greatest_78 m_least_78 m_nowGreatest_78 m_nowLeast_78 m_does_78 m_mostTime m_leastTime m_countUnit m_flagUnit m_worst m_best m_stack) H → va_D A (wM a cI cZ cJ m_thrown m_sets m_ways m_penalty m_blocks m_edges m_pairs m_lines m_isFresh m_isAnswer m_time m_touchMany m_touch m_line m_from m_to m_bound m_pairA m_pairB m_comeTo_78 m_greatest_78 m_least_78 m_nowGreatest_78 m_nowLeast_78 m_does_78 m_mostTime m_leastTime m_countUnit m_flagUnit m_worst m_best m_stack) → va_S A s.heap H locs → ∀ (ls : Array Slot), lv_has ls 4 [(0, .ref (a 0)), (1, .int v1_78), (2, .int v2_78)] → W p l e (headSpec wsX4_findAges rm_X4_findAges).room s m ([Value.ref (a 0)] : List Value).toArray below meth c H locs 0 0 Qz (F0 m 78 ls []) := by
                          intro n78
                          induction n78 with
                          | zero => intro v1_78 v2_78 m_comeTo_78 m_greatest_78 m_least_78 m_nowGreatest_78 m_nowLeast_78 m_does_78 h; exact h.elim
                          | succ n78 ih78 =>
                            intro v1_78 v2_78 m_comeTo_78 m_greatest_78 m_least_78 m_nowGreatest_78 m_nowLeast_78 m_does_78 h H locs hP hD hS ls hl
                            unfold lp_X4_findAges_78 at h
                            refine lv_iload_n hx hb dX4_findAges_78 rfl (lv_at hl 2 rfl) ?_
                            refine lv_aload_n hx hb dX4_findAges_79 rfl (lv_at hl 0 rfl) ?_
                            refine va_get (D := D) (ci := 4) (v := .int m_edges) (C := RX4) (T := TX4) (N := 32) hx hb hts hinX4 hown hK hP 0 rfl rfl 5 (by decide) (hts (.fieldLink RX4 119 "WorstPathsModel" "edges" "I") (by decide +kernel)) (fun _ h9 => h9) rfl dX4_findAges_80 ?_
                            refine lv_icmp_ge (tgt := 139) hx hb dX4_findAges_83 (by decide) (fun hc => ?_) (fun hc => ?_)
                            · replace h := h.1 hc
                              refine lv_goto (tgt := 70) hx hb dX4_findAges_139 (by decide) ?_
                              exact ih70 v1_78 m_comeTo_78 m_greatest_78 m_least_78 m_nowGreatest_78 m_nowLeast_78 m_does_78 h _ _ hP hD hS _ (lv_sub hl [0, 1] rfl)
                            · replace h := h.2 hc
                              refine lv_aload_n hx hb dX4_findAges_86 rfl (lv_at hl 0 rfl) ?_
                              refine va_get (D := D) (ci := 4) (v := .ref (a 10)) (C := RX4) (T := TX4) (N := 32) hx hb hts hinX4 hown hK hP 0 rfl rfl 18 (by decide) (hts (.fieldLink RX4 37 "WorstPathsModel" "comeTo" "[Z") (by decide +kernel)) (fun _ h9 => h9) rfl dX4_findAges_87 ?_
                              refine lv_aload_n hx hb dX4_findAges_90 rfl (lv_at hl 0 rfl) ?_
                              refine va_get (D := D) (ci := 4) (v := .ref (a 5)) (C := RX4) (T := TX4) (N := 32) hx hb hts hinX4 hown hK hP 0 rfl rfl 12 (by decide) (hts (.fieldLink RX4 22 "WorstPathsModel" "from" "[I") (by decide +kernel)) (fun _ h9 => h9) rfl dX4_findAges_91 ?_
                              refine lv_iload_n hx hb dX4_findAges_94 rfl (lv_at hl 2 rfl) ?_
                              obtain ⟨hq, h⟩ := h
                              refine va_iald (D := D) hx hb hK hP 5 0 rfl rfl hq dX4_findAges_95 ?_
                              obtain ⟨hq, h⟩ := h
                              refine va_zald (D := D) hx hb hK hP 10 1 rfl rfl hq dX4_findAges_96 ?_
                              refine lv_if_eq (tgt := 133) hx hb dX4_findAges_97 (by decide) (fun hc => ?_) (fun hc => ?_)
                              · replace h := h.1 hc
                                refine lv_iinc (v := (v2_78 + 1)) (lv' := [(2, .int (v2_78 + 1)), (0, .ref (a 0)), (1, .int v1_78)]) hx hb dX4_findAges_133 hl (k := 2) rfl rfl (by decide) rfl (fun ls hl => ?_)
                                refine lv_goto (tgt := 78) hx hb dX4_findAges_136 (by decide) ?_
                                exact ih78 v1_78 (v2_78 + 1) m_comeTo_78 m_greatest_78 m_least_78 m_nowGreatest_78 m_nowLeast_78 m_does_78 h _ _ hP hD hS _ (lv_sub hl [1, 2, 0] rfl)
                              · replace h := h.2 hc
                                refine lv_aload_n hx hb dX4_findAges_100 rfl (lv_at hl 0 rfl) ?_
                                refine lv_aload_n hx hb dX4_findAges_101 rfl (lv_at hl 0 rfl) ?_
                                refine va_get (D := D) (ci := 4) (v := .ref (a 5)) (C := RX4) (T := TX4) (N := 32) hx hb hts hinX4 hown hK hP 0 rfl rfl 12 (by decide) (hts (.fieldLink RX4 22 "WorstPathsModel" "from" "[I") (by decide +kernel)) (fun _ h9 => h9) rfl dX4_findAges_102 ?_
                                refine lv_iload_n hx hb dX4_findAges_105 rfl (lv_at hl 2 rfl) ?_
                                obtain ⟨hq, h⟩ := h
                                refine va_iald (D := D) hx hb hK hP 5 0 rfl rfl hq dX4_findAges_106 ?_
                                have hF := wz_free hD hS hA
                                refine va_callv (va_runV (As := [.int (m_from (Int32.toNatClampNeg v2_78))]) (rest := []) ⟨hx, hb, hml, hown, hts⟩ (c_X4_goThrough l D a cI cZ cJ _ m_thrown m_sets m_ways m_penalty m_blocks m_edges m_pairs m_lines m_isFresh m_isAnswer m_time m_touchMany m_touch m_line m_from m_to m_bound m_pairA m_pairB m_comeTo_78 m_greatest_78 m_least_78 m_nowGreatest_78 m_nowLeast_78 m_does_78 m_mostTime m_leastTime m_countUnit m_flagUnit m_worst m_best m_stack (m_from (Int32.toNatClampNeg v2_78)) _ h) (cwV 1 hts gX4_findAges_X4_goThrough rfl rfl rfl (by decide +kernel) ⟨Nat.le_of_ble_eq_true rfl, Nat.le_of_ble_eq_true rfl⟩) ⟨wz_blind, va_recv hK hP (ci := 4) (q0 := 0) rfl rfl, fun U hU hW => wz_at hU hW hP hK hD⟩ rfl rfl hl.1 rfl (lv_room (Nat.le_of_ble_eq_true rfl)) dX4_findAges_107 ⟨Nat.zero_le _, Nat.zero_le _⟩) hS (fun q _ hq => hF q hq) hF (fun u t H locs ht hvm h hB hz1 hk1 hS => ?_)
                                obtain ⟨m_nowGreatest_107, m_nowLeast_107, m_does_107⟩ := u
                                dsimp only at h hB
                                obtain ⟨hP, -, hD⟩ := wz_back ht hF hB
                                have hP : va_P D vwCl (wM a cI cZ cJ m_thrown m_sets m_ways m_penalty m_blocks m_edges m_pairs m_lines m_isFresh m_isAnswer m_time m_touchMany m_touch m_line m_from m_to m_bound m_pairA m_pairB m_comeTo_78 m_greatest_78 m_least_78 m_nowGreatest_107 m_nowLeast_107 m_does_107 m_mostTime m_leastTime m_countUnit m_flagUnit m_worst m_best m_stack) H := hP
                                have hD : va_D A (wM a cI cZ cJ m_thrown m_sets m_ways m_penalty m_blocks m_edges m_pairs m_lines m_isFresh m_isAnswer m_time m_touchMany m_touch m_line m_from m_to m_bound m_pairA m_pairB m_comeTo_78 m_greatest_78 m_least_78 m_nowGreatest_107 m_nowLeast_107 m_does_107 m_mostTime m_leastTime m_countUnit m_flagUnit m_worst m_best m_stack) := hD
                                refine lv_aload_n hx hb dX4_findAges_110 rfl (lv_at hl 0 rfl) ?_
                                refine lv_aload_n hx hb dX4_findAges_111 rfl (lv_at hl 0 rfl) ?_
                                refine va_get (D := D) (ci := 4) (v := .ref (a 6)) (C := RX4) (T := TX4) (N := 32) hx hb hts hinX4 hown hK hP 0 rfl rfl 13 (by decide) (hts (.fieldLink RX4 25 "WorstPathsModel" "to" "[I") (by decide +kernel)) (fun _ h9 => h9) rfl dX4_findAges_112 ?_
                                refine lv_iload_n hx hb dX4_findAges_115 rfl (lv_at hl 2 rfl) ?_
                                obtain ⟨hq, h⟩ := h
                                refine va_iald (D := D) hx hb hK hP 6 0 rfl rfl hq dX4_findAges_116 ?_
                                have hF := wz_free hD hS hA
                                refine va_calli (va_runV (As := [.int (m_to (Int32.toNatClampNeg v2_78))]) (rest := []) ⟨hx, hb, hml, hown, hts⟩ (c_X4_meet l D a cI cZ cJ _ m_thrown m_sets m_ways m_penalty m_blocks m_edges m_pairs m_lines m_isFresh m_isAnswer m_time m_touchMany m_touch m_line m_from m_to m_bound m_pairA m_pairB m_comeTo_78 m_greatest_78 m_least_78 m_nowGreatest_107 m_nowLeast_107 m_does_107 m_mostTime m_leastTime m_countUnit m_flagUnit m_worst m_best m_stack (m_to (Int32.toNatClampNeg v2_78)) _ h) (cwV 1 hts gX4_findAges_X4_meet rfl rfl rfl (by decide +kernel) ⟨Nat.le_of_ble_eq_true rfl, Nat.le_of_ble_eq_true rfl⟩) ⟨wz_blind, va_recv hK hP (ci := 4) (q0 := 0) rfl rfl, fun U hU hW => wz_at hU hW hP hK hD⟩ rfl rfl hl.1 rfl (lv_room (Nat.le_of_ble_eq_true rfl)) dX4_findAges_117 ⟨Nat.zero_le _, Nat.zero_le _⟩) hS (fun q _ hq => hF q hq) hF (fun r_117 u t H locs ht hvm h hB hz1 hk1 hS => ?_)
                                obtain ⟨m_comeTo_117, m_greatest_117, m_least_117⟩ := u
                                dsimp only at h hB
                                obtain ⟨hP, -, hD⟩ := wz_back ht hF hB
                                have hP : va_P D vwCl (wM a cI cZ cJ m_thrown m_sets m_ways m_penalty m_blocks m_edges m_pairs m_lines m_isFresh m_isAnswer m_time m_touchMany m_touch m_line m_from m_to m_bound m_pairA m_pairB m_comeTo_117 m_greatest_117 m_least_117 m_nowGreatest_107 m_nowLeast_107 m_does_107 m_mostTime m_leastTime m_countUnit m_flagUnit m_worst m_best m_stack) H := hP
                                have hD : va_D A (wM a cI cZ cJ m_thrown m_sets m_ways m_penalty m_blocks m_edges m_pairs m_lines m_isFresh m_isAnswer m_time m_touchMany m_touch m_line m_from m_to m_bound m_pairA m_pairB m_comeTo_117 m_greatest_117 m_least_117 m_nowGreatest_107 m_nowLeast_107 m_does_107 m_mostTime m_leastTime m_countUnit m_flagUnit m_worst m_best m_stack) := hD
                                refine lv_if_ne (tgt := 127) hx hb dX4_findAges_120 (by decide) (fun hc => ?_) (fun hc => ?_)
                                · replace h := h.1 hc
                                  refine lv_iconst (v := 1) hx hb dX4_findAges_127 (by decide) ?_
                                  refine lv_goto (tgt := 132) hx hb dX4_findAges_128 (by decide) ?_
                                  refine lv_istore_n (lv' := [(1, .int 1), (0, .ref (a 0)), (2, .int v2_78)]) hx hb dX4_findAges_132 rfl hl (by decide) rfl (fun ls hl => ?_)
                                  refine lv_iinc (v := (v2_78 + 1)) (lv' := [(2, .int (v2_78 + 1)), (1, .int 1), (0, .ref (a 0))]) hx hb dX4_findAges_133 hl (k := 2) rfl rfl (by decide) rfl (fun ls hl => ?_)
                                  refine lv_goto (tgt := 78) hx hb dX4_findAges_136 (by decide) ?_
                                  exact ih78 1 (v2_78 + 1) m_comeTo_117 m_greatest_117 m_least_117 m_nowGreatest_107 m_nowLeast_107 m_does_107 h _ _ hP hD hS _ (lv_sub hl [2, 1, 0] rfl)
                                · replace h := h.2 hc
                                  refine lv_iload_n hx hb dX4_findAges_123 rfl (lv_at hl 1 rfl) ?_
                                  refine lv_if_eq (tgt := 131) hx hb dX4_findAges_124 (by decide) (fun hc => ?_) (fun hc => ?_)
                                  · replace h := h.1 hc
                                    refine lv_iconst (v := 0) hx hb dX4_findAges_131 (by decide) ?_
                                    refine lv_istore_n (lv' := [(1, .int 0), (0, .ref (a 0)), (2, .int v2_78)]) hx hb dX4_findAges_132 rfl hl (by decide) rfl (fun ls hl => ?_)
                                    refine lv_iinc (v := (v2_78 + 1)) (lv' := [(2, .int (v2_78 + 1)), (1, .int 0), (0, .ref (a 0))]) hx hb dX4_findAges_133 hl (k := 2) rfl rfl (by decide) rfl (fun ls hl => ?_)
                                    refine lv_goto (tgt := 78) hx hb dX4_findAges_136 (by decide) ?_
                                    exact ih78 0 (v2_78 + 1) m_comeTo_117 m_greatest_117 m_least_117 m_nowGreatest_107 m_nowLeast_107 m_does_107 h _ _ hP hD hS _ (lv_sub hl [2, 1, 0] rfl)
                                  · replace h := h.2 hc
                                    refine lv_iconst (v := 1) hx hb dX4_findAges_127 (by decide) ?_
                                    refine lv_goto (tgt := 132) hx hb dX4_findAges_128 (by decide) ?_
                                    refine lv_istore_n (lv' := [(1, .int 1), (0, .ref (a 0)), (2, .int v2_78)]) hx hb dX4_findAges_132 rfl hl (by decide) rfl (fun ls hl => ?_)
                                    refine lv_iinc (v := (v2_78 + 1)) (lv' := [(2, .int (v2_78 + 1)), (1, .int 1), (0, .ref (a 0))]) hx hb dX4_findAges_133 hl (k := 2) rfl rfl (by decide) rfl (fun ls hl => ?_)
                                    refine lv_goto (tgt := 78) hx hb dX4_findAges_136 (by decide) ?_
                                    exact ih78 1 (v2_78 + 1) m_comeTo_117 m_greatest_117 m_least_117 m_nowGreatest_107 m_nowLeast_107 m_does_107 h _ _ hP hD hS _ (lv_sub hl [2, 1, 0] rfl)
                        obtain ⟨k9, h⟩ := h
                        exact LP78 k9 0 0 m_comeTo_70 m_greatest_70 m_least_70 m_nowGreatest_70 m_nowLeast_70 m_does_70 h _ _ hP hD hS _ (lv_sub hl [2, 1, 0] rfl)
                  obtain ⟨k9, h⟩ := h
                  exact LP70 k9 0 m_comeTo_58 m_greatest_58 m_least_58 m_nowGreatest_23 m_nowLeast_23 m_does h _ _ hP hD hS _ (lv_sub hl [1, 0] rfl)
                · replace h := h.2 hc
                  refine lv_iconst (v := 1) hx hb dX4_findAges_64 (by decide) ?_
                  refine lv_goto (tgt := 69) hx hb dX4_findAges_65 (by decide) ?_
                  refine lv_istore_n (lv' := [(1, .int 1), (0, .ref (a 0))]) hx hb dX4_findAges_69 rfl hl (by decide) rfl (fun ls hl => ?_)
                  have LP70 : ∀ (n70 : Nat) (v1_70 : Int32) (m_comeTo_70 : Nat → Int32) (m_greatest_70 : Nat → Int32) (m_least_70 : Nat → Int32) (m_nowGreatest_70 : Nat → Int32) (m_nowLeast_70 : Nat → Int32) (m_does_70 : Nat → Int32), lp_X4_findAges_70 m_sets m_ways m_penalty m_blocks m_edges m_lines m_time m_touchMany m_touch m_line m_from m_to m_mostTime m_leastTime Q n70 v1_70 m_comeTo_70 m_greatest_70 m_least_70 m_nowGreatest_70 m_nowLeast_70 m_does_70 → ∀ (H : Heap) (locs : List Loc), va_P D vwCl (wM a cI cZ cJ m_thrown m_sets m_ways m_penalty m_blocks m_edges m_pairs m_lines m_isFresh m_isAnswer m_time m_touchMany m_touch m_line m_from m_to m_bound m_pairA m_pairB m_comeTo_70 m_greatest_70 m_least_70 m_nowGreatest_70 m_nowLeast_70 m_does_70 m_mostTime m_leastTime m_countUnit m_flagUnit m_worst m_best m_stack) H → va_D A (wM a cI cZ cJ m_thrown m_sets m_ways m_penalty m_blocks m_edges m_pairs m_lines m_isFresh m_isAnswer m_time m_touchMany m_touch m_line m_from m_to m_bound m_pairA m_pairB m_comeTo_70 m_greatest_70 m_least_70 m_nowGreatest_70 m_nowLeast_70 m_does_70 m_mostTime m_leastTime m_countUnit m_flagUnit m_worst m_best m_stack) → va_S A s.heap H locs → ∀ (ls : Array Slot), lv_has ls 4 [(0, .ref (a 0)), (1, .int v1_70)] → W p l e (headSpec wsX4_findAges rm_X4_findAges).room s m ([Value.ref (a 0)] : List Value).toArray below meth c H locs 0 0 Qz (F0 m 70 ls []) := by
                    intro n70
                    induction n70 with
                    | zero => intro v1_70 m_comeTo_70 m_greatest_70 m_least_70 m_nowGreatest_70 m_nowLeast_70 m_does_70 h; exact h.elim
                    | succ n70 ih70 =>
                      intro v1_70 m_comeTo_70 m_greatest_70 m_least_70 m_nowGreatest_70 m_nowLeast_70 m_does_70 h H locs hP hD hS ls hl
                      unfold lp_X4_findAges_70 at h
                      refine lv_iload_n hx hb dX4_findAges_70 rfl (lv_at hl 1 rfl) ?_
                      refine lv_if_eq (tgt := 142) hx hb dX4_findAges_71 (by decide) (fun hc => ?_) (fun hc => ?_)
                      · replace h := h.1 hc
                        refine lv_iconst (v := 0) hx hb dX4_findAges_142 (by decide) ?_
                        refine lv_istore_n (lv' := [(2, .int 0), (0, .ref (a 0)), (1, .int v1_70)]) hx hb dX4_findAges_143 rfl hl (by decide) rfl (fun ls hl => ?_)
                        have LP144 : ∀ (n144 : Nat) (v2_144 : Int32) (m_nowGreatest_144 : Nat → Int32) (m_nowLeast_144 : Nat → Int32) (m_does_144 : Nat → Int32) (m_mostTime_144 : Nat → Int64) (m_leastTime_144 : Nat → Int64), lp_X4_findAges_144 m_sets m_ways m_penalty m_blocks m_edges m_lines m_time m_touchMany m_touch m_line m_from m_to m_comeTo_70 m_greatest_70 m_least_70 Q n144 v2_144 m_nowGreatest_144 m_nowLeast_144 m_does_144 m_mostTime_144 m_leastTime_144 → ∀ (H : Heap) (locs : List Loc), va_P D vwCl (wM a cI cZ cJ m_thrown m_sets m_ways m_penalty m_blocks m_edges m_pairs m_lines m_isFresh m_isAnswer m_time m_touchMany m_touch m_line m_from m_to m_bound m_pairA m_pairB m_comeTo_70 m_greatest_70 m_least_70 m_nowGreatest_144 m_nowLeast_144 m_does_144 m_mostTime_144 m_leastTime_144 m_countUnit m_flagUnit m_worst m_best m_stack) H → va_D A (wM a cI cZ cJ m_thrown m_sets m_ways m_penalty m_blocks m_edges m_pairs m_lines m_isFresh m_isAnswer m_time m_touchMany m_touch m_line m_from m_to m_bound m_pairA m_pairB m_comeTo_70 m_greatest_70 m_least_70 m_nowGreatest_144 m_nowLeast_144 m_does_144 m_mostTime_144 m_leastTime_144 m_countUnit m_flagUnit m_worst m_best m_stack) → va_S A s.heap H locs → ∀ (ls : Array Slot), lv_has ls 4 [(0, .ref (a 0)), (2, .int v2_144)] → W p l e (headSpec wsX4_findAges rm_X4_findAges).room s m ([Value.ref (a 0)] : List Value).toArray below meth c H locs 0 0 Qz (F0 m 144 ls []) := by
                          intro n144
                          induction n144 with
                          | zero => intro v2_144 m_nowGreatest_144 m_nowLeast_144 m_does_144 m_mostTime_144 m_leastTime_144 h; exact h.elim
                          | succ n144 ih144 =>
                            intro v2_144 m_nowGreatest_144 m_nowLeast_144 m_does_144 m_mostTime_144 m_leastTime_144 h H locs hP hD hS ls hl
                            unfold lp_X4_findAges_144 at h
                            refine lv_iload_n hx hb dX4_findAges_144 rfl (lv_at hl 1 rfl) ?_
                            refine lv_aload_n hx hb dX4_findAges_145 rfl (lv_at hl 0 rfl) ?_
                            refine va_get (D := D) (ci := 4) (v := .int m_blocks) (C := RX4) (T := TX4) (N := 32) hx hb hts hinX4 hown hK hP 0 rfl rfl 4 (by decide) (hts (.fieldLink RX4 106 "WorstPathsModel" "blocks" "I") (by decide +kernel)) (fun _ h9 => h9) rfl dX4_findAges_146 ?_
                            refine lv_icmp_ge (tgt := 314) hx hb dX4_findAges_149 (by decide) (fun hc => ?_) (fun hc => ?_)
                            · replace h := h.1 hc
                              refine wz_mono hQz ?_
                              exact W.vret hx hb hr (fun t ht hW => ⟨⟨(m_comeTo_70, m_greatest_70, m_least_70, m_nowGreatest_144, m_nowLeast_144, m_does_144, m_mostTime_144, m_leastTime_144), rfl, h, by rw [ht]; exact hP, va_K.moved hW.alike hK, hD⟩, hS.F ht⟩) hS.2.2 dX4_findAges_314
                            · replace h := h.2 hc
                              refine lv_aload_n hx hb dX4_findAges_152 rfl (lv_at hl 0 rfl) ?_
                              refine va_get (D := D) (ci := 4) (v := .ref (a 16)) (C := RX4) (T := TX4) (N := 32) hx hb hts hinX4 hown hK hP 0 rfl rfl 24 (by decide) (hts (.fieldLink RX4 56 "WorstPathsModel" "mostTime" "[J") (by decide +kernel)) (fun _ h9 => h9) rfl dX4_findAges_153 ?_
                              refine lv_iload_n hx hb dX4_findAges_156 rfl (lv_at hl 1 rfl) ?_
                              refine lv_aload_n hx hb dX4_findAges_157 rfl (lv_at hl 0 rfl) ?_
                              refine va_get (D := D) (ci := 4) (v := .ref (a 1)) (C := RX4) (T := TX4) (N := 32) hx hb hts hinX4 hown hK hP 0 rfl rfl 8 (by decide) (hts (.fieldLink RX4 7 "WorstPathsModel" "time" "[I") (by decide +kernel)) (fun _ h9 => h9) rfl dX4_findAges_158 ?_
                              refine lv_iload_n hx hb dX4_findAges_161 rfl (lv_at hl 1 rfl) ?_
                              obtain ⟨hq, h⟩ := h
                              refine va_iald (D := D) hx hb hK hP 1 0 rfl rfl hq dX4_findAges_162 ?_
                              refine lv_i2l hx hb dX4_findAges_163 rfl ?_
                              obtain ⟨hq, h⟩ := h
                              refine va_last (D := D) hx hb hK hP hD hS 16 2 rfl rfl hq dX4_findAges_164 (fun H locs hP hD hS => ?_)
                              have hP : va_P D vwCl (wM a cI cZ cJ m_thrown m_sets m_ways m_penalty m_blocks m_edges m_pairs m_lines m_isFresh m_isAnswer m_time m_touchMany m_touch m_line m_from m_to m_bound m_pairA m_pairB m_comeTo_70 m_greatest_70 m_least_70 m_nowGreatest_144 m_nowLeast_144 m_does_144 (vp_updL m_mostTime_144 (Int32.toNatClampNeg v2_144) (Int32.toInt64 (m_time (Int32.toNatClampNeg v2_144)))) m_leastTime_144 m_countUnit m_flagUnit m_worst m_best m_stack) H := hP
                              have hD : va_D A (wM a cI cZ cJ m_thrown m_sets m_ways m_penalty m_blocks m_edges m_pairs m_lines m_isFresh m_isAnswer m_time m_touchMany m_touch m_line m_from m_to m_bound m_pairA m_pairB m_comeTo_70 m_greatest_70 m_least_70 m_nowGreatest_144 m_nowLeast_144 m_does_144 (vp_updL m_mostTime_144 (Int32.toNatClampNeg v2_144) (Int32.toInt64 (m_time (Int32.toNatClampNeg v2_144)))) m_leastTime_144 m_countUnit m_flagUnit m_worst m_best m_stack) := hD
                              refine lv_aload_n hx hb dX4_findAges_165 rfl (lv_at hl 0 rfl) ?_
                              refine va_get (D := D) (ci := 4) (v := .ref (a 17)) (C := RX4) (T := TX4) (N := 32) hx hb hts hinX4 hown hK hP 0 rfl rfl 25 (by decide) (hts (.fieldLink RX4 60 "WorstPathsModel" "leastTime" "[J") (by decide +kernel)) (fun _ h9 => h9) rfl dX4_findAges_166 ?_
                              refine lv_iload_n hx hb dX4_findAges_169 rfl (lv_at hl 1 rfl) ?_
                              refine lv_aload_n hx hb dX4_findAges_170 rfl (lv_at hl 0 rfl) ?_
                              refine va_get (D := D) (ci := 4) (v := .ref (a 1)) (C := RX4) (T := TX4) (N := 32) hx hb hts hinX4 hown hK hP 0 rfl rfl 8 (by decide) (hts (.fieldLink RX4 7 "WorstPathsModel" "time" "[I") (by decide +kernel)) (fun _ h9 => h9) rfl dX4_findAges_171 ?_
                              refine lv_iload_n hx hb dX4_findAges_174 rfl (lv_at hl 1 rfl) ?_
                              obtain ⟨hq, h⟩ := h
                              refine va_iald (D := D) hx hb hK hP 1 0 rfl rfl hq dX4_findAges_175 ?_
                              refine lv_i2l hx hb dX4_findAges_176 rfl ?_
                              obtain ⟨hq, h⟩ := h
                              refine va_last (D := D) hx hb hK hP hD hS 17 2 rfl rfl hq dX4_findAges_177 (fun H locs hP hD hS => ?_)
                              have hP : va_P D vwCl (wM a cI cZ cJ m_thrown m_sets m_ways m_penalty m_blocks m_edges m_pairs m_lines m_isFresh m_isAnswer m_time m_touchMany m_touch m_line m_from m_to m_bound m_pairA m_pairB m_comeTo_70 m_greatest_70 m_least_70 m_nowGreatest_144 m_nowLeast_144 m_does_144 (vp_updL m_mostTime_144 (Int32.toNatClampNeg v2_144) (Int32.toInt64 (m_time (Int32.toNatClampNeg v2_144)))) (vp_updL m_leastTime_144 (Int32.toNatClampNeg v2_144) (Int32.toInt64 (m_time (Int32.toNatClampNeg v2_144)))) m_countUnit m_flagUnit m_worst m_best m_stack) H := hP
                              have hD : va_D A (wM a cI cZ cJ m_thrown m_sets m_ways m_penalty m_blocks m_edges m_pairs m_lines m_isFresh m_isAnswer m_time m_touchMany m_touch m_line m_from m_to m_bound m_pairA m_pairB m_comeTo_70 m_greatest_70 m_least_70 m_nowGreatest_144 m_nowLeast_144 m_does_144 (vp_updL m_mostTime_144 (Int32.toNatClampNeg v2_144) (Int32.toInt64 (m_time (Int32.toNatClampNeg v2_144)))) (vp_updL m_leastTime_144 (Int32.toNatClampNeg v2_144) (Int32.toInt64 (m_time (Int32.toNatClampNeg v2_144)))) m_countUnit m_flagUnit m_worst m_best m_stack) := hD
                              refine lv_aload_n hx hb dX4_findAges_178 rfl (lv_at hl 0 rfl) ?_
                              refine va_get (D := D) (ci := 4) (v := .ref (a 10)) (C := RX4) (T := TX4) (N := 32) hx hb hts hinX4 hown hK hP 0 rfl rfl 18 (by decide) (hts (.fieldLink RX4 37 "WorstPathsModel" "comeTo" "[Z") (by decide +kernel)) (fun _ h9 => h9) rfl dX4_findAges_179 ?_
                              refine lv_iload_n hx hb dX4_findAges_182 rfl (lv_at hl 1 rfl) ?_
                              obtain ⟨hq, h⟩ := h
                              refine va_zald (D := D) hx hb hK hP 10 1 rfl rfl hq dX4_findAges_183 ?_
                              refine lv_if_eq (tgt := 192) hx hb dX4_findAges_184 (by decide) (fun hc => ?_) (fun hc => ?_)
                              · replace h := h.1 hc
                                refine lv_bipush (v := 6) hx hb dX4_findAges_192 (by decide) ?_
                                refine lv_iload_n hx hb dX4_findAges_194 rfl (lv_at hl 1 rfl) ?_
                                refine lv_imul hx hb dX4_findAges_195 ?_
                                refine lv_istore_n (lv' := [(3, .int (6 * v2_144)), (0, .ref (a 0)), (2, .int v2_144)]) hx hb dX4_findAges_196 rfl hl (by decide) rfl (fun ls hl => ?_)
                                have LP197 : ∀ (n197 : Nat) (v3_197 : Int32) (m_does_197 : Nat → Int32) (m_mostTime_197 : Nat → Int64) (m_leastTime_197 : Nat → Int64), lp_X4_findAges_197 v2_144 m_sets m_ways m_penalty m_blocks m_edges m_lines m_time m_touchMany m_touch m_line m_from m_to m_comeTo_70 m_greatest_70 m_least_70 m_nowGreatest_144 m_nowLeast_144 (lp_X4_findAges_144 m_sets m_ways m_penalty m_blocks m_edges m_lines m_time m_touchMany m_touch m_line m_from m_to m_comeTo_70 m_greatest_70 m_least_70 Q n144) Q n197 v3_197 m_does_197 m_mostTime_197 m_leastTime_197 → ∀ (H : Heap) (locs : List Loc), va_P D vwCl (wM a cI cZ cJ m_thrown m_sets m_ways m_penalty m_blocks m_edges m_pairs m_lines m_isFresh m_isAnswer m_time m_touchMany m_touch m_line m_from m_to m_bound m_pairA m_pairB m_comeTo_70 m_greatest_70 m_least_70 m_nowGreatest_144 m_nowLeast_144 m_does_197 m_mostTime_197 m_leastTime_197 m_countUnit m_flagUnit m_worst m_best m_stack) H → va_D A (wM a cI cZ cJ m_thrown m_sets m_ways m_penalty m_blocks m_edges m_pairs m_lines m_isFresh m_isAnswer m_time m_touchMany m_touch m_line m_from m_to m_bound m_pairA m_pairB m_comeTo_70 m_greatest_70 m_least_70 m_nowGreatest_144 m_nowLeast_144 m_does_197 m_mostTime_197 m_leastTime_197 m_countUnit m_flagUnit m_worst m_best m_stack) → va_S A s.heap H locs → ∀ (ls : Array Slot), lv_has ls 4 [(0, .ref (a 0)), (2, .int v2_144), (3, .int v3_197)] → W p l e (headSpec wsX4_findAges rm_X4_findAges).room s m ([Value.ref (a 0)] : List Value).toArray below meth c H locs 0 0 Qz (F0 m 197 ls []) := by
                                  intro n197
                                  induction n197 with
                                  | zero => intro v3_197 m_does_197 m_mostTime_197 m_leastTime_197 h; exact h.elim
                                  | succ n197 ih197 =>
                                    intro v3_197 m_does_197 m_mostTime_197 m_leastTime_197 h H locs hP hD hS ls hl
                                    unfold lp_X4_findAges_197 at h
                                    refine lv_iload_n hx hb dX4_findAges_197 rfl (lv_at hl 2 rfl) ?_
                                    refine lv_bipush (v := 6) hx hb dX4_findAges_198 (by decide) ?_
                                    refine lv_iload_n hx hb dX4_findAges_200 rfl (lv_at hl 1 rfl) ?_
                                    refine lv_imul hx hb dX4_findAges_201 ?_
                                    refine lv_aload_n hx hb dX4_findAges_202 rfl (lv_at hl 0 rfl) ?_
                                    refine va_get (D := D) (ci := 4) (v := .ref (a 2)) (C := RX4) (T := TX4) (N := 32) hx hb hts hinX4 hown hK hP 0 rfl rfl 9 (by decide) (hts (.fieldLink RX4 13 "WorstPathsModel" "touchMany" "[I") (by decide +kernel)) (fun _ h9 => h9) rfl dX4_findAges_203 ?_
                                    refine lv_iload_n hx hb dX4_findAges_206 rfl (lv_at hl 1 rfl) ?_
                                    obtain ⟨hq, h⟩ := h
                                    refine va_iald (D := D) hx hb hK hP 2 0 rfl rfl hq dX4_findAges_207 ?_
                                    refine lv_iadd hx hb dX4_findAges_208 ?_
                                    refine lv_icmp_ge (tgt := 308) hx hb dX4_findAges_209 (by decide) (fun hc => ?_) (fun hc => ?_)
                                    · replace h := h.1 hc
                                      refine lv_iinc (v := (v2_144 + 1)) (lv' := [(2, .int (v2_144 + 1)), (0, .ref (a 0)), (3, .int v3_197)]) hx hb dX4_findAges_308 hl (k := 1) rfl rfl (by decide) rfl (fun ls hl => ?_)
                                      refine lv_goto (tgt := 144) hx hb dX4_findAges_311 (by decide) ?_
                                      exact ih144 (v2_144 + 1) m_nowGreatest_144 m_nowLeast_144 m_does_197 m_mostTime_197 m_leastTime_197 h _ _ hP hD hS _ (lv_sub hl [1, 0] rfl)
                                    · replace h := h.2 hc
                                      refine lv_aload_n hx hb dX4_findAges_212 rfl (lv_at hl 0 rfl) ?_
                                      refine va_get (D := D) (ci := 4) (v := .ref (a 15)) (C := RX4) (T := TX4) (N := 32) hx hb hts hinX4 hown hK hP 0 rfl rfl 23 (by decide) (hts (.fieldLink RX4 53 "WorstPathsModel" "does" "[I") (by decide +kernel)) (fun _ h9 => h9) rfl dX4_findAges_213 ?_
                                      refine lv_iload_n hx hb dX4_findAges_216 rfl (lv_at hl 2 rfl) ?_
                                      refine lv_aload_n hx hb dX4_findAges_217 rfl (lv_at hl 0 rfl) ?_
                                      refine va_get (D := D) (ci := 4) (v := .ref (a 10)) (C := RX4) (T := TX4) (N := 32) hx hb hts hinX4 hown hK hP 0 rfl rfl 18 (by decide) (hts (.fieldLink RX4 37 "WorstPathsModel" "comeTo" "[Z") (by decide +kernel)) (fun _ h9 => h9) rfl dX4_findAges_218 ?_
                                      refine lv_iload_n hx hb dX4_findAges_221 rfl (lv_at hl 1 rfl) ?_
                                      obtain ⟨hq, h⟩ := h
                                      refine va_zald (D := D) hx hb hK hP 10 1 rfl rfl hq dX4_findAges_222 ?_
                                      have JP236 : ∀ (t0_236 : Int32), jn_X4_findAges_236 v2_144 v3_197 m_sets m_ways m_penalty m_blocks m_edges m_lines m_time m_touchMany m_touch m_line m_from m_to m_comeTo_70 m_greatest_70 m_least_70 m_nowGreatest_144 m_nowLeast_144 m_does_197 m_mostTime_197 m_leastTime_197 t0_236 v3_197 (lp_X4_findAges_144 m_sets m_ways m_penalty m_blocks m_edges m_lines m_time m_touchMany m_touch m_line m_from m_to m_comeTo_70 m_greatest_70 m_least_70 Q n144) (lp_X4_findAges_197 v2_144 m_sets m_ways m_penalty m_blocks m_edges m_lines m_time m_touchMany m_touch m_line m_from m_to m_comeTo_70 m_greatest_70 m_least_70 m_nowGreatest_144 m_nowLeast_144 (lp_X4_findAges_144 m_sets m_ways m_penalty m_blocks m_edges m_lines m_time m_touchMany m_touch m_line m_from m_to m_comeTo_70 m_greatest_70 m_least_70 Q n144) Q n197) Q → ∀ (H : Heap) (locs : List Loc), va_P D vwCl (wM a cI cZ cJ m_thrown m_sets m_ways m_penalty m_blocks m_edges m_pairs m_lines m_isFresh m_isAnswer m_time m_touchMany m_touch m_line m_from m_to m_bound m_pairA m_pairB m_comeTo_70 m_greatest_70 m_least_70 m_nowGreatest_144 m_nowLeast_144 m_does_197 m_mostTime_197 m_leastTime_197 m_countUnit m_flagUnit m_worst m_best m_stack) H → va_D A (wM a cI cZ cJ m_thrown m_sets m_ways m_penalty m_blocks m_edges m_pairs m_lines m_isFresh m_isAnswer m_time m_touchMany m_touch m_line m_from m_to m_bound m_pairA m_pairB m_comeTo_70 m_greatest_70 m_least_70 m_nowGreatest_144 m_nowLeast_144 m_does_197 m_mostTime_197 m_leastTime_197 m_countUnit m_flagUnit m_worst m_best m_stack) → va_S A s.heap H locs → ∀ (ls : Array Slot), lv_has ls 4 [(0, .ref (a 0)), (2, .int v2_144), (3, .int v3_197)] → W p l e (headSpec wsX4_findAges rm_X4_findAges).room s m ([Value.ref (a 0)] : List Value).toArray below meth c H locs 0 0 Qz (F0 m 236 ls [.int t0_236, .int v3_197, .ref (a 15)]) := by
                                        intro t0_236 h H locs hP hD hS ls hl
                                        unfold jn_X4_findAges_236 at h
                                        obtain ⟨hq, h⟩ := h
                                        refine va_iast (D := D) hx hb hK hP hD hS 15 0 rfl rfl hq dX4_findAges_236 (fun H locs hP hD hS => ?_)
                                        have hP : va_P D vwCl (wM a cI cZ cJ m_thrown m_sets m_ways m_penalty m_blocks m_edges m_pairs m_lines m_isFresh m_isAnswer m_time m_touchMany m_touch m_line m_from m_to m_bound m_pairA m_pairB m_comeTo_70 m_greatest_70 m_least_70 m_nowGreatest_144 m_nowLeast_144 (upd m_does_197 (Int32.toNatClampNeg v3_197) t0_236) m_mostTime_197 m_leastTime_197 m_countUnit m_flagUnit m_worst m_best m_stack) H := hP
                                        have hD : va_D A (wM a cI cZ cJ m_thrown m_sets m_ways m_penalty m_blocks m_edges m_pairs m_lines m_isFresh m_isAnswer m_time m_touchMany m_touch m_line m_from m_to m_bound m_pairA m_pairB m_comeTo_70 m_greatest_70 m_least_70 m_nowGreatest_144 m_nowLeast_144 (upd m_does_197 (Int32.toNatClampNeg v3_197) t0_236) m_mostTime_197 m_leastTime_197 m_countUnit m_flagUnit m_worst m_best m_stack) := hD
                                        refine lv_aload_n hx hb dX4_findAges_237 rfl (lv_at hl 0 rfl) ?_
                                        refine va_get (D := D) (ci := 4) (v := .ref (a 16)) (C := RX4) (T := TX4) (N := 32) hx hb hts hinX4 hown hK hP 0 rfl rfl 24 (by decide) (hts (.fieldLink RX4 56 "WorstPathsModel" "mostTime" "[J") (by decide +kernel)) (fun _ h9 => h9) rfl dX4_findAges_238 ?_
                                        refine lv_iload_n hx hb dX4_findAges_241 rfl (lv_at hl 1 rfl) ?_
                                        refine lv_dup2_11 hx hb dX4_findAges_242 rfl rfl ?_
                                        obtain ⟨hq, h⟩ := h
                                        refine va_lald (D := D) hx hb hK hP 16 2 rfl rfl hq dX4_findAges_243 ?_
                                        refine lv_aload_n hx hb dX4_findAges_244 rfl (lv_at hl 0 rfl) ?_
                                        refine va_get (D := D) (ci := 4) (v := .ref (a 15)) (C := RX4) (T := TX4) (N := 32) hx hb hts hinX4 hown hK hP 0 rfl rfl 23 (by decide) (hts (.fieldLink RX4 53 "WorstPathsModel" "does" "[I") (by decide +kernel)) (fun _ h9 => h9) rfl dX4_findAges_245 ?_
                                        refine lv_iload_n hx hb dX4_findAges_248 rfl (lv_at hl 2 rfl) ?_
                                        obtain ⟨hq, h⟩ := h
                                        refine va_iald (D := D) hx hb hK hP 15 0 rfl rfl hq dX4_findAges_249 ?_
                                        refine lv_iconst (v := 2) hx hb dX4_findAges_250 (by decide) ?_
                                        have JP272 : ∀ (t0_272 : Int64), jn_X4_findAges_272 v2_144 v3_197 m_sets m_ways m_penalty m_blocks m_edges m_lines m_time m_touchMany m_touch m_line m_from m_to m_comeTo_70 m_greatest_70 m_least_70 m_nowGreatest_144 m_nowLeast_144 (upd m_does_197 (Int32.toNatClampNeg v3_197) t0_236) m_mostTime_197 m_leastTime_197 t0_272 (m_mostTime_197 (Int32.toNatClampNeg v2_144)) v2_144 (lp_X4_findAges_144 m_sets m_ways m_penalty m_blocks m_edges m_lines m_time m_touchMany m_touch m_line m_from m_to m_comeTo_70 m_greatest_70 m_least_70 Q n144) (lp_X4_findAges_197 v2_144 m_sets m_ways m_penalty m_blocks m_edges m_lines m_time m_touchMany m_touch m_line m_from m_to m_comeTo_70 m_greatest_70 m_least_70 m_nowGreatest_144 m_nowLeast_144 (lp_X4_findAges_144 m_sets m_ways m_penalty m_blocks m_edges m_lines m_time m_touchMany m_touch m_line m_from m_to m_comeTo_70 m_greatest_70 m_least_70 Q n144) Q n197) Q → ∀ (H : Heap) (locs : List Loc), va_P D vwCl (wM a cI cZ cJ m_thrown m_sets m_ways m_penalty m_blocks m_edges m_pairs m_lines m_isFresh m_isAnswer m_time m_touchMany m_touch m_line m_from m_to m_bound m_pairA m_pairB m_comeTo_70 m_greatest_70 m_least_70 m_nowGreatest_144 m_nowLeast_144 (upd m_does_197 (Int32.toNatClampNeg v3_197) t0_236) m_mostTime_197 m_leastTime_197 m_countUnit m_flagUnit m_worst m_best m_stack) H → va_D A (wM a cI cZ cJ m_thrown m_sets m_ways m_penalty m_blocks m_edges m_pairs m_lines m_isFresh m_isAnswer m_time m_touchMany m_touch m_line m_from m_to m_bound m_pairA m_pairB m_comeTo_70 m_greatest_70 m_least_70 m_nowGreatest_144 m_nowLeast_144 (upd m_does_197 (Int32.toNatClampNeg v3_197) t0_236) m_mostTime_197 m_leastTime_197 m_countUnit m_flagUnit m_worst m_best m_stack) → va_S A s.heap H locs → ∀ (ls : Array Slot), lv_has ls 4 [(0, .ref (a 0)), (2, .int v2_144), (3, .int v3_197)] → W p l e (headSpec wsX4_findAges rm_X4_findAges).room s m ([Value.ref (a 0)] : List Value).toArray below meth c H locs 0 0 Qz (F0 m 272 ls [.long t0_272, .long (m_mostTime_197 (Int32.toNatClampNeg v2_144)), .int v2_144, .ref (a 16)]) := by
                                          intro t0_272 h H locs hP hD hS ls hl
                                          unfold jn_X4_findAges_272 at h
                                          refine lv_ladd hx hb dX4_findAges_272 ?_
                                          obtain ⟨hq, h⟩ := h
                                          refine va_last (D := D) hx hb hK hP hD hS 16 2 rfl rfl hq dX4_findAges_273 (fun H locs hP hD hS => ?_)
                                          have hP : va_P D vwCl (wM a cI cZ cJ m_thrown m_sets m_ways m_penalty m_blocks m_edges m_pairs m_lines m_isFresh m_isAnswer m_time m_touchMany m_touch m_line m_from m_to m_bound m_pairA m_pairB m_comeTo_70 m_greatest_70 m_least_70 m_nowGreatest_144 m_nowLeast_144 (upd m_does_197 (Int32.toNatClampNeg v3_197) t0_236) (vp_updL m_mostTime_197 (Int32.toNatClampNeg v2_144) ((m_mostTime_197 (Int32.toNatClampNeg v2_144)) + t0_272)) m_leastTime_197 m_countUnit m_flagUnit m_worst m_best m_stack) H := hP
                                          have hD : va_D A (wM a cI cZ cJ m_thrown m_sets m_ways m_penalty m_blocks m_edges m_pairs m_lines m_isFresh m_isAnswer m_time m_touchMany m_touch m_line m_from m_to m_bound m_pairA m_pairB m_comeTo_70 m_greatest_70 m_least_70 m_nowGreatest_144 m_nowLeast_144 (upd m_does_197 (Int32.toNatClampNeg v3_197) t0_236) (vp_updL m_mostTime_197 (Int32.toNatClampNeg v2_144) ((m_mostTime_197 (Int32.toNatClampNeg v2_144)) + t0_272)) m_leastTime_197 m_countUnit m_flagUnit m_worst m_best m_stack) := hD
                                          refine lv_aload_n hx hb dX4_findAges_274 rfl (lv_at hl 0 rfl) ?_
                                          refine va_get (D := D) (ci := 4) (v := .ref (a 17)) (C := RX4) (T := TX4) (N := 32) hx hb hts hinX4 hown hK hP 0 rfl rfl 25 (by decide) (hts (.fieldLink RX4 60 "WorstPathsModel" "leastTime" "[J") (by decide +kernel)) (fun _ h9 => h9) rfl dX4_findAges_275 ?_
                                          refine lv_iload_n hx hb dX4_findAges_278 rfl (lv_at hl 1 rfl) ?_
                                          refine lv_dup2_11 hx hb dX4_findAges_279 rfl rfl ?_
                                          obtain ⟨hq, h⟩ := h
                                          refine va_lald (D := D) hx hb hK hP 17 2 rfl rfl hq dX4_findAges_280 ?_
                                          refine lv_aload_n hx hb dX4_findAges_281 rfl (lv_at hl 0 rfl) ?_
                                          refine va_get (D := D) (ci := 4) (v := .ref (a 15)) (C := RX4) (T := TX4) (N := 32) hx hb hts hinX4 hown hK hP 0 rfl rfl 23 (by decide) (hts (.fieldLink RX4 53 "WorstPathsModel" "does" "[I") (by decide +kernel)) (fun _ h9 => h9) rfl dX4_findAges_282 ?_
                                          refine lv_iload_n hx hb dX4_findAges_285 rfl (lv_at hl 2 rfl) ?_
                                          obtain ⟨hq, h⟩ := h
                                          refine va_iald (D := D) hx hb hK hP 15 0 rfl rfl hq dX4_findAges_286 ?_
                                          refine lv_iconst (v := 2) hx hb dX4_findAges_287 (by decide) ?_
                                          refine lv_icmp_ne (tgt := 299) hx hb dX4_findAges_288 (by decide) (fun hc => ?_) (fun hc => ?_)
                                          · replace h := h.1 hc
                                            refine lv_lconst (v := 0) hx hb dX4_findAges_299 (by decide) ?_
                                            refine lv_ladd hx hb dX4_findAges_300 ?_
                                            obtain ⟨hq, h⟩ := h
                                            refine va_last (D := D) hx hb hK hP hD hS 17 2 rfl rfl hq dX4_findAges_301 (fun H locs hP hD hS => ?_)
                                            have hP : va_P D vwCl (wM a cI cZ cJ m_thrown m_sets m_ways m_penalty m_blocks m_edges m_pairs m_lines m_isFresh m_isAnswer m_time m_touchMany m_touch m_line m_from m_to m_bound m_pairA m_pairB m_comeTo_70 m_greatest_70 m_least_70 m_nowGreatest_144 m_nowLeast_144 (upd m_does_197 (Int32.toNatClampNeg v3_197) t0_236) (vp_updL m_mostTime_197 (Int32.toNatClampNeg v2_144) ((m_mostTime_197 (Int32.toNatClampNeg v2_144)) + t0_272)) (vp_updL m_leastTime_197 (Int32.toNatClampNeg v2_144) ((m_leastTime_197 (Int32.toNatClampNeg v2_144)) + 0)) m_countUnit m_flagUnit m_worst m_best m_stack) H := hP
                                            have hD : va_D A (wM a cI cZ cJ m_thrown m_sets m_ways m_penalty m_blocks m_edges m_pairs m_lines m_isFresh m_isAnswer m_time m_touchMany m_touch m_line m_from m_to m_bound m_pairA m_pairB m_comeTo_70 m_greatest_70 m_least_70 m_nowGreatest_144 m_nowLeast_144 (upd m_does_197 (Int32.toNatClampNeg v3_197) t0_236) (vp_updL m_mostTime_197 (Int32.toNatClampNeg v2_144) ((m_mostTime_197 (Int32.toNatClampNeg v2_144)) + t0_272)) (vp_updL m_leastTime_197 (Int32.toNatClampNeg v2_144) ((m_leastTime_197 (Int32.toNatClampNeg v2_144)) + 0)) m_countUnit m_flagUnit m_worst m_best m_stack) := hD
                                            refine lv_iinc (v := (v3_197 + 1)) (lv' := [(3, .int (v3_197 + 1)), (0, .ref (a 0)), (2, .int v2_144)]) hx hb dX4_findAges_302 hl (k := 2) rfl rfl (by decide) rfl (fun ls hl => ?_)
                                            refine lv_goto (tgt := 197) hx hb dX4_findAges_305 (by decide) ?_
                                            exact ih197 (v3_197 + 1) (upd m_does_197 (Int32.toNatClampNeg v3_197) t0_236) (vp_updL m_mostTime_197 (Int32.toNatClampNeg v2_144) ((m_mostTime_197 (Int32.toNatClampNeg v2_144)) + t0_272)) (vp_updL m_leastTime_197 (Int32.toNatClampNeg v2_144) ((m_leastTime_197 (Int32.toNatClampNeg v2_144)) + 0)) h _ _ hP hD hS _ (lv_sub hl [1, 2, 0] rfl)
                                          · replace h := h.2 hc
                                            refine lv_aload_n hx hb dX4_findAges_291 rfl (lv_at hl 0 rfl) ?_
                                            refine va_get (D := D) (ci := 4) (v := .int m_penalty) (C := RX4) (T := TX4) (N := 32) hx hb hts hinX4 hown hK hP 0 rfl rfl 3 (by decide) (hts (.fieldLink RX4 91 "WorstPathsModel" "penalty" "I") (by decide +kernel)) (fun _ h9 => h9) rfl dX4_findAges_292 ?_
                                            refine lv_i2l hx hb dX4_findAges_295 rfl ?_
                                            refine lv_goto (tgt := 300) hx hb dX4_findAges_296 (by decide) ?_
                                            refine lv_ladd hx hb dX4_findAges_300 ?_
                                            obtain ⟨hq, h⟩ := h
                                            refine va_last (D := D) hx hb hK hP hD hS 17 2 rfl rfl hq dX4_findAges_301 (fun H locs hP hD hS => ?_)
                                            have hP : va_P D vwCl (wM a cI cZ cJ m_thrown m_sets m_ways m_penalty m_blocks m_edges m_pairs m_lines m_isFresh m_isAnswer m_time m_touchMany m_touch m_line m_from m_to m_bound m_pairA m_pairB m_comeTo_70 m_greatest_70 m_least_70 m_nowGreatest_144 m_nowLeast_144 (upd m_does_197 (Int32.toNatClampNeg v3_197) t0_236) (vp_updL m_mostTime_197 (Int32.toNatClampNeg v2_144) ((m_mostTime_197 (Int32.toNatClampNeg v2_144)) + t0_272)) (vp_updL m_leastTime_197 (Int32.toNatClampNeg v2_144) ((m_leastTime_197 (Int32.toNatClampNeg v2_144)) + (Int32.toInt64 m_penalty))) m_countUnit m_flagUnit m_worst m_best m_stack) H := hP
                                            have hD : va_D A (wM a cI cZ cJ m_thrown m_sets m_ways m_penalty m_blocks m_edges m_pairs m_lines m_isFresh m_isAnswer m_time m_touchMany m_touch m_line m_from m_to m_bound m_pairA m_pairB m_comeTo_70 m_greatest_70 m_least_70 m_nowGreatest_144 m_nowLeast_144 (upd m_does_197 (Int32.toNatClampNeg v3_197) t0_236) (vp_updL m_mostTime_197 (Int32.toNatClampNeg v2_144) ((m_mostTime_197 (Int32.toNatClampNeg v2_144)) + t0_272)) (vp_updL m_leastTime_197 (Int32.toNatClampNeg v2_144) ((m_leastTime_197 (Int32.toNatClampNeg v2_144)) + (Int32.toInt64 m_penalty))) m_countUnit m_flagUnit m_worst m_best m_stack) := hD
                                            refine lv_iinc (v := (v3_197 + 1)) (lv' := [(3, .int (v3_197 + 1)), (0, .ref (a 0)), (2, .int v2_144)]) hx hb dX4_findAges_302 hl (k := 2) rfl rfl (by decide) rfl (fun ls hl => ?_)
                                            refine lv_goto (tgt := 197) hx hb dX4_findAges_305 (by decide) ?_
                                            exact ih197 (v3_197 + 1) (upd m_does_197 (Int32.toNatClampNeg v3_197) t0_236) (vp_updL m_mostTime_197 (Int32.toNatClampNeg v2_144) ((m_mostTime_197 (Int32.toNatClampNeg v2_144)) + t0_272)) (vp_updL m_leastTime_197 (Int32.toNatClampNeg v2_144) ((m_leastTime_197 (Int32.toNatClampNeg v2_144)) + (Int32.toInt64 m_penalty))) h _ _ hP hD hS _ (lv_sub hl [1, 2, 0] rfl)
                                        refine lv_icmp_eq (tgt := 263) hx hb dX4_findAges_251 (by decide) (fun hc => ?_) (fun hc => ?_)
                                        · replace h := h.1 hc
                                          refine lv_aload_n hx hb dX4_findAges_263 rfl (lv_at hl 0 rfl) ?_
                                          refine va_get (D := D) (ci := 4) (v := .int m_penalty) (C := RX4) (T := TX4) (N := 32) hx hb hts hinX4 hown hK hP 0 rfl rfl 3 (by decide) (hts (.fieldLink RX4 91 "WorstPathsModel" "penalty" "I") (by decide +kernel)) (fun _ h9 => h9) rfl dX4_findAges_264 ?_
                                          refine lv_i2l hx hb dX4_findAges_267 rfl ?_
                                          refine lv_goto (tgt := 272) hx hb dX4_findAges_268 (by decide) ?_
                                          exact JP272 (Int32.toInt64 m_penalty) h _ _ hP hD hS _ (lv_sub hl [0, 1, 2] rfl)
                                        · replace h := h.2 hc
                                          refine lv_aload_n hx hb dX4_findAges_254 rfl (lv_at hl 0 rfl) ?_
                                          refine va_get (D := D) (ci := 4) (v := .ref (a 15)) (C := RX4) (T := TX4) (N := 32) hx hb hts hinX4 hown hK hP 0 rfl rfl 23 (by decide) (hts (.fieldLink RX4 53 "WorstPathsModel" "does" "[I") (by decide +kernel)) (fun _ h9 => h9) rfl dX4_findAges_255 ?_
                                          refine lv_iload_n hx hb dX4_findAges_258 rfl (lv_at hl 2 rfl) ?_
                                          obtain ⟨hq, h⟩ := h
                                          refine va_iald (D := D) hx hb hK hP 15 0 rfl rfl hq dX4_findAges_259 ?_
                                          refine lv_if_ne (tgt := 271) hx hb dX4_findAges_260 (by decide) (fun hc => ?_) (fun hc => ?_)
                                          · replace h := h.1 hc
                                            refine lv_lconst (v := 0) hx hb dX4_findAges_271 (by decide) ?_
                                            exact JP272 0 h _ _ hP hD hS _ (lv_sub hl [0, 1, 2] rfl)
                                          · replace h := h.2 hc
                                            refine lv_aload_n hx hb dX4_findAges_263 rfl (lv_at hl 0 rfl) ?_
                                            refine va_get (D := D) (ci := 4) (v := .int m_penalty) (C := RX4) (T := TX4) (N := 32) hx hb hts hinX4 hown hK hP 0 rfl rfl 3 (by decide) (hts (.fieldLink RX4 91 "WorstPathsModel" "penalty" "I") (by decide +kernel)) (fun _ h9 => h9) rfl dX4_findAges_264 ?_
                                            refine lv_i2l hx hb dX4_findAges_267 rfl ?_
                                            refine lv_goto (tgt := 272) hx hb dX4_findAges_268 (by decide) ?_
                                            exact JP272 (Int32.toInt64 m_penalty) h _ _ hP hD hS _ (lv_sub hl [0, 1, 2] rfl)
                                      refine lv_if_eq (tgt := 235) hx hb dX4_findAges_223 (by decide) (fun hc => ?_) (fun hc => ?_)
                                      · replace h := h.1 hc
                                        refine lv_iconst (v := (-1)) hx hb dX4_findAges_235 (by decide) ?_
                                        exact JP236 (-1) h _ _ hP hD hS _ (lv_sub hl [0, 1, 2] rfl)
                                      · replace h := h.2 hc
                                        refine lv_aload_n hx hb dX4_findAges_226 rfl (lv_at hl 0 rfl) ?_
                                        refine va_get (D := D) (ci := 4) (v := .ref (a 15)) (C := RX4) (T := TX4) (N := 32) hx hb hts hinX4 hown hK hP 0 rfl rfl 23 (by decide) (hts (.fieldLink RX4 53 "WorstPathsModel" "does" "[I") (by decide +kernel)) (fun _ h9 => h9) rfl dX4_findAges_227 ?_
                                        refine lv_iload_n hx hb dX4_findAges_230 rfl (lv_at hl 2 rfl) ?_
                                        obtain ⟨hq, h⟩ := h
                                        refine va_iald (D := D) hx hb hK hP 15 0 rfl rfl hq dX4_findAges_231 ?_
                                        refine lv_goto (tgt := 236) hx hb dX4_findAges_232 (by decide) ?_
                                        exact JP236 (m_does_197 (Int32.toNatClampNeg v3_197)) h _ _ hP hD hS _ (lv_sub hl [0, 1, 2] rfl)
                                obtain ⟨k9, h⟩ := h
                                exact LP197 k9 (6 * v2_144) m_does_144 (vp_updL m_mostTime_144 (Int32.toNatClampNeg v2_144) (Int32.toInt64 (m_time (Int32.toNatClampNeg v2_144)))) (vp_updL m_leastTime_144 (Int32.toNatClampNeg v2_144) (Int32.toInt64 (m_time (Int32.toNatClampNeg v2_144)))) h _ _ hP hD hS _ (lv_sub hl [1, 2, 0] rfl)
                              · replace h := h.2 hc
                                refine lv_aload_n hx hb dX4_findAges_187 rfl (lv_at hl 0 rfl) ?_
                                refine lv_iload_n hx hb dX4_findAges_188 rfl (lv_at hl 1 rfl) ?_
                                have hF := wz_free hD hS hA
                                refine va_callv (va_runV (As := [.int v2_144]) (rest := []) ⟨hx, hb, hml, hown, hts⟩ (c_X4_goThrough l D a cI cZ cJ _ m_thrown m_sets m_ways m_penalty m_blocks m_edges m_pairs m_lines m_isFresh m_isAnswer m_time m_touchMany m_touch m_line m_from m_to m_bound m_pairA m_pairB m_comeTo_70 m_greatest_70 m_least_70 m_nowGreatest_144 m_nowLeast_144 m_does_144 (vp_updL m_mostTime_144 (Int32.toNatClampNeg v2_144) (Int32.toInt64 (m_time (Int32.toNatClampNeg v2_144)))) (vp_updL m_leastTime_144 (Int32.toNatClampNeg v2_144) (Int32.toInt64 (m_time (Int32.toNatClampNeg v2_144)))) m_countUnit m_flagUnit m_worst m_best m_stack v2_144 _ h) (cwV 1 hts gX4_findAges_X4_goThrough rfl rfl rfl (by decide +kernel) ⟨Nat.le_of_ble_eq_true rfl, Nat.le_of_ble_eq_true rfl⟩) ⟨wz_blind, va_recv hK hP (ci := 4) (q0 := 0) rfl rfl, fun U hU hW => wz_at hU hW hP hK hD⟩ rfl rfl hl.1 rfl (lv_room (Nat.le_of_ble_eq_true rfl)) dX4_findAges_189 ⟨Nat.zero_le _, Nat.zero_le _⟩) hS (fun q _ hq => hF q hq) hF (fun u t H locs ht hvm h hB hz1 hk1 hS => ?_)
                                obtain ⟨m_nowGreatest_189, m_nowLeast_189, m_does_189⟩ := u
                                dsimp only at h hB
                                obtain ⟨hP, -, hD⟩ := wz_back ht hF hB
                                have hP : va_P D vwCl (wM a cI cZ cJ m_thrown m_sets m_ways m_penalty m_blocks m_edges m_pairs m_lines m_isFresh m_isAnswer m_time m_touchMany m_touch m_line m_from m_to m_bound m_pairA m_pairB m_comeTo_70 m_greatest_70 m_least_70 m_nowGreatest_189 m_nowLeast_189 m_does_189 (vp_updL m_mostTime_144 (Int32.toNatClampNeg v2_144) (Int32.toInt64 (m_time (Int32.toNatClampNeg v2_144)))) (vp_updL m_leastTime_144 (Int32.toNatClampNeg v2_144) (Int32.toInt64 (m_time (Int32.toNatClampNeg v2_144)))) m_countUnit m_flagUnit m_worst m_best m_stack) H := hP
                                have hD : va_D A (wM a cI cZ cJ m_thrown m_sets m_ways m_penalty m_blocks m_edges m_pairs m_lines m_isFresh m_isAnswer m_time m_touchMany m_touch m_line m_from m_to m_bound m_pairA m_pairB m_comeTo_70 m_greatest_70 m_least_70 m_nowGreatest_189 m_nowLeast_189 m_does_189 (vp_updL m_mostTime_144 (Int32.toNatClampNeg v2_144) (Int32.toInt64 (m_time (Int32.toNatClampNeg v2_144)))) (vp_updL m_leastTime_144 (Int32.toNatClampNeg v2_144) (Int32.toInt64 (m_time (Int32.toNatClampNeg v2_144)))) m_countUnit m_flagUnit m_worst m_best m_stack) := hD
                                refine lv_bipush (v := 6) hx hb dX4_findAges_192 (by decide) ?_
                                refine lv_iload_n hx hb dX4_findAges_194 rfl (lv_at hl 1 rfl) ?_
                                refine lv_imul hx hb dX4_findAges_195 ?_
                                refine lv_istore_n (lv' := [(3, .int (6 * v2_144)), (0, .ref (a 0)), (2, .int v2_144)]) hx hb dX4_findAges_196 rfl hl (by decide) rfl (fun ls hl => ?_)
                                have LP197 : ∀ (n197 : Nat) (v3_197 : Int32) (m_does_197 : Nat → Int32) (m_mostTime_197 : Nat → Int64) (m_leastTime_197 : Nat → Int64), lp_X4_findAges_197 v2_144 m_sets m_ways m_penalty m_blocks m_edges m_lines m_time m_touchMany m_touch m_line m_from m_to m_comeTo_70 m_greatest_70 m_least_70 m_nowGreatest_189 m_nowLeast_189 (lp_X4_findAges_144 m_sets m_ways m_penalty m_blocks m_edges m_lines m_time m_touchMany m_touch m_line m_from m_to m_comeTo_70 m_greatest_70 m_least_70 Q n144) Q n197 v3_197 m_does_197 m_mostTime_197 m_leastTime_197 → ∀ (H : Heap) (locs : List Loc), va_P D vwCl (wM a cI cZ cJ m_thrown m_sets m_ways m_penalty m_blocks m_edges m_pairs m_lines m_isFresh m_isAnswer m_time m_touchMany m_touch m_line m_from m_to m_bound m_pairA m_pairB m_comeTo_70 m_greatest_70 m_least_70 m_nowGreatest_189 m_nowLeast_189 m_does_197 m_mostTime_197 m_leastTime_197 m_countUnit m_flagUnit m_worst m_best m_stack) H → va_D A (wM a cI cZ cJ m_thrown m_sets m_ways m_penalty m_blocks m_edges m_pairs m_lines m_isFresh m_isAnswer m_time m_touchMany m_touch m_line m_from m_to m_bound m_pairA m_pairB m_comeTo_70 m_greatest_70 m_least_70 m_nowGreatest_189 m_nowLeast_189 m_does_197 m_mostTime_197 m_leastTime_197 m_countUnit m_flagUnit m_worst m_best m_stack) → va_S A s.heap H locs → ∀ (ls : Array Slot), lv_has ls 4 [(0, .ref (a 0)), (2, .int v2_144), (3, .int v3_197)] → W p l e (headSpec wsX4_findAges rm_X4_findAges).room s m ([Value.ref (a 0)] : List Value).toArray below meth c H locs 0 0 Qz (F0 m 197 ls []) := by
                                  intro n197
                                  induction n197 with
                                  | zero => intro v3_197 m_does_197 m_mostTime_197 m_leastTime_197 h; exact h.elim
                                  | succ n197 ih197 =>
                                    intro v3_197 m_does_197 m_mostTime_197 m_leastTime_197 h H locs hP hD hS ls hl
                                    unfold lp_X4_findAges_197 at h
                                    refine lv_iload_n hx hb dX4_findAges_197 rfl (lv_at hl 2 rfl) ?_
                                    refine lv_bipush (v := 6) hx hb dX4_findAges_198 (by decide) ?_
                                    refine lv_iload_n hx hb dX4_findAges_200 rfl (lv_at hl 1 rfl) ?_
                                    refine lv_imul hx hb dX4_findAges_201 ?_
                                    refine lv_aload_n hx hb dX4_findAges_202 rfl (lv_at hl 0 rfl) ?_
                                    refine va_get (D := D) (ci := 4) (v := .ref (a 2)) (C := RX4) (T := TX4) (N := 32) hx hb hts hinX4 hown hK hP 0 rfl rfl 9 (by decide) (hts (.fieldLink RX4 13 "WorstPathsModel" "touchMany" "[I") (by decide +kernel)) (fun _ h9 => h9) rfl dX4_findAges_203 ?_
                                    refine lv_iload_n hx hb dX4_findAges_206 rfl (lv_at hl 1 rfl) ?_
                                    obtain ⟨hq, h⟩ := h
                                    refine va_iald (D := D) hx hb hK hP 2 0 rfl rfl hq dX4_findAges_207 ?_
                                    refine lv_iadd hx hb dX4_findAges_208 ?_
                                    refine lv_icmp_ge (tgt := 308) hx hb dX4_findAges_209 (by decide) (fun hc => ?_) (fun hc => ?_)
                                    · replace h := h.1 hc
                                      refine lv_iinc (v := (v2_144 + 1)) (lv' := [(2, .int (v2_144 + 1)), (0, .ref (a 0)), (3, .int v3_197)]) hx hb dX4_findAges_308 hl (k := 1) rfl rfl (by decide) rfl (fun ls hl => ?_)
                                      refine lv_goto (tgt := 144) hx hb dX4_findAges_311 (by decide) ?_
                                      exact ih144 (v2_144 + 1) m_nowGreatest_189 m_nowLeast_189 m_does_197 m_mostTime_197 m_leastTime_197 h _ _ hP hD hS _ (lv_sub hl [1, 0] rfl)
                                    · replace h := h.2 hc
                                      refine lv_aload_n hx hb dX4_findAges_212 rfl (lv_at hl 0 rfl) ?_
                                      refine va_get (D := D) (ci := 4) (v := .ref (a 15)) (C := RX4) (T := TX4) (N := 32) hx hb hts hinX4 hown hK hP 0 rfl rfl 23 (by decide) (hts (.fieldLink RX4 53 "WorstPathsModel" "does" "[I") (by decide +kernel)) (fun _ h9 => h9) rfl dX4_findAges_213 ?_
                                      refine lv_iload_n hx hb dX4_findAges_216 rfl (lv_at hl 2 rfl) ?_
                                      refine lv_aload_n hx hb dX4_findAges_217 rfl (lv_at hl 0 rfl) ?_
                                      refine va_get (D := D) (ci := 4) (v := .ref (a 10)) (C := RX4) (T := TX4) (N := 32) hx hb hts hinX4 hown hK hP 0 rfl rfl 18 (by decide) (hts (.fieldLink RX4 37 "WorstPathsModel" "comeTo" "[Z") (by decide +kernel)) (fun _ h9 => h9) rfl dX4_findAges_218 ?_
                                      refine lv_iload_n hx hb dX4_findAges_221 rfl (lv_at hl 1 rfl) ?_
                                      obtain ⟨hq, h⟩ := h
                                      refine va_zald (D := D) hx hb hK hP 10 1 rfl rfl hq dX4_findAges_222 ?_
                                      have JP236 : ∀ (t0_236 : Int32), jn_X4_findAges_236 v2_144 v3_197 m_sets m_ways m_penalty m_blocks m_edges m_lines m_time m_touchMany m_touch m_line m_from m_to m_comeTo_70 m_greatest_70 m_least_70 m_nowGreatest_189 m_nowLeast_189 m_does_197 m_mostTime_197 m_leastTime_197 t0_236 v3_197 (lp_X4_findAges_144 m_sets m_ways m_penalty m_blocks m_edges m_lines m_time m_touchMany m_touch m_line m_from m_to m_comeTo_70 m_greatest_70 m_least_70 Q n144) (lp_X4_findAges_197 v2_144 m_sets m_ways m_penalty m_blocks m_edges m_lines m_time m_touchMany m_touch m_line m_from m_to m_comeTo_70 m_greatest_70 m_least_70 m_nowGreatest_189 m_nowLeast_189 (lp_X4_findAges_144 m_sets m_ways m_penalty m_blocks m_edges m_lines m_time m_touchMany m_touch m_line m_from m_to m_comeTo_70 m_greatest_70 m_least_70 Q n144) Q n197) Q → ∀ (H : Heap) (locs : List Loc), va_P D vwCl (wM a cI cZ cJ m_thrown m_sets m_ways m_penalty m_blocks m_edges m_pairs m_lines m_isFresh m_isAnswer m_time m_touchMany m_touch m_line m_from m_to m_bound m_pairA m_pairB m_comeTo_70 m_greatest_70 m_least_70 m_nowGreatest_189 m_nowLeast_189 m_does_197 m_mostTime_197 m_leastTime_197 m_countUnit m_flagUnit m_worst m_best m_stack) H → va_D A (wM a cI cZ cJ m_thrown m_sets m_ways m_penalty m_blocks m_edges m_pairs m_lines m_isFresh m_isAnswer m_time m_touchMany m_touch m_line m_from m_to m_bound m_pairA m_pairB m_comeTo_70 m_greatest_70 m_least_70 m_nowGreatest_189 m_nowLeast_189 m_does_197 m_mostTime_197 m_leastTime_197 m_countUnit m_flagUnit m_worst m_best m_stack) → va_S A s.heap H locs → ∀ (ls : Array Slot), lv_has ls 4 [(0, .ref (a 0)), (2, .int v2_144), (3, .int v3_197)] → W p l e (headSpec wsX4_findAges rm_X4_findAges).room s m ([Value.ref (a 0)] : List Value).toArray below meth c H locs 0 0 Qz (F0 m 236 ls [.int t0_236, .int v3_197, .ref (a 15)]) := by
                                        intro t0_236 h H locs hP hD hS ls hl
                                        unfold jn_X4_findAges_236 at h
                                        obtain ⟨hq, h⟩ := h
                                        refine va_iast (D := D) hx hb hK hP hD hS 15 0 rfl rfl hq dX4_findAges_236 (fun H locs hP hD hS => ?_)
                                        have hP : va_P D vwCl (wM a cI cZ cJ m_thrown m_sets m_ways m_penalty m_blocks m_edges m_pairs m_lines m_isFresh m_isAnswer m_time m_touchMany m_touch m_line m_from m_to m_bound m_pairA m_pairB m_comeTo_70 m_greatest_70 m_least_70 m_nowGreatest_189 m_nowLeast_189 (upd m_does_197 (Int32.toNatClampNeg v3_197) t0_236) m_mostTime_197 m_leastTime_197 m_countUnit m_flagUnit m_worst m_best m_stack) H := hP
                                        have hD : va_D A (wM a cI cZ cJ m_thrown m_sets m_ways m_penalty m_blocks m_edges m_pairs m_lines m_isFresh m_isAnswer m_time m_touchMany m_touch m_line m_from m_to m_bound m_pairA m_pairB m_comeTo_70 m_greatest_70 m_least_70 m_nowGreatest_189 m_nowLeast_189 (upd m_does_197 (Int32.toNatClampNeg v3_197) t0_236) m_mostTime_197 m_leastTime_197 m_countUnit m_flagUnit m_worst m_best m_stack) := hD
                                        refine lv_aload_n hx hb dX4_findAges_237 rfl (lv_at hl 0 rfl) ?_
                                        refine va_get (D := D) (ci := 4) (v := .ref (a 16)) (C := RX4) (T := TX4) (N := 32) hx hb hts hinX4 hown hK hP 0 rfl rfl 24 (by decide) (hts (.fieldLink RX4 56 "WorstPathsModel" "mostTime" "[J") (by decide +kernel)) (fun _ h9 => h9) rfl dX4_findAges_238 ?_
                                        refine lv_iload_n hx hb dX4_findAges_241 rfl (lv_at hl 1 rfl) ?_
                                        refine lv_dup2_11 hx hb dX4_findAges_242 rfl rfl ?_
                                        obtain ⟨hq, h⟩ := h
                                        refine va_lald (D := D) hx hb hK hP 16 2 rfl rfl hq dX4_findAges_243 ?_
                                        refine lv_aload_n hx hb dX4_findAges_244 rfl (lv_at hl 0 rfl) ?_
                                        refine va_get (D := D) (ci := 4) (v := .ref (a 15)) (C := RX4) (T := TX4) (N := 32) hx hb hts hinX4 hown hK hP 0 rfl rfl 23 (by decide) (hts (.fieldLink RX4 53 "WorstPathsModel" "does" "[I") (by decide +kernel)) (fun _ h9 => h9) rfl dX4_findAges_245 ?_
                                        refine lv_iload_n hx hb dX4_findAges_248 rfl (lv_at hl 2 rfl) ?_
                                        obtain ⟨hq, h⟩ := h
                                        refine va_iald (D := D) hx hb hK hP 15 0 rfl rfl hq dX4_findAges_249 ?_
                                        refine lv_iconst (v := 2) hx hb dX4_findAges_250 (by decide) ?_
                                        have JP272 : ∀ (t0_272 : Int64), jn_X4_findAges_272 v2_144 v3_197 m_sets m_ways m_penalty m_blocks m_edges m_lines m_time m_touchMany m_touch m_line m_from m_to m_comeTo_70 m_greatest_70 m_least_70 m_nowGreatest_189 m_nowLeast_189 (upd m_does_197 (Int32.toNatClampNeg v3_197) t0_236) m_mostTime_197 m_leastTime_197 t0_272 (m_mostTime_197 (Int32.toNatClampNeg v2_144)) v2_144 (lp_X4_findAges_144 m_sets m_ways m_penalty m_blocks m_edges m_lines m_time m_touchMany m_touch m_line m_from m_to m_comeTo_70 m_greatest_70 m_least_70 Q n144) (lp_X4_findAges_197 v2_144 m_sets m_ways m_penalty m_blocks m_edges m_lines m_time m_touchMany m_touch m_line m_from m_to m_comeTo_70 m_greatest_70 m_least_70 m_nowGreatest_189 m_nowLeast_189 (lp_X4_findAges_144 m_sets m_ways m_penalty m_blocks m_edges m_lines m_time m_touchMany m_touch m_line m_from m_to m_comeTo_70 m_greatest_70 m_least_70 Q n144) Q n197) Q → ∀ (H : Heap) (locs : List Loc), va_P D vwCl (wM a cI cZ cJ m_thrown m_sets m_ways m_penalty m_blocks m_edges m_pairs m_lines m_isFresh m_isAnswer m_time m_touchMany m_touch m_line m_from m_to m_bound m_pairA m_pairB m_comeTo_70 m_greatest_70 m_least_70 m_nowGreatest_189 m_nowLeast_189 (upd m_does_197 (Int32.toNatClampNeg v3_197) t0_236) m_mostTime_197 m_leastTime_197 m_countUnit m_flagUnit m_worst m_best m_stack) H → va_D A (wM a cI cZ cJ m_thrown m_sets m_ways m_penalty m_blocks m_edges m_pairs m_lines m_isFresh m_isAnswer m_time m_touchMany m_touch m_line m_from m_to m_bound m_pairA m_pairB m_comeTo_70 m_greatest_70 m_least_70 m_nowGreatest_189 m_nowLeast_189 (upd m_does_197 (Int32.toNatClampNeg v3_197) t0_236) m_mostTime_197 m_leastTime_197 m_countUnit m_flagUnit m_worst m_best m_stack) → va_S A s.heap H locs → ∀ (ls : Array Slot), lv_has ls 4 [(0, .ref (a 0)), (2, .int v2_144), (3, .int v3_197)] → W p l e (headSpec wsX4_findAges rm_X4_findAges).room s m ([Value.ref (a 0)] : List Value).toArray below meth c H locs 0 0 Qz (F0 m 272 ls [.long t0_272, .long (m_mostTime_197 (Int32.toNatClampNeg v2_144)), .int v2_144, .ref (a 16)]) := by
                                          intro t0_272 h H locs hP hD hS ls hl
                                          unfold jn_X4_findAges_272 at h
                                          refine lv_ladd hx hb dX4_findAges_272 ?_
                                          obtain ⟨hq, h⟩ := h
                                          refine va_last (D := D) hx hb hK hP hD hS 16 2 rfl rfl hq dX4_findAges_273 (fun H locs hP hD hS => ?_)
                                          have hP : va_P D vwCl (wM a cI cZ cJ m_thrown m_sets m_ways m_penalty m_blocks m_edges m_pairs m_lines m_isFresh m_isAnswer m_time m_touchMany m_touch m_line m_from m_to m_bound m_pairA m_pairB m_comeTo_70 m_greatest_70 m_least_70 m_nowGreatest_189 m_nowLeast_189 (upd m_does_197 (Int32.toNatClampNeg v3_197) t0_236) (vp_updL m_mostTime_197 (Int32.toNatClampNeg v2_144) ((m_mostTime_197 (Int32.toNatClampNeg v2_144)) + t0_272)) m_leastTime_197 m_countUnit m_flagUnit m_worst m_best m_stack) H := hP
                                          have hD : va_D A (wM a cI cZ cJ m_thrown m_sets m_ways m_penalty m_blocks m_edges m_pairs m_lines m_isFresh m_isAnswer m_time m_touchMany m_touch m_line m_from m_to m_bound m_pairA m_pairB m_comeTo_70 m_greatest_70 m_least_70 m_nowGreatest_189 m_nowLeast_189 (upd m_does_197 (Int32.toNatClampNeg v3_197) t0_236) (vp_updL m_mostTime_197 (Int32.toNatClampNeg v2_144) ((m_mostTime_197 (Int32.toNatClampNeg v2_144)) + t0_272)) m_leastTime_197 m_countUnit m_flagUnit m_worst m_best m_stack) := hD
                                          refine lv_aload_n hx hb dX4_findAges_274 rfl (lv_at hl 0 rfl) ?_
                                          refine va_get (D := D) (ci := 4) (v := .ref (a 17)) (C := RX4) (T := TX4) (N := 32) hx hb hts hinX4 hown hK hP 0 rfl rfl 25 (by decide) (hts (.fieldLink RX4 60 "WorstPathsModel" "leastTime" "[J") (by decide +kernel)) (fun _ h9 => h9) rfl dX4_findAges_275 ?_
                                          refine lv_iload_n hx hb dX4_findAges_278 rfl (lv_at hl 1 rfl) ?_
                                          refine lv_dup2_11 hx hb dX4_findAges_279 rfl rfl ?_
                                          obtain ⟨hq, h⟩ := h
                                          refine va_lald (D := D) hx hb hK hP 17 2 rfl rfl hq dX4_findAges_280 ?_
                                          refine lv_aload_n hx hb dX4_findAges_281 rfl (lv_at hl 0 rfl) ?_
                                          refine va_get (D := D) (ci := 4) (v := .ref (a 15)) (C := RX4) (T := TX4) (N := 32) hx hb hts hinX4 hown hK hP 0 rfl rfl 23 (by decide) (hts (.fieldLink RX4 53 "WorstPathsModel" "does" "[I") (by decide +kernel)) (fun _ h9 => h9) rfl dX4_findAges_282 ?_
                                          refine lv_iload_n hx hb dX4_findAges_285 rfl (lv_at hl 2 rfl) ?_
                                          obtain ⟨hq, h⟩ := h
                                          refine va_iald (D := D) hx hb hK hP 15 0 rfl rfl hq dX4_findAges_286 ?_
                                          refine lv_iconst (v := 2) hx hb dX4_findAges_287 (by decide) ?_
                                          refine lv_icmp_ne (tgt := 299) hx hb dX4_findAges_288 (by decide) (fun hc => ?_) (fun hc => ?_)
                                          · replace h := h.1 hc
                                            refine lv_lconst (v := 0) hx hb dX4_findAges_299 (by decide) ?_
                                            refine lv_ladd hx hb dX4_findAges_300 ?_
                                            obtain ⟨hq, h⟩ := h
                                            refine va_last (D := D) hx hb hK hP hD hS 17 2 rfl rfl hq dX4_findAges_301 (fun H locs hP hD hS => ?_)
                                            have hP : va_P D vwCl (wM a cI cZ cJ m_thrown m_sets m_ways m_penalty m_blocks m_edges m_pairs m_lines m_isFresh m_isAnswer m_time m_touchMany m_touch m_line m_from m_to m_bound m_pairA m_pairB m_comeTo_70 m_greatest_70 m_least_70 m_nowGreatest_189 m_nowLeast_189 (upd m_does_197 (Int32.toNatClampNeg v3_197) t0_236) (vp_updL m_mostTime_197 (Int32.toNatClampNeg v2_144) ((m_mostTime_197 (Int32.toNatClampNeg v2_144)) + t0_272)) (vp_updL m_leastTime_197 (Int32.toNatClampNeg v2_144) ((m_leastTime_197 (Int32.toNatClampNeg v2_144)) + 0)) m_countUnit m_flagUnit m_worst m_best m_stack) H := hP
                                            have hD : va_D A (wM a cI cZ cJ m_thrown m_sets m_ways m_penalty m_blocks m_edges m_pairs m_lines m_isFresh m_isAnswer m_time m_touchMany m_touch m_line m_from m_to m_bound m_pairA m_pairB m_comeTo_70 m_greatest_70 m_least_70 m_nowGreatest_189 m_nowLeast_189 (upd m_does_197 (Int32.toNatClampNeg v3_197) t0_236) (vp_updL m_mostTime_197 (Int32.toNatClampNeg v2_144) ((m_mostTime_197 (Int32.toNatClampNeg v2_144)) + t0_272)) (vp_updL m_leastTime_197 (Int32.toNatClampNeg v2_144) ((m_leastTime_197 (Int32.toNatClampNeg v2_144)) + 0)) m_countUnit m_flagUnit m_worst m_best m_stack) := hD
                                            refine lv_iinc (v := (v3_197 + 1)) (lv' := [(3, .int (v3_197 + 1)), (0, .ref (a 0)), (2, .int v2_144)]) hx hb dX4_findAges_302 hl (k := 2) rfl rfl (by decide) rfl (fun ls hl => ?_)
                                            refine lv_goto (tgt := 197) hx hb dX4_findAges_305 (by decide) ?_
                                            exact ih197 (v3_197 + 1) (upd m_does_197 (Int32.toNatClampNeg v3_197) t0_236) (vp_updL m_mostTime_197 (Int32.toNatClampNeg v2_144) ((m_mostTime_197 (Int32.toNatClampNeg v2_144)) + t0_272)) (vp_updL m_leastTime_197 (Int32.toNatClampNeg v2_144) ((m_leastTime_197 (Int32.toNatClampNeg v2_144)) + 0)) h _ _ hP hD hS _ (lv_sub hl [1, 2, 0] rfl)
                                          · replace h := h.2 hc
                                            refine lv_aload_n hx hb dX4_findAges_291 rfl (lv_at hl 0 rfl) ?_
                                            refine va_get (D := D) (ci := 4) (v := .int m_penalty) (C := RX4) (T := TX4) (N := 32) hx hb hts hinX4 hown hK hP 0 rfl rfl 3 (by decide) (hts (.fieldLink RX4 91 "WorstPathsModel" "penalty" "I") (by decide +kernel)) (fun _ h9 => h9) rfl dX4_findAges_292 ?_
                                            refine lv_i2l hx hb dX4_findAges_295 rfl ?_
                                            refine lv_goto (tgt := 300) hx hb dX4_findAges_296 (by decide) ?_
                                            refine lv_ladd hx hb dX4_findAges_300 ?_
                                            obtain ⟨hq, h⟩ := h
                                            refine va_last (D := D) hx hb hK hP hD hS 17 2 rfl rfl hq dX4_findAges_301 (fun H locs hP hD hS => ?_)
                                            have hP : va_P D vwCl (wM a cI cZ cJ m_thrown m_sets m_ways m_penalty m_blocks m_edges m_pairs m_lines m_isFresh m_isAnswer m_time m_touchMany m_touch m_line m_from m_to m_bound m_pairA m_pairB m_comeTo_70 m_greatest_70 m_least_70 m_nowGreatest_189 m_nowLeast_189 (upd m_does_197 (Int32.toNatClampNeg v3_197) t0_236) (vp_updL m_mostTime_197 (Int32.toNatClampNeg v2_144) ((m_mostTime_197 (Int32.toNatClampNeg v2_144)) + t0_272)) (vp_updL m_leastTime_197 (Int32.toNatClampNeg v2_144) ((m_leastTime_197 (Int32.toNatClampNeg v2_144)) + (Int32.toInt64 m_penalty))) m_countUnit m_flagUnit m_worst m_best m_stack) H := hP
                                            have hD : va_D A (wM a cI cZ cJ m_thrown m_sets m_ways m_penalty m_blocks m_edges m_pairs m_lines m_isFresh m_isAnswer m_time m_touchMany m_touch m_line m_from m_to m_bound m_pairA m_pairB m_comeTo_70 m_greatest_70 m_least_70 m_nowGreatest_189 m_nowLeast_189 (upd m_does_197 (Int32.toNatClampNeg v3_197) t0_236) (vp_updL m_mostTime_197 (Int32.toNatClampNeg v2_144) ((m_mostTime_197 (Int32.toNatClampNeg v2_144)) + t0_272)) (vp_updL m_leastTime_197 (Int32.toNatClampNeg v2_144) ((m_leastTime_197 (Int32.toNatClampNeg v2_144)) + (Int32.toInt64 m_penalty))) m_countUnit m_flagUnit m_worst m_best m_stack) := hD
                                            refine lv_iinc (v := (v3_197 + 1)) (lv' := [(3, .int (v3_197 + 1)), (0, .ref (a 0)), (2, .int v2_144)]) hx hb dX4_findAges_302 hl (k := 2) rfl rfl (by decide) rfl (fun ls hl => ?_)
                                            refine lv_goto (tgt := 197) hx hb dX4_findAges_305 (by decide) ?_
                                            exact ih197 (v3_197 + 1) (upd m_does_197 (Int32.toNatClampNeg v3_197) t0_236) (vp_updL m_mostTime_197 (Int32.toNatClampNeg v2_144) ((m_mostTime_197 (Int32.toNatClampNeg v2_144)) + t0_272)) (vp_updL m_leastTime_197 (Int32.toNatClampNeg v2_144) ((m_leastTime_197 (Int32.toNatClampNeg v2_144)) + (Int32.toInt64 m_penalty))) h _ _ hP hD hS _ (lv_sub hl [1, 2, 0] rfl)
                                        refine lv_icmp_eq (tgt := 263) hx hb dX4_findAges_251 (by decide) (fun hc => ?_) (fun hc => ?_)
                                        · replace h := h.1 hc
                                          refine lv_aload_n hx hb dX4_findAges_263 rfl (lv_at hl 0 rfl) ?_
                                          refine va_get (D := D) (ci := 4) (v := .int m_penalty) (C := RX4) (T := TX4) (N := 32) hx hb hts hinX4 hown hK hP 0 rfl rfl 3 (by decide) (hts (.fieldLink RX4 91 "WorstPathsModel" "penalty" "I") (by decide +kernel)) (fun _ h9 => h9) rfl dX4_findAges_264 ?_
                                          refine lv_i2l hx hb dX4_findAges_267 rfl ?_
                                          refine lv_goto (tgt := 272) hx hb dX4_findAges_268 (by decide) ?_
                                          exact JP272 (Int32.toInt64 m_penalty) h _ _ hP hD hS _ (lv_sub hl [0, 1, 2] rfl)
                                        · replace h := h.2 hc
                                          refine lv_aload_n hx hb dX4_findAges_254 rfl (lv_at hl 0 rfl) ?_
                                          refine va_get (D := D) (ci := 4) (v := .ref (a 15)) (C := RX4) (T := TX4) (N := 32) hx hb hts hinX4 hown hK hP 0 rfl rfl 23 (by decide) (hts (.fieldLink RX4 53 "WorstPathsModel" "does" "[I") (by decide +kernel)) (fun _ h9 => h9) rfl dX4_findAges_255 ?_
                                          refine lv_iload_n hx hb dX4_findAges_258 rfl (lv_at hl 2 rfl) ?_
                                          obtain ⟨hq, h⟩ := h
                                          refine va_iald (D := D) hx hb hK hP 15 0 rfl rfl hq dX4_findAges_259 ?_
                                          refine lv_if_ne (tgt := 271) hx hb dX4_findAges_260 (by decide) (fun hc => ?_) (fun hc => ?_)
                                          · replace h := h.1 hc
                                            refine lv_lconst (v := 0) hx hb dX4_findAges_271 (by decide) ?_
                                            exact JP272 0 h _ _ hP hD hS _ (lv_sub hl [0, 1, 2] rfl)
                                          · replace h := h.2 hc
                                            refine lv_aload_n hx hb dX4_findAges_263 rfl (lv_at hl 0 rfl) ?_
                                            refine va_get (D := D) (ci := 4) (v := .int m_penalty) (C := RX4) (T := TX4) (N := 32) hx hb hts hinX4 hown hK hP 0 rfl rfl 3 (by decide) (hts (.fieldLink RX4 91 "WorstPathsModel" "penalty" "I") (by decide +kernel)) (fun _ h9 => h9) rfl dX4_findAges_264 ?_
                                            refine lv_i2l hx hb dX4_findAges_267 rfl ?_
                                            refine lv_goto (tgt := 272) hx hb dX4_findAges_268 (by decide) ?_
                                            exact JP272 (Int32.toInt64 m_penalty) h _ _ hP hD hS _ (lv_sub hl [0, 1, 2] rfl)
                                      refine lv_if_eq (tgt := 235) hx hb dX4_findAges_223 (by decide) (fun hc => ?_) (fun hc => ?_)
                                      · replace h := h.1 hc
                                        refine lv_iconst (v := (-1)) hx hb dX4_findAges_235 (by decide) ?_
                                        exact JP236 (-1) h _ _ hP hD hS _ (lv_sub hl [0, 1, 2] rfl)
                                      · replace h := h.2 hc
                                        refine lv_aload_n hx hb dX4_findAges_226 rfl (lv_at hl 0 rfl) ?_
                                        refine va_get (D := D) (ci := 4) (v := .ref (a 15)) (C := RX4) (T := TX4) (N := 32) hx hb hts hinX4 hown hK hP 0 rfl rfl 23 (by decide) (hts (.fieldLink RX4 53 "WorstPathsModel" "does" "[I") (by decide +kernel)) (fun _ h9 => h9) rfl dX4_findAges_227 ?_
                                        refine lv_iload_n hx hb dX4_findAges_230 rfl (lv_at hl 2 rfl) ?_
                                        obtain ⟨hq, h⟩ := h
                                        refine va_iald (D := D) hx hb hK hP 15 0 rfl rfl hq dX4_findAges_231 ?_
                                        refine lv_goto (tgt := 236) hx hb dX4_findAges_232 (by decide) ?_
                                        exact JP236 (m_does_197 (Int32.toNatClampNeg v3_197)) h _ _ hP hD hS _ (lv_sub hl [0, 1, 2] rfl)
                                obtain ⟨k9, h⟩ := h
                                exact LP197 k9 (6 * v2_144) m_does_189 (vp_updL m_mostTime_144 (Int32.toNatClampNeg v2_144) (Int32.toInt64 (m_time (Int32.toNatClampNeg v2_144)))) (vp_updL m_leastTime_144 (Int32.toNatClampNeg v2_144) (Int32.toInt64 (m_time (Int32.toNatClampNeg v2_144)))) h _ _ hP hD hS _ (lv_sub hl [1, 2, 0] rfl)
                        obtain ⟨k9, h⟩ := h
                        exact LP144 k9 0 m_nowGreatest_70 m_nowLeast_70 m_does_70 m_mostTime m_leastTime h _ _ hP hD hS _ (lv_sub hl [1, 0] rfl)
                      · replace h := h.2 hc
                        refine lv_iconst (v := 0) hx hb dX4_findAges_74 (by decide) ?_
                        refine lv_istore_n (lv' := [(1, .int 0), (0, .ref (a 0))]) hx hb dX4_findAges_75 rfl hl (by decide) rfl (fun ls hl => ?_)
                        refine lv_iconst (v := 0) hx hb dX4_findAges_76 (by decide) ?_
                        refine lv_istore_n (lv' := [(2, .int 0), (1, .int 0), (0, .ref (a 0))]) hx hb dX4_findAges_77 rfl hl (by decide) rfl (fun ls hl => ?_)
                        have LP78 : ∀ (n78 : Nat) (v1_78 : Int32) (v2_78 : Int32) (m_comeTo_78 : Nat → Int32) (m_greatest_78 : Nat → Int32) (m_least_78 : Nat → Int32) (m_nowGreatest_78 : Nat → Int32) (m_nowLeast_78 : Nat → Int32) (m_does_78 : Nat → Int32), lp_X4_findAges_78 m_sets m_ways m_penalty m_blocks m_edges m_lines m_time m_touchMany m_touch m_line m_from m_to m_mostTime m_leastTime (lp_X4_findAges_70 m_sets m_ways m_penalty m_blocks m_edges m_lines m_time m_touchMany m_touch m_line m_from m_to m_mostTime m_leastTime Q n70) Q n78 v1_78 v2_78 m_comeTo_78 m_greatest_78 m_least_78 m_nowGreatest_78 m_nowLeast_78 m_does_78 → ∀ (H : Heap) (locs : List Loc), va_P D vwCl (wM a cI cZ cJ m_thrown m_sets m_ways m_penalty m_blocks m_edges m_pairs m_lines m_isFresh m_isAnswer m_time m_touchMany m_touch m_line m_from m_to m_bound m_pairA m_pairB m_comeTo_78 m_greatest_78 m_least_78 m_nowGreatest_78 m_nowLeast_78 m_does_78 m_mostTime m_leastTime m_countUnit m_flagUnit m_worst m_best m_stack) H → va_D A (wM a cI cZ cJ m_thrown m_sets m_ways m_penalty m_blocks m_edges m_pairs m_lines m_isFresh m_isAnswer m_time m_touchMany m_touch m_line m_from m_to m_bound m_pairA m_pairB m_comeTo_78 m_greatest_78 m_least_78 m_nowGreatest_78 m_nowLeast_78 m_does_78 m_mostTime m_leastTime m_countUnit m_flagUnit m_worst m_best m_stack) → va_S A s.heap H locs → ∀ (ls : Array Slot), lv_has ls 4 [(0, .ref (a 0)), (1, .int v1_78), (2, .int v2_78)] → W p l e (headSpec wsX4_findAges rm_X4_findAges).room s m ([Value.ref (a 0)] : List Value).toArray below meth c H locs 0 0 Qz (F0 m 78 ls []) := by
                          intro n78
                          induction n78 with
                          | zero => intro v1_78 v2_78 m_comeTo_78 m_greatest_78 m_least_78 m_nowGreatest_78 m_nowLeast_78 m_does_78 h; exact h.elim
                          | succ n78 ih78 =>
                            intro v1_78 v2_78 m_comeTo_78 m_greatest_78 m_least_78 m_nowGreatest_78 m_nowLeast_78 m_does_78 h H locs hP hD hS ls hl
                            unfold lp_X4_findAges_78 at h
                            refine lv_iload_n hx hb dX4_findAges_78 rfl (lv_at hl 2 rfl) ?_
                            refine lv_aload_n hx hb dX4_findAges_79 rfl (lv_at hl 0 rfl) ?_
                            refine va_get (D := D) (ci := 4) (v := .int m_edges) (C := RX4) (T := TX4) (N := 32) hx hb hts hinX4 hown hK hP 0 rfl rfl 5 (by decide) (hts (.fieldLink RX4 119 "WorstPathsModel" "edges" "I") (by decide +kernel)) (fun _ h9 => h9) rfl dX4_findAges_80 ?_
                            refine lv_icmp_ge (tgt := 139) hx hb dX4_findAges_83 (by decide) (fun hc => ?_) (fun hc => ?_)
                            · replace h := h.1 hc
                              refine lv_goto (tgt := 70) hx hb dX4_findAges_139 (by decide) ?_
                              exact ih70 v1_78 m_comeTo_78 m_greatest_78 m_least_78 m_nowGreatest_78 m_nowLeast_78 m_does_78 h _ _ hP hD hS _ (lv_sub hl [0, 1] rfl)
                            · replace h := h.2 hc
                              refine lv_aload_n hx hb dX4_findAges_86 rfl (lv_at hl 0 rfl) ?_
                              refine va_get (D := D) (ci := 4) (v := .ref (a 10)) (C := RX4) (T := TX4) (N := 32) hx hb hts hinX4 hown hK hP 0 rfl rfl 18 (by decide) (hts (.fieldLink RX4 37 "WorstPathsModel" "comeTo" "[Z") (by decide +kernel)) (fun _ h9 => h9) rfl dX4_findAges_87 ?_
                              refine lv_aload_n hx hb dX4_findAges_90 rfl (lv_at hl 0 rfl) ?_
                              refine va_get (D := D) (ci := 4) (v := .ref (a 5)) (C := RX4) (T := TX4) (N := 32) hx hb hts hinX4 hown hK hP 0 rfl rfl 12 (by decide) (hts (.fieldLink RX4 22 "WorstPathsModel" "from" "[I") (by decide +kernel)) (fun _ h9 => h9) rfl dX4_findAges_91 ?_
                              refine lv_iload_n hx hb dX4_findAges_94 rfl (lv_at hl 2 rfl) ?_
                              obtain ⟨hq, h⟩ := h
                              refine va_iald (D := D) hx hb hK hP 5 0 rfl rfl hq dX4_findAges_95 ?_
                              obtain ⟨hq, h⟩ := h
                              refine va_zald (D := D) hx hb hK hP 10 1 rfl rfl hq dX4_findAges_96 ?_
                              refine lv_if_eq (tgt := 133) hx hb dX4_findAges_97 (by decide) (fun hc => ?_) (fun hc => ?_)
                              · replace h := h.1 hc
                                refine lv_iinc (v := (v2_78 + 1)) (lv' := [(2, .int (v2_78 + 1)), (0, .ref (a 0)), (1, .int v1_78)]) hx hb dX4_findAges_133 hl (k := 2) rfl rfl (by decide) rfl (fun ls hl => ?_)
                                refine lv_goto (tgt := 78) hx hb dX4_findAges_136 (by decide) ?_
                                exact ih78 v1_78 (v2_78 + 1) m_comeTo_78 m_greatest_78 m_least_78 m_nowGreatest_78 m_nowLeast_78 m_does_78 h _ _ hP hD hS _ (lv_sub hl [1, 2, 0] rfl)
                              · replace h := h.2 hc
                                refine lv_aload_n hx hb dX4_findAges_100 rfl (lv_at hl 0 rfl) ?_
                                refine lv_aload_n hx hb dX4_findAges_101 rfl (lv_at hl 0 rfl) ?_
                                refine va_get (D := D) (ci := 4) (v := .ref (a 5)) (C := RX4) (T := TX4) (N := 32) hx hb hts hinX4 hown hK hP 0 rfl rfl 12 (by decide) (hts (.fieldLink RX4 22 "WorstPathsModel" "from" "[I") (by decide +kernel)) (fun _ h9 => h9) rfl dX4_findAges_102 ?_
                                refine lv_iload_n hx hb dX4_findAges_105 rfl (lv_at hl 2 rfl) ?_
                                obtain ⟨hq, h⟩ := h
                                refine va_iald (D := D) hx hb hK hP 5 0 rfl rfl hq dX4_findAges_106 ?_
                                have hF := wz_free hD hS hA
                                refine va_callv (va_runV (As := [.int (m_from (Int32.toNatClampNeg v2_78))]) (rest := []) ⟨hx, hb, hml, hown, hts⟩ (c_X4_goThrough l D a cI cZ cJ _ m_thrown m_sets m_ways m_penalty m_blocks m_edges m_pairs m_lines m_isFresh m_isAnswer m_time m_touchMany m_touch m_line m_from m_to m_bound m_pairA m_pairB m_comeTo_78 m_greatest_78 m_least_78 m_nowGreatest_78 m_nowLeast_78 m_does_78 m_mostTime m_leastTime m_countUnit m_flagUnit m_worst m_best m_stack (m_from (Int32.toNatClampNeg v2_78)) _ h) (cwV 1 hts gX4_findAges_X4_goThrough rfl rfl rfl (by decide +kernel) ⟨Nat.le_of_ble_eq_true rfl, Nat.le_of_ble_eq_true rfl⟩) ⟨wz_blind, va_recv hK hP (ci := 4) (q0 := 0) rfl rfl, fun U hU hW => wz_at hU hW hP hK hD⟩ rfl rfl hl.1 rfl (lv_room (Nat.le_of_ble_eq_true rfl)) dX4_findAges_107 ⟨Nat.zero_le _, Nat.zero_le _⟩) hS (fun q _ hq => hF q hq) hF (fun u t H locs ht hvm h hB hz1 hk1 hS => ?_)
                                obtain ⟨m_nowGreatest_107, m_nowLeast_107, m_does_107⟩ := u
                                dsimp only at h hB
                                obtain ⟨hP, -, hD⟩ := wz_back ht hF hB
                                have hP : va_P D vwCl (wM a cI cZ cJ m_thrown m_sets m_ways m_penalty m_blocks m_edges m_pairs m_lines m_isFresh m_isAnswer m_time m_touchMany m_touch m_line m_from m_to m_bound m_pairA m_pairB m_comeTo_78 m_greatest_78 m_least_78 m_nowGreatest_107 m_nowLeast_107 m_does_107 m_mostTime m_leastTime m_countUnit m_flagUnit m_worst m_best m_stack) H := hP
                                have hD : va_D A (wM a cI cZ cJ m_thrown m_sets m_ways m_penalty m_blocks m_edges m_pairs m_lines m_isFresh m_isAnswer m_time m_touchMany m_touch m_line m_from m_to m_bound m_pairA m_pairB m_comeTo_78 m_greatest_78 m_least_78 m_nowGreatest_107 m_nowLeast_107 m_does_107 m_mostTime m_leastTime m_countUnit m_flagUnit m_worst m_best m_stack) := hD
                                refine lv_aload_n hx hb dX4_findAges_110 rfl (lv_at hl 0 rfl) ?_
                                refine lv_aload_n hx hb dX4_findAges_111 rfl (lv_at hl 0 rfl) ?_
                                refine va_get (D := D) (ci := 4) (v := .ref (a 6)) (C := RX4) (T := TX4) (N := 32) hx hb hts hinX4 hown hK hP 0 rfl rfl 13 (by decide) (hts (.fieldLink RX4 25 "WorstPathsModel" "to" "[I") (by decide +kernel)) (fun _ h9 => h9) rfl dX4_findAges_112 ?_
                                refine lv_iload_n hx hb dX4_findAges_115 rfl (lv_at hl 2 rfl) ?_
                                obtain ⟨hq, h⟩ := h
                                refine va_iald (D := D) hx hb hK hP 6 0 rfl rfl hq dX4_findAges_116 ?_
                                have hF := wz_free hD hS hA
                                refine va_calli (va_runV (As := [.int (m_to (Int32.toNatClampNeg v2_78))]) (rest := []) ⟨hx, hb, hml, hown, hts⟩ (c_X4_meet l D a cI cZ cJ _ m_thrown m_sets m_ways m_penalty m_blocks m_edges m_pairs m_lines m_isFresh m_isAnswer m_time m_touchMany m_touch m_line m_from m_to m_bound m_pairA m_pairB m_comeTo_78 m_greatest_78 m_least_78 m_nowGreatest_107 m_nowLeast_107 m_does_107 m_mostTime m_leastTime m_countUnit m_flagUnit m_worst m_best m_stack (m_to (Int32.toNatClampNeg v2_78)) _ h) (cwV 1 hts gX4_findAges_X4_meet rfl rfl rfl (by decide +kernel) ⟨Nat.le_of_ble_eq_true rfl, Nat.le_of_ble_eq_true rfl⟩) ⟨wz_blind, va_recv hK hP (ci := 4) (q0 := 0) rfl rfl, fun U hU hW => wz_at hU hW hP hK hD⟩ rfl rfl hl.1 rfl (lv_room (Nat.le_of_ble_eq_true rfl)) dX4_findAges_117 ⟨Nat.zero_le _, Nat.zero_le _⟩) hS (fun q _ hq => hF q hq) hF (fun r_117 u t H locs ht hvm h hB hz1 hk1 hS => ?_)
                                obtain ⟨m_comeTo_117, m_greatest_117, m_least_117⟩ := u
                                dsimp only at h hB
                                obtain ⟨hP, -, hD⟩ := wz_back ht hF hB
                                have hP : va_P D vwCl (wM a cI cZ cJ m_thrown m_sets m_ways m_penalty m_blocks m_edges m_pairs m_lines m_isFresh m_isAnswer m_time m_touchMany m_touch m_line m_from m_to m_bound m_pairA m_pairB m_comeTo_117 m_greatest_117 m_least_117 m_nowGreatest_107 m_nowLeast_107 m_does_107 m_mostTime m_leastTime m_countUnit m_flagUnit m_worst m_best m_stack) H := hP
                                have hD : va_D A (wM a cI cZ cJ m_thrown m_sets m_ways m_penalty m_blocks m_edges m_pairs m_lines m_isFresh m_isAnswer m_time m_touchMany m_touch m_line m_from m_to m_bound m_pairA m_pairB m_comeTo_117 m_greatest_117 m_least_117 m_nowGreatest_107 m_nowLeast_107 m_does_107 m_mostTime m_leastTime m_countUnit m_flagUnit m_worst m_best m_stack) := hD
                                refine lv_if_ne (tgt := 127) hx hb dX4_findAges_120 (by decide) (fun hc => ?_) (fun hc => ?_)
                                · replace h := h.1 hc
                                  refine lv_iconst (v := 1) hx hb dX4_findAges_127 (by decide) ?_
                                  refine lv_goto (tgt := 132) hx hb dX4_findAges_128 (by decide) ?_
                                  refine lv_istore_n (lv' := [(1, .int 1), (0, .ref (a 0)), (2, .int v2_78)]) hx hb dX4_findAges_132 rfl hl (by decide) rfl (fun ls hl => ?_)
                                  refine lv_iinc (v := (v2_78 + 1)) (lv' := [(2, .int (v2_78 + 1)), (1, .int 1), (0, .ref (a 0))]) hx hb dX4_findAges_133 hl (k := 2) rfl rfl (by decide) rfl (fun ls hl => ?_)
                                  refine lv_goto (tgt := 78) hx hb dX4_findAges_136 (by decide) ?_
                                  exact ih78 1 (v2_78 + 1) m_comeTo_117 m_greatest_117 m_least_117 m_nowGreatest_107 m_nowLeast_107 m_does_107 h _ _ hP hD hS _ (lv_sub hl [2, 1, 0] rfl)
                                · replace h := h.2 hc
                                  refine lv_iload_n hx hb dX4_findAges_123 rfl (lv_at hl 1 rfl) ?_
                                  refine lv_if_eq (tgt := 131) hx hb dX4_findAges_124 (by decide) (fun hc => ?_) (fun hc => ?_)
                                  · replace h := h.1 hc
                                    refine lv_iconst (v := 0) hx hb dX4_findAges_131 (by decide) ?_
                                    refine lv_istore_n (lv' := [(1, .int 0), (0, .ref (a 0)), (2, .int v2_78)]) hx hb dX4_findAges_132 rfl hl (by decide) rfl (fun ls hl => ?_)
                                    refine lv_iinc (v := (v2_78 + 1)) (lv' := [(2, .int (v2_78 + 1)), (1, .int 0), (0, .ref (a 0))]) hx hb dX4_findAges_133 hl (k := 2) rfl rfl (by decide) rfl (fun ls hl => ?_)
                                    refine lv_goto (tgt := 78) hx hb dX4_findAges_136 (by decide) ?_
                                    exact ih78 0 (v2_78 + 1) m_comeTo_117 m_greatest_117 m_least_117 m_nowGreatest_107 m_nowLeast_107 m_does_107 h _ _ hP hD hS _ (lv_sub hl [2, 1, 0] rfl)
                                  · replace h := h.2 hc
                                    refine lv_iconst (v := 1) hx hb dX4_findAges_127 (by decide) ?_
                                    refine lv_goto (tgt := 132) hx hb dX4_findAges_128 (by decide) ?_
                                    refine lv_istore_n (lv' := [(1, .int 1), (0, .ref (a 0)), (2, .int v2_78)]) hx hb dX4_findAges_132 rfl hl (by decide) rfl (fun ls hl => ?_)
                                    refine lv_iinc (v := (v2_78 + 1)) (lv' := [(2, .int (v2_78 + 1)), (1, .int 1), (0, .ref (a 0))]) hx hb dX4_findAges_133 hl (k := 2) rfl rfl (by decide) rfl (fun ls hl => ?_)
                                    refine lv_goto (tgt := 78) hx hb dX4_findAges_136 (by decide) ?_
                                    exact ih78 1 (v2_78 + 1) m_comeTo_117 m_greatest_117 m_least_117 m_nowGreatest_107 m_nowLeast_107 m_does_107 h _ _ hP hD hS _ (lv_sub hl [2, 1, 0] rfl)
                        obtain ⟨k9, h⟩ := h
                        exact LP78 k9 0 0 m_comeTo_70 m_greatest_70 m_least_70 m_nowGreatest_70 m_nowLeast_70 m_does_70 h _ _ hP hD hS _ (lv_sub hl [2, 1, 0] rfl)
                  obtain ⟨k9, h⟩ := h
                  exact LP70 k9 1 m_comeTo_58 m_greatest_58 m_least_58 m_nowGreatest_23 m_nowLeast_23 m_does h _ _ hP hD hS _ (lv_sub hl [1, 0] rfl)
            · replace h := h.2 hc
              refine lv_aload_n hx hb dX4_findAges_29 rfl (lv_at hl 0 rfl) ?_
              refine va_get (D := D) (ci := 4) (v := .ref (a 13)) (C := RX4) (T := TX4) (N := 32) hx hb hts hinX4 hown hK hP 0 rfl rfl 21 (by decide) (hts (.fieldLink RX4 47 "WorstPathsModel" "nowGreatest" "[I") (by decide +kernel)) (fun _ h9 => h9) rfl dX4_findAges_30 ?_
              refine lv_iload_n hx hb dX4_findAges_33 rfl (lv_at hl 1 rfl) ?_
              refine lv_iconst (v := (-1)) hx hb dX4_findAges_34 (by decide) ?_
              obtain ⟨hq, h⟩ := h
              refine va_iast (D := D) hx hb hK hP hD hS 13 0 rfl rfl hq dX4_findAges_35 (fun H locs hP hD hS => ?_)
              have hP : va_P D vwCl (wM a cI cZ cJ m_thrown m_sets m_ways m_penalty m_blocks m_edges m_pairs m_lines m_isFresh m_isAnswer m_time m_touchMany m_touch m_line m_from m_to m_bound m_pairA m_pairB m_comeTo_2 m_greatest m_least (upd m_nowGreatest_23 (Int32.toNatClampNeg v1_23) (-1)) m_nowLeast_23 m_does m_mostTime m_leastTime m_countUnit m_flagUnit m_worst m_best m_stack) H := hP
              have hD : va_D A (wM a cI cZ cJ m_thrown m_sets m_ways m_penalty m_blocks m_edges m_pairs m_lines m_isFresh m_isAnswer m_time m_touchMany m_touch m_line m_from m_to m_bound m_pairA m_pairB m_comeTo_2 m_greatest m_least (upd m_nowGreatest_23 (Int32.toNatClampNeg v1_23) (-1)) m_nowLeast_23 m_does m_mostTime m_leastTime m_countUnit m_flagUnit m_worst m_best m_stack) := hD
              refine lv_aload_n hx hb dX4_findAges_36 rfl (lv_at hl 0 rfl) ?_
              refine va_get (D := D) (ci := 4) (v := .ref (a 14)) (C := RX4) (T := TX4) (N := 32) hx hb hts hinX4 hown hK hP 0 rfl rfl 22 (by decide) (hts (.fieldLink RX4 50 "WorstPathsModel" "nowLeast" "[I") (by decide +kernel)) (fun _ h9 => h9) rfl dX4_findAges_37 ?_
              refine lv_iload_n hx hb dX4_findAges_40 rfl (lv_at hl 1 rfl) ?_
              refine lv_iconst (v := (-1)) hx hb dX4_findAges_41 (by decide) ?_
              obtain ⟨hq, h⟩ := h
              refine va_iast (D := D) hx hb hK hP hD hS 14 0 rfl rfl hq dX4_findAges_42 (fun H locs hP hD hS => ?_)
              have hP : va_P D vwCl (wM a cI cZ cJ m_thrown m_sets m_ways m_penalty m_blocks m_edges m_pairs m_lines m_isFresh m_isAnswer m_time m_touchMany m_touch m_line m_from m_to m_bound m_pairA m_pairB m_comeTo_2 m_greatest m_least (upd m_nowGreatest_23 (Int32.toNatClampNeg v1_23) (-1)) (upd m_nowLeast_23 (Int32.toNatClampNeg v1_23) (-1)) m_does m_mostTime m_leastTime m_countUnit m_flagUnit m_worst m_best m_stack) H := hP
              have hD : va_D A (wM a cI cZ cJ m_thrown m_sets m_ways m_penalty m_blocks m_edges m_pairs m_lines m_isFresh m_isAnswer m_time m_touchMany m_touch m_line m_from m_to m_bound m_pairA m_pairB m_comeTo_2 m_greatest m_least (upd m_nowGreatest_23 (Int32.toNatClampNeg v1_23) (-1)) (upd m_nowLeast_23 (Int32.toNatClampNeg v1_23) (-1)) m_does m_mostTime m_leastTime m_countUnit m_flagUnit m_worst m_best m_stack) := hD
              refine lv_iinc (v := (v1_23 + 1)) (lv' := [(1, .int (v1_23 + 1)), (0, .ref (a 0))]) hx hb dX4_findAges_43 hl (k := 1) rfl rfl (by decide) rfl (fun ls hl => ?_)
              refine lv_goto (tgt := 23) hx hb dX4_findAges_46 (by decide) ?_
              exact ih23 (v1_23 + 1) (upd m_nowGreatest_23 (Int32.toNatClampNeg v1_23) (-1)) (upd m_nowLeast_23 (Int32.toNatClampNeg v1_23) (-1)) h _ _ hP hD hS _ (lv_sub hl [1, 0] rfl)
        obtain ⟨k9, h⟩ := h
        exact LP23 k9 0 m_nowGreatest m_nowLeast h _ _ hP hD hS _ (lv_sub hl [1, 0] rfl)
      · replace h := h.2 hc
        refine lv_aload_n hx hb dX4_findAges_8 rfl (lv_at hl 0 rfl) ?_
        refine va_get (D := D) (ci := 4) (v := .ref (a 10)) (C := RX4) (T := TX4) (N := 32) hx hb hts hinX4 hown hK hP 0 rfl rfl 18 (by decide) (hts (.fieldLink RX4 37 "WorstPathsModel" "comeTo" "[Z") (by decide +kernel)) (fun _ h9 => h9) rfl dX4_findAges_9 ?_
        refine lv_iload_n hx hb dX4_findAges_12 rfl (lv_at hl 1 rfl) ?_
        refine lv_iconst (v := 0) hx hb dX4_findAges_13 (by decide) ?_
        obtain ⟨hq, h⟩ := h
        refine va_zast (D := D) hx hb hK hP hD hS 10 1 rfl rfl hq dX4_findAges_14 (fun H locs hP hD hS => ?_)
        have hP : va_P D vwCl (wM a cI cZ cJ m_thrown m_sets m_ways m_penalty m_blocks m_edges m_pairs m_lines m_isFresh m_isAnswer m_time m_touchMany m_touch m_line m_from m_to m_bound m_pairA m_pairB (upd m_comeTo_2 (Int32.toNatClampNeg v1_2) (vp_nar .boolean 0)) m_greatest m_least m_nowGreatest m_nowLeast m_does m_mostTime m_leastTime m_countUnit m_flagUnit m_worst m_best m_stack) H := hP
        have hD : va_D A (wM a cI cZ cJ m_thrown m_sets m_ways m_penalty m_blocks m_edges m_pairs m_lines m_isFresh m_isAnswer m_time m_touchMany m_touch m_line m_from m_to m_bound m_pairA m_pairB (upd m_comeTo_2 (Int32.toNatClampNeg v1_2) (vp_nar .boolean 0)) m_greatest m_least m_nowGreatest m_nowLeast m_does m_mostTime m_leastTime m_countUnit m_flagUnit m_worst m_best m_stack) := hD
        refine lv_iinc (v := (v1_2 + 1)) (lv' := [(1, .int (v1_2 + 1)), (0, .ref (a 0))]) hx hb dX4_findAges_15 hl (k := 1) rfl rfl (by decide) rfl (fun ls hl => ?_)
        refine lv_goto (tgt := 2) hx hb dX4_findAges_18 (by decide) ?_
        exact ih2 (v1_2 + 1) (upd m_comeTo_2 (Int32.toNatClampNeg v1_2) (vp_nar .boolean 0)) h _ _ hP hD hS _ (lv_sub hl [1, 0] rfl)
  obtain ⟨k9, h⟩ := h
  exact LP2 k9 0 m_comeTo h _ _ hP hD hS _ (lv_sub hl [1, 0] rfl)
