def wp_X4_modulo (v0 : Int32) (v1 : Int32) (Q : Int32 → Prop) : Prop := (¬ (v1 : Int32) = 0) ∧ ((¬ (v1 : Int32) = 0) ∧ (Q (((v0 - v0 / v1 * v1) + v1) - ((v0 - v0 / v1 * v1) + v1) / v1 * v1)))
abbrev rm_X4_modulo : Room := { frames := 0, cells := 0, slots := 0, locals := 0 }
set_option maxHeartbeats 4000000 in
set_option maxRecDepth 100000 in
theorem c_X4_modulo (l : Launch) (D : va_G) (w : va_W) (cI : ClassId) (cZ : ClassId) (cJ : ClassId) (sz : Nat) (v0 : Int32) (v1 : Int32) (Q : Int32 → Prop) (h : wp_X4_modulo v0 v1 Q) : Met l yX4_modulo wsX4_modulo rm_X4_modulo (va_Pc [.int v0, .int v1] (inW D cI cZ cJ sz (w))) (va_Qi (fun (r : Int32) (u : Unit) => Q r) (fun (u : Unit) => outW D cI cZ cJ (va_A (w) sz) (w)) (va_A (w) sz)) 0 0 (va_A (w) sz) := by
  refine Met.ofW (cc := cX4_modulo) (maxL := 2) (ret := (some .int)) (by decide +kernel) rfl ?_
  intro p e s m args below meth c s₁ B hml hv
  obtain ⟨rfl, hsz, hP, hK, hD0⟩ := hv
  have hx := B.exec
  have hb := B.bytes
  have hr := B.returns
  have hts := atoms_spec (ws := wsX4_modulo) B.pre
  have hown : s.vm.findClass RX4 = some m.cls := findClass_of_methodNamed B.named
  have hlocks := B.notSynchronized
  subst hsz
  have hD := hD0.self (sz := s.heap.size)
  generalize hAe : va_A (w) s.heap.size = A at hD ⊢
  have hA : ∀ q : Nat, s.heap.size ≤ q → A q := fun q h => by rw [← hAe]; exact Or.inr h
  have hS : va_S A s.heap s.heap [] := va_S.rf
  have hP : va_P D vwCl (w) s.heap := hP
  have hl := lv_entry ([.int v0, .int v1]) (n := 2) (Nat.le_of_ble_eq_true rfl)
  rw [lg_entry_eq]
  generalize (lg_sl ([.int v0, .int v1]) ++ List.replicate (2 - (lg_sl ([.int v0, .int v1])).length) Slot.unset).toArray = ls at hl ⊢
  have hl : lv_has ls 2 [(0, .int v0), (1, .int v1)] := hl
  refine wz_abs (fun Qz hQz => ?_)
  unfold wp_X4_modulo at h
  refine lv_iload_n hx hb dX4_modulo_0 rfl (lv_at hl 0 rfl) ?_
  refine lv_iload_n hx hb dX4_modulo_1 rfl (lv_at hl 1 rfl) ?_
  obtain ⟨hq, h⟩ := h
  refine lv_irem hx hb dX4_modulo_2 hq ?_
  refine lv_iload_n hx hb dX4_modulo_3 rfl (lv_at hl 1 rfl) ?_
  refine lv_iadd hx hb dX4_modulo_4 ?_
  refine lv_iload_n hx hb dX4_modulo_5 rfl (lv_at hl 1 rfl) ?_
  obtain ⟨hq, h⟩ := h
  refine lv_irem hx hb dX4_modulo_6 hq ?_
  refine wz_mono hQz ?_
  exact W.iret (v := (((v0 - v0 / v1 * v1) + v1) - ((v0 - v0 / v1 * v1) + v1) / v1 * v1)) hx hb hr (fun t ht hW => ⟨⟨(((v0 - v0 / v1 * v1) + v1) - ((v0 - v0 / v1 * v1) + v1) / v1 * v1), (), rfl, h, by rw [ht]; exact hP, va_K.moved hW.alike hK, hD⟩, hS.F ht⟩) hS.2.2 dX4_modulo_7
def wp_X4_thrown (m_thrown : Int32) (Q : Int32 → Prop) : Prop := Q m_thrown
abbrev rm_X4_thrown : Room := { frames := 0, cells := 0, slots := 0, locals := 0 }
set_option maxHeartbeats 4000000 in
set_option maxRecDepth 100000 in
theorem c_X4_thrown (l : Launch) (D : va_G) (a : Nat → Nat) (cI : ClassId) (cZ : ClassId) (cJ : ClassId) (sz : Nat) (m_thrown : Int32) (m_sets : Int32) (m_ways : Int32) (m_penalty : Int32) (m_blocks : Int32) (m_edges : Int32) (m_pairs : Int32) (m_lines : Int32) (m_isFresh : Int32) (m_isAnswer : Int32) (m_time : Nat → Int32) (m_touchMany : Nat → Int32) (m_touch : Nat → Int32) (m_line : Nat → Int32) (m_from : Nat → Int32) (m_to : Nat → Int32) (m_bound : Nat → Int32) (m_pairA : Nat → Int32) (m_pairB : Nat → Int32) (m_comeTo : Nat → Int32) (m_greatest : Nat → Int32) (m_least : Nat → Int32) (m_nowGreatest : Nat → Int32) (m_nowLeast : Nat → Int32) (m_does : Nat → Int32) (m_mostTime : Nat → Int64) (m_leastTime : Nat → Int64) (m_countUnit : Nat → Int32) (m_flagUnit : Nat → Int32) (m_worst : Nat → Int64) (m_best : Nat → Int64) (m_stack : Nat → Int32) (Q : Int32 → Prop) (h : wp_X4_thrown m_thrown Q) : Met l yX4_thrown wsX4_thrown rm_X4_thrown (va_Pc [.ref (a 0)] (inW D cI cZ cJ sz (wM a cI cZ cJ m_thrown m_sets m_ways m_penalty m_blocks m_edges m_pairs m_lines m_isFresh m_isAnswer m_time m_touchMany m_touch m_line m_from m_to m_bound m_pairA m_pairB m_comeTo m_greatest m_least m_nowGreatest m_nowLeast m_does m_mostTime m_leastTime m_countUnit m_flagUnit m_worst m_best m_stack))) (va_Qi (fun (r : Int32) (u : Unit) => Q r) (fun (u : Unit) => outW D cI cZ cJ (va_A (wM a cI cZ cJ m_thrown m_sets m_ways m_penalty m_blocks m_edges m_pairs m_lines m_isFresh m_isAnswer m_time m_touchMany m_touch m_line m_from m_to m_bound m_pairA m_pairB m_comeTo m_greatest m_least m_nowGreatest m_nowLeast m_does m_mostTime m_leastTime m_countUnit m_flagUnit m_worst m_best m_stack) sz) (wM a cI cZ cJ m_thrown m_sets m_ways m_penalty m_blocks m_edges m_pairs m_lines m_isFresh m_isAnswer m_time m_touchMany m_touch m_line m_from m_to m_bound m_pairA m_pairB m_comeTo m_greatest m_least m_nowGreatest m_nowLeast m_does m_mostTime m_leastTime m_countUnit m_flagUnit m_worst m_best m_stack)) (va_A (wM a cI cZ cJ m_thrown m_sets m_ways m_penalty m_blocks m_edges m_pairs m_lines m_isFresh m_isAnswer m_time m_touchMany m_touch m_line m_from m_to m_bound m_pairA m_pairB m_comeTo m_greatest m_least m_nowGreatest m_nowLeast m_does m_mostTime m_leastTime m_countUnit m_flagUnit m_worst m_best m_stack) sz)) 0 0 (va_A (wM a cI cZ cJ m_thrown m_sets m_ways m_penalty m_blocks m_edges m_pairs m_lines m_isFresh m_isAnswer m_time m_touchMany m_touch m_line m_from m_to m_bound m_pairA m_pairB m_comeTo m_greatest m_least m_nowGreatest m_nowLeast m_does m_mostTime m_leastTime m_countUnit m_flagUnit m_worst m_best m_stack) sz) := by
  refine Met.ofW (cc := cX4_thrown) (maxL := 1) (ret := (some .int)) (by decide +kernel) rfl ?_
  intro p e s m args below meth c s₁ B hml hv
  obtain ⟨rfl, hsz, hP, hK, hD0⟩ := hv
  have hx := B.exec
  have hb := B.bytes
  have hr := B.returns
  have hts := atoms_spec (ws := wsX4_thrown) B.pre
  have hown : s.vm.findClass RX4 = some m.cls := findClass_of_methodNamed B.named
  have hlocks := B.notSynchronized
  have hinX4 : ∀ w ∈ wsX40, w ∈ wsX4_thrown := by decide +kernel
  subst hsz
  have hD := hD0.self (sz := s.heap.size)
  generalize hAe : va_A (wM a cI cZ cJ m_thrown m_sets m_ways m_penalty m_blocks m_edges m_pairs m_lines m_isFresh m_isAnswer m_time m_touchMany m_touch m_line m_from m_to m_bound m_pairA m_pairB m_comeTo m_greatest m_least m_nowGreatest m_nowLeast m_does m_mostTime m_leastTime m_countUnit m_flagUnit m_worst m_best m_stack) s.heap.size = A at hD ⊢
  have hA : ∀ q : Nat, s.heap.size ≤ q → A q := fun q h => by rw [← hAe]; exact Or.inr h
  have hS : va_S A s.heap s.heap [] := va_S.rf
  have hP : va_P D vwCl (wM a cI cZ cJ m_thrown m_sets m_ways m_penalty m_blocks m_edges m_pairs m_lines m_isFresh m_isAnswer m_time m_touchMany m_touch m_line m_from m_to m_bound m_pairA m_pairB m_comeTo m_greatest m_least m_nowGreatest m_nowLeast m_does m_mostTime m_leastTime m_countUnit m_flagUnit m_worst m_best m_stack) s.heap := hP
  have hl := lv_entry ([.ref (a 0)]) (n := 1) (Nat.le_of_ble_eq_true rfl)
  rw [lg_entry_eq]
  generalize (lg_sl ([.ref (a 0)]) ++ List.replicate (1 - (lg_sl ([.ref (a 0)])).length) Slot.unset).toArray = ls at hl ⊢
  have hl : lv_has ls 1 [(0, .ref (a 0))] := hl
  refine wz_abs (fun Qz hQz => ?_)
  unfold wp_X4_thrown at h
  refine lv_aload_n hx hb dX4_thrown_0 rfl (lv_at hl 0 rfl) ?_
  refine va_get (D := D) (ci := 4) (v := .int m_thrown) (C := RX4) (T := TX4) (N := 32) hx hb hts hinX4 hown hK hP 0 rfl rfl 0 (by decide) (hts (.fieldLink RX4 94 "WorstPathsModel" "thrown" "I") (by decide +kernel)) (fun _ h9 => h9) rfl dX4_thrown_1 ?_
  refine wz_mono hQz ?_
  exact W.iret (v := m_thrown) hx hb hr (fun t ht hW => ⟨⟨m_thrown, (), rfl, h, by rw [ht]; exact hP, va_K.moved hW.alike hK, hD⟩, hS.F ht⟩) hS.2.2 dX4_thrown_4
def wp_X4_fail (v1 : Int32) (m_thrown : Int32) (Q : Int32 → Int32 → Prop) : Prop := Q 0 v1
abbrev rm_X4_fail : Room := { frames := 0, cells := 0, slots := 0, locals := 0 }
set_option maxHeartbeats 4000000 in
set_option maxRecDepth 100000 in
theorem c_X4_fail (l : Launch) (D : va_G) (a : Nat → Nat) (cI : ClassId) (cZ : ClassId) (cJ : ClassId) (sz : Nat) (m_thrown : Int32) (m_sets : Int32) (m_ways : Int32) (m_penalty : Int32) (m_blocks : Int32) (m_edges : Int32) (m_pairs : Int32) (m_lines : Int32) (m_isFresh : Int32) (m_isAnswer : Int32) (m_time : Nat → Int32) (m_touchMany : Nat → Int32) (m_touch : Nat → Int32) (m_line : Nat → Int32) (m_from : Nat → Int32) (m_to : Nat → Int32) (m_bound : Nat → Int32) (m_pairA : Nat → Int32) (m_pairB : Nat → Int32) (m_comeTo : Nat → Int32) (m_greatest : Nat → Int32) (m_least : Nat → Int32) (m_nowGreatest : Nat → Int32) (m_nowLeast : Nat → Int32) (m_does : Nat → Int32) (m_mostTime : Nat → Int64) (m_leastTime : Nat → Int64) (m_countUnit : Nat → Int32) (m_flagUnit : Nat → Int32) (m_worst : Nat → Int64) (m_best : Nat → Int64) (m_stack : Nat → Int32) (v1 : Int32) (Q : Int32 → Int32 → Prop) (h : wp_X4_fail v1 m_thrown Q) : Met l yX4_fail wsX4_fail rm_X4_fail (va_Pc [.ref (a 0), .int v1] (inW D cI cZ cJ sz (wM a cI cZ cJ m_thrown m_sets m_ways m_penalty m_blocks m_edges m_pairs m_lines m_isFresh m_isAnswer m_time m_touchMany m_touch m_line m_from m_to m_bound m_pairA m_pairB m_comeTo m_greatest m_least m_nowGreatest m_nowLeast m_does m_mostTime m_leastTime m_countUnit m_flagUnit m_worst m_best m_stack))) (va_Qi (fun (r : Int32) (u : Int32) => Q r u) (fun (u : Int32) => outW D cI cZ cJ (va_A (wM a cI cZ cJ m_thrown m_sets m_ways m_penalty m_blocks m_edges m_pairs m_lines m_isFresh m_isAnswer m_time m_touchMany m_touch m_line m_from m_to m_bound m_pairA m_pairB m_comeTo m_greatest m_least m_nowGreatest m_nowLeast m_does m_mostTime m_leastTime m_countUnit m_flagUnit m_worst m_best m_stack) sz) (wM a cI cZ cJ u m_sets m_ways m_penalty m_blocks m_edges m_pairs m_lines m_isFresh m_isAnswer m_time m_touchMany m_touch m_line m_from m_to m_bound m_pairA m_pairB m_comeTo m_greatest m_least m_nowGreatest m_nowLeast m_does m_mostTime m_leastTime m_countUnit m_flagUnit m_worst m_best m_stack)) (va_A (wM a cI cZ cJ m_thrown m_sets m_ways m_penalty m_blocks m_edges m_pairs m_lines m_isFresh m_isAnswer m_time m_touchMany m_touch m_line m_from m_to m_bound m_pairA m_pairB m_comeTo m_greatest m_least m_nowGreatest m_nowLeast m_does m_mostTime m_leastTime m_countUnit m_flagUnit m_worst m_best m_stack) sz)) 0 0 (va_A (wM a cI cZ cJ m_thrown m_sets m_ways m_penalty m_blocks m_edges m_pairs m_lines m_isFresh m_isAnswer m_time m_touchMany m_touch m_line m_from m_to m_bound m_pairA m_pairB m_comeTo m_greatest m_least m_nowGreatest m_nowLeast m_does m_mostTime m_leastTime m_countUnit m_flagUnit m_worst m_best m_stack) sz) := by
  refine Met.ofW (cc := cX4_fail) (maxL := 2) (ret := (some .int)) (by decide +kernel) rfl ?_
  intro p e s m args below meth c s₁ B hml hv
  obtain ⟨rfl, hsz, hP, hK, hD0⟩ := hv
  have hx := B.exec
  have hb := B.bytes
  have hr := B.returns
  have hts := atoms_spec (ws := wsX4_fail) B.pre
  have hown : s.vm.findClass RX4 = some m.cls := findClass_of_methodNamed B.named
  have hlocks := B.notSynchronized
  have hinX4 : ∀ w ∈ wsX40, w ∈ wsX4_fail := by decide +kernel
  subst hsz
  have hD := hD0.self (sz := s.heap.size)
  generalize hAe : va_A (wM a cI cZ cJ m_thrown m_sets m_ways m_penalty m_blocks m_edges m_pairs m_lines m_isFresh m_isAnswer m_time m_touchMany m_touch m_line m_from m_to m_bound m_pairA m_pairB m_comeTo m_greatest m_least m_nowGreatest m_nowLeast m_does m_mostTime m_leastTime m_countUnit m_flagUnit m_worst m_best m_stack) s.heap.size = A at hD ⊢
  have hA : ∀ q : Nat, s.heap.size ≤ q → A q := fun q h => by rw [← hAe]; exact Or.inr h
  have hS : va_S A s.heap s.heap [] := va_S.rf
  have hP : va_P D vwCl (wM a cI cZ cJ m_thrown m_sets m_ways m_penalty m_blocks m_edges m_pairs m_lines m_isFresh m_isAnswer m_time m_touchMany m_touch m_line m_from m_to m_bound m_pairA m_pairB m_comeTo m_greatest m_least m_nowGreatest m_nowLeast m_does m_mostTime m_leastTime m_countUnit m_flagUnit m_worst m_best m_stack) s.heap := hP
  have hl := lv_entry ([.ref (a 0), .int v1]) (n := 2) (Nat.le_of_ble_eq_true rfl)
  rw [lg_entry_eq]
  generalize (lg_sl ([.ref (a 0), .int v1]) ++ List.replicate (2 - (lg_sl ([.ref (a 0), .int v1])).length) Slot.unset).toArray = ls at hl ⊢
  have hl : lv_has ls 2 [(0, .ref (a 0)), (1, .int v1)] := hl
  refine wz_abs (fun Qz hQz => ?_)
  unfold wp_X4_fail at h
  refine lv_aload_n hx hb dX4_fail_0 rfl (lv_at hl 0 rfl) ?_
  refine lv_iload_n hx hb dX4_fail_1 rfl (lv_at hl 1 rfl) ?_
  refine va_put (D := D) (ci := 4) (v := .int v1) (ty := .int) (C := RX4) (T := TX4) (N := 32) hx hb hts hinX4 tyX4 tyX4_ok nmX4 hown hK hP hD hS 0 rfl rfl 0 (by decide) (hts (.fieldLink RX4 94 "WorstPathsModel" "thrown" "I") (by decide +kernel)) (fun _ h9 => h9) rfl (by decide +kernel) rfl rfl (Nat.le_of_ble_eq_true rfl) dX4_fail_2 (fun H locs hP hD hS => ?_)
  have hP : va_P D vwCl (wM a cI cZ cJ v1 m_sets m_ways m_penalty m_blocks m_edges m_pairs m_lines m_isFresh m_isAnswer m_time m_touchMany m_touch m_line m_from m_to m_bound m_pairA m_pairB m_comeTo m_greatest m_least m_nowGreatest m_nowLeast m_does m_mostTime m_leastTime m_countUnit m_flagUnit m_worst m_best m_stack) H := hP
  have hD : va_D A (wM a cI cZ cJ v1 m_sets m_ways m_penalty m_blocks m_edges m_pairs m_lines m_isFresh m_isAnswer m_time m_touchMany m_touch m_line m_from m_to m_bound m_pairA m_pairB m_comeTo m_greatest m_least m_nowGreatest m_nowLeast m_does m_mostTime m_leastTime m_countUnit m_flagUnit m_worst m_best m_stack) := hD
  refine lv_iconst (v := 0) hx hb dX4_fail_5 (by decide) ?_
  refine wz_mono hQz ?_
  exact W.iret (v := 0) hx hb hr (fun t ht hW => ⟨⟨0, (v1), rfl, h, by rw [ht]; exact hP, va_K.moved hW.alike hK, hD⟩, hS.F ht⟩) hS.2.2 dX4_fail_6
def wp_X4_within (v0 : Int32) (v1 : Int32) (v2 : Int32) (Q : Int32 → Prop) : Prop := (v0 < v1 → Q 0) ∧ (¬ v0 < v1 → (v2 < v0 → Q 0) ∧ (¬ v2 < v0 → Q 1))
abbrev rm_X4_within : Room := { frames := 0, cells := 0, slots := 0, locals := 0 }
set_option maxHeartbeats 4000000 in
set_option maxRecDepth 100000 in
theorem c_X4_within (l : Launch) (D : va_G) (w : va_W) (cI : ClassId) (cZ : ClassId) (cJ : ClassId) (sz : Nat) (v0 : Int32) (v1 : Int32) (v2 : Int32) (Q : Int32 → Prop) (h : wp_X4_within v0 v1 v2 Q) : Met l yX4_within wsX4_within rm_X4_within (va_Pc [.int v0, .int v1, .int v2] (inW D cI cZ cJ sz (w))) (va_Qi (fun (r : Int32) (u : Unit) => Q r) (fun (u : Unit) => outW D cI cZ cJ (va_A (w) sz) (w)) (va_A (w) sz)) 0 0 (va_A (w) sz) := by
  refine Met.ofW (cc := cX4_within) (maxL := 3) (ret := (some .boolean)) (by decide +kernel) rfl ?_
  intro p e s m args below meth c s₁ B hml hv
  obtain ⟨rfl, hsz, hP, hK, hD0⟩ := hv
  have hx := B.exec
  have hb := B.bytes
  have hr := B.returns
  have hts := atoms_spec (ws := wsX4_within) B.pre
  have hown : s.vm.findClass RX4 = some m.cls := findClass_of_methodNamed B.named
  have hlocks := B.notSynchronized
  subst hsz
  have hD := hD0.self (sz := s.heap.size)
  generalize hAe : va_A (w) s.heap.size = A at hD ⊢
  have hA : ∀ q : Nat, s.heap.size ≤ q → A q := fun q h => by rw [← hAe]; exact Or.inr h
  have hS : va_S A s.heap s.heap [] := va_S.rf
  have hP : va_P D vwCl (w) s.heap := hP
  have hl := lv_entry ([.int v0, .int v1, .int v2]) (n := 3) (Nat.le_of_ble_eq_true rfl)
  rw [lg_entry_eq]
  generalize (lg_sl ([.int v0, .int v1, .int v2]) ++ List.replicate (3 - (lg_sl ([.int v0, .int v1, .int v2])).length) Slot.unset).toArray = ls at hl ⊢
  have hl : lv_has ls 3 [(0, .int v0), (1, .int v1), (2, .int v2)] := hl
  refine wz_abs (fun Qz hQz => ?_)
  unfold wp_X4_within at h
  refine lv_iload_n hx hb dX4_within_0 rfl (lv_at hl 0 rfl) ?_
  refine lv_iload_n hx hb dX4_within_1 rfl (lv_at hl 1 rfl) ?_
  refine lv_icmp_lt (tgt := 14) hx hb dX4_within_2 (by decide) (fun hc => ?_) (fun hc => ?_)
  · replace h := h.1 hc
    refine lv_iconst (v := 0) hx hb dX4_within_14 (by decide) ?_
    refine wz_mono hQz ?_
    exact W.zret (v := 0) hx hb hr rfl (fun t ht hW => ⟨⟨0, (), rfl, h, by rw [ht]; exact hP, va_K.moved hW.alike hK, hD⟩, hS.F ht⟩) hS.2.2 dX4_within_15
  · replace h := h.2 hc
    refine lv_iload_n hx hb dX4_within_5 rfl (lv_at hl 0 rfl) ?_
    refine lv_iload_n hx hb dX4_within_6 rfl (lv_at hl 2 rfl) ?_
    refine lv_icmp_gt (tgt := 14) hx hb dX4_within_7 (by decide) (fun hc => ?_) (fun hc => ?_)
    · replace h := h.1 hc
      refine lv_iconst (v := 0) hx hb dX4_within_14 (by decide) ?_
      refine wz_mono hQz ?_
      exact W.zret (v := 0) hx hb hr rfl (fun t ht hW => ⟨⟨0, (), rfl, h, by rw [ht]; exact hP, va_K.moved hW.alike hK, hD⟩, hS.F ht⟩) hS.2.2 dX4_within_15
    · replace h := h.2 hc
      refine lv_iconst (v := 1) hx hb dX4_within_10 (by decide) ?_
      refine lv_goto (tgt := 15) hx hb dX4_within_11 (by decide) ?_
      refine wz_mono hQz ?_
      exact W.zret (v := 1) hx hb hr rfl (fun t ht hW => ⟨⟨1, (), rfl, h, by rw [ht]; exact hP, va_K.moved hW.alike hK, hD⟩, hS.F ht⟩) hS.2.2 dX4_within_15
def lp_X4_find_2 (v1 : Int32) (m_lines : Int32) (m_line : Nat → Int32) (Q : Int32 → Prop) : Nat → Int32 → Prop
  | 0, _ => False
  | n + 1, v2 => (m_lines ≤ v2 → Q (-1)) ∧ (¬ m_lines ≤ v2 → vp_in v2 40 ∧ ((¬ (m_line (Int32.toNatClampNeg v2)) = v1 → (lp_X4_find_2 v1 m_lines m_line Q n) (v2 + 1)) ∧ ((m_line (Int32.toNatClampNeg v2)) = v1 → Q v2)))
def wp_X4_find (v1 : Int32) (m_lines : Int32) (m_line : Nat → Int32) (Q : Int32 → Prop) : Prop := ∃ k2, lp_X4_find_2 v1 m_lines m_line Q k2 0
abbrev rm_X4_find : Room := { frames := 0, cells := 0, slots := 0, locals := 0 }
set_option maxHeartbeats 4000000 in
set_option maxRecDepth 100000 in
theorem c_X4_find (l : Launch) (D : va_G) (a : Nat → Nat) (cI : ClassId) (cZ : ClassId) (cJ : ClassId) (sz : Nat) (m_thrown : Int32) (m_sets : Int32) (m_ways : Int32) (m_penalty : Int32) (m_blocks : Int32) (m_edges : Int32) (m_pairs : Int32) (m_lines : Int32) (m_isFresh : Int32) (m_isAnswer : Int32) (m_time : Nat → Int32) (m_touchMany : Nat → Int32) (m_touch : Nat → Int32) (m_line : Nat → Int32) (m_from : Nat → Int32) (m_to : Nat → Int32) (m_bound : Nat → Int32) (m_pairA : Nat → Int32) (m_pairB : Nat → Int32) (m_comeTo : Nat → Int32) (m_greatest : Nat → Int32) (m_least : Nat → Int32) (m_nowGreatest : Nat → Int32) (m_nowLeast : Nat → Int32) (m_does : Nat → Int32) (m_mostTime : Nat → Int64) (m_leastTime : Nat → Int64) (m_countUnit : Nat → Int32) (m_flagUnit : Nat → Int32) (m_worst : Nat → Int64) (m_best : Nat → Int64) (m_stack : Nat → Int32) (v1 : Int32) (Q : Int32 → Prop) (h : wp_X4_find v1 m_lines m_line Q) : Met l yX4_find wsX4_find rm_X4_find (va_Pc [.ref (a 0), .int v1] (inW D cI cZ cJ sz (wM a cI cZ cJ m_thrown m_sets m_ways m_penalty m_blocks m_edges m_pairs m_lines m_isFresh m_isAnswer m_time m_touchMany m_touch m_line m_from m_to m_bound m_pairA m_pairB m_comeTo m_greatest m_least m_nowGreatest m_nowLeast m_does m_mostTime m_leastTime m_countUnit m_flagUnit m_worst m_best m_stack))) (va_Qi (fun (r : Int32) (u : Unit) => Q r) (fun (u : Unit) => outW D cI cZ cJ (va_A (wM a cI cZ cJ m_thrown m_sets m_ways m_penalty m_blocks m_edges m_pairs m_lines m_isFresh m_isAnswer m_time m_touchMany m_touch m_line m_from m_to m_bound m_pairA m_pairB m_comeTo m_greatest m_least m_nowGreatest m_nowLeast m_does m_mostTime m_leastTime m_countUnit m_flagUnit m_worst m_best m_stack) sz) (wM a cI cZ cJ m_thrown m_sets m_ways m_penalty m_blocks m_edges m_pairs m_lines m_isFresh m_isAnswer m_time m_touchMany m_touch m_line m_from m_to m_bound m_pairA m_pairB m_comeTo m_greatest m_least m_nowGreatest m_nowLeast m_does m_mostTime m_leastTime m_countUnit m_flagUnit m_worst m_best m_stack)) (va_A (wM a cI cZ cJ m_thrown m_sets m_ways m_penalty m_blocks m_edges m_pairs m_lines m_isFresh m_isAnswer m_time m_touchMany m_touch m_line m_from m_to m_bound m_pairA m_pairB m_comeTo m_greatest m_least m_nowGreatest m_nowLeast m_does m_mostTime m_leastTime m_countUnit m_flagUnit m_worst m_best m_stack) sz)) 0 0 (va_A (wM a cI cZ cJ m_thrown m_sets m_ways m_penalty m_blocks m_edges m_pairs m_lines m_isFresh m_isAnswer m_time m_touchMany m_touch m_line m_from m_to m_bound m_pairA m_pairB m_comeTo m_greatest m_least m_nowGreatest m_nowLeast m_does m_mostTime m_leastTime m_countUnit m_flagUnit m_worst m_best m_stack) sz) := by
  refine Met.ofW (cc := cX4_find) (maxL := 3) (ret := (some .int)) (by decide +kernel) rfl ?_
  intro p e s m args below meth c s₁ B hml hv
  obtain ⟨rfl, hsz, hP, hK, hD0⟩ := hv
  have hx := B.exec
  have hb := B.bytes
  have hr := B.returns
  have hts := atoms_spec (ws := wsX4_find) B.pre
  have hown : s.vm.findClass RX4 = some m.cls := findClass_of_methodNamed B.named
  have hlocks := B.notSynchronized
  have hinX4 : ∀ w ∈ wsX40, w ∈ wsX4_find := by decide +kernel
  subst hsz
  have hD := hD0.self (sz := s.heap.size)
  generalize hAe : va_A (wM a cI cZ cJ m_thrown m_sets m_ways m_penalty m_blocks m_edges m_pairs m_lines m_isFresh m_isAnswer m_time m_touchMany m_touch m_line m_from m_to m_bound m_pairA m_pairB m_comeTo m_greatest m_least m_nowGreatest m_nowLeast m_does m_mostTime m_leastTime m_countUnit m_flagUnit m_worst m_best m_stack) s.heap.size = A at hD ⊢
  have hA : ∀ q : Nat, s.heap.size ≤ q → A q := fun q h => by rw [← hAe]; exact Or.inr h
  have hS : va_S A s.heap s.heap [] := va_S.rf
  have hP : va_P D vwCl (wM a cI cZ cJ m_thrown m_sets m_ways m_penalty m_blocks m_edges m_pairs m_lines m_isFresh m_isAnswer m_time m_touchMany m_touch m_line m_from m_to m_bound m_pairA m_pairB m_comeTo m_greatest m_least m_nowGreatest m_nowLeast m_does m_mostTime m_leastTime m_countUnit m_flagUnit m_worst m_best m_stack) s.heap := hP
  have hl := lv_entry ([.ref (a 0), .int v1]) (n := 3) (Nat.le_of_ble_eq_true rfl)
  rw [lg_entry_eq]
  generalize (lg_sl ([.ref (a 0), .int v1]) ++ List.replicate (3 - (lg_sl ([.ref (a 0), .int v1])).length) Slot.unset).toArray = ls at hl ⊢
  have hl : lv_has ls 3 [(0, .ref (a 0)), (1, .int v1)] := hl
  refine wz_abs (fun Qz hQz => ?_)
  unfold wp_X4_find at h
  refine lv_iconst (v := 0) hx hb dX4_find_0 (by decide) ?_
  refine lv_istore_n (lv' := [(2, .int 0), (0, .ref (a 0)), (1, .int v1)]) hx hb dX4_find_1 rfl hl (by decide) rfl (fun ls hl => ?_)
  have LP2 : ∀ (n2 : Nat) (v2_2 : Int32), lp_X4_find_2 v1 m_lines m_line Q n2 v2_2 → ∀ (H : Heap) (locs : List Loc), va_P D vwCl (wM a cI cZ cJ m_thrown m_sets m_ways m_penalty m_blocks m_edges m_pairs m_lines m_isFresh m_isAnswer m_time m_touchMany m_touch m_line m_from m_to m_bound m_pairA m_pairB m_comeTo m_greatest m_least m_nowGreatest m_nowLeast m_does m_mostTime m_leastTime m_countUnit m_flagUnit m_worst m_best m_stack) H → va_D A (wM a cI cZ cJ m_thrown m_sets m_ways m_penalty m_blocks m_edges m_pairs m_lines m_isFresh m_isAnswer m_time m_touchMany m_touch m_line m_from m_to m_bound m_pairA m_pairB m_comeTo m_greatest m_least m_nowGreatest m_nowLeast m_does m_mostTime m_leastTime m_countUnit m_flagUnit m_worst m_best m_stack) → va_S A s.heap H locs → ∀ (ls : Array Slot), lv_has ls 3 [(0, .ref (a 0)), (1, .int v1), (2, .int v2_2)] → W p l e (headSpec wsX4_find rm_X4_find).room s m ([Value.ref (a 0), Value.int v1] : List Value).toArray below meth c H locs 0 0 Qz (F0 m 2 ls []) := by
    intro n2
    induction n2 with
    | zero => intro v2_2 h; exact h.elim
    | succ n2 ih2 =>
      intro v2_2 h H locs hP hD hS ls hl
      unfold lp_X4_find_2 at h
      refine lv_iload_n hx hb dX4_find_2 rfl (lv_at hl 2 rfl) ?_
      refine lv_aload_n hx hb dX4_find_3 rfl (lv_at hl 0 rfl) ?_
      refine va_get (D := D) (ci := 4) (v := .int m_lines) (C := RX4) (T := TX4) (N := 32) hx hb hts hinX4 hown hK hP 0 rfl rfl 7 (by decide) (hts (.fieldLink RX4 113 "WorstPathsModel" "lines" "I") (by decide +kernel)) (fun _ h9 => h9) rfl dX4_find_4 ?_
      refine lv_icmp_ge (tgt := 28) hx hb dX4_find_7 (by decide) (fun hc => ?_) (fun hc => ?_)
      · replace h := h.1 hc
        refine lv_iconst (v := (-1)) hx hb dX4_find_28 (by decide) ?_
        refine wz_mono hQz ?_
        exact W.iret (v := (-1)) hx hb hr (fun t ht hW => ⟨⟨(-1), (), rfl, h, by rw [ht]; exact hP, va_K.moved hW.alike hK, hD⟩, hS.F ht⟩) hS.2.2 dX4_find_29
      · replace h := h.2 hc
        refine lv_aload_n hx hb dX4_find_10 rfl (lv_at hl 0 rfl) ?_
        refine va_get (D := D) (ci := 4) (v := .ref (a 4)) (C := RX4) (T := TX4) (N := 32) hx hb hts hinX4 hown hK hP 0 rfl rfl 11 (by decide) (hts (.fieldLink RX4 19 "WorstPathsModel" "line" "[I") (by decide +kernel)) (fun _ h9 => h9) rfl dX4_find_11 ?_
        refine lv_iload_n hx hb dX4_find_14 rfl (lv_at hl 2 rfl) ?_
        obtain ⟨hq, h⟩ := h
        refine va_iald (D := D) hx hb hK hP 4 0 rfl rfl hq dX4_find_15 ?_
        refine lv_iload_n hx hb dX4_find_16 rfl (lv_at hl 1 rfl) ?_
        refine lv_icmp_ne (tgt := 22) hx hb dX4_find_17 (by decide) (fun hc => ?_) (fun hc => ?_)
        · replace h := h.1 hc
          refine lv_iinc (v := (v2_2 + 1)) (lv' := [(2, .int (v2_2 + 1)), (0, .ref (a 0)), (1, .int v1)]) hx hb dX4_find_22 hl (k := 2) rfl rfl (by decide) rfl (fun ls hl => ?_)
          refine lv_goto (tgt := 2) hx hb dX4_find_25 (by decide) ?_
          exact ih2 (v2_2 + 1) h _ _ hP hD hS _ (lv_sub hl [1, 2, 0] rfl)
        · replace h := h.2 hc
          refine lv_iload_n hx hb dX4_find_20 rfl (lv_at hl 2 rfl) ?_
          refine wz_mono hQz ?_
          exact W.iret (v := v2_2) hx hb hr (fun t ht hW => ⟨⟨v2_2, (), rfl, h, by rw [ht]; exact hP, va_K.moved hW.alike hK, hD⟩, hS.F ht⟩) hS.2.2 dX4_find_21
  obtain ⟨k9, h⟩ := h
  exact LP2 k9 0 h _ _ hP hD hS _ (lv_sub hl [1, 2, 0] rfl)
def wp_X4_block (v1 : Int32) (m_thrown : Int32) (m_blocks : Int32) (m_isFresh : Int32) (m_time : Nat → Int32) (Q : Int32 → Int32 → Int32 → Int32 → (Nat → Int32) → Prop) : Prop := wp_X4_within v1 0 100000 (fun r_9 => (¬ r_9 = 0 → (¬ m_blocks = 40 → vp_in m_blocks 40 ∧ (Q ((m_blocks + 1) - 1) 0 (m_blocks + 1) 0 (upd m_time (Int32.toNatClampNeg m_blocks) v1))) ∧ (m_blocks = 40 → wp_X4_fail 2 0 (fun r_32 m_thrown_32 => Q r_32 m_thrown_32 m_blocks m_isFresh m_time))) ∧ (r_9 = 0 → wp_X4_fail 1 0 (fun r_17 m_thrown_17 => Q r_17 m_thrown_17 m_blocks m_isFresh m_time)))
abbrev rm_X4_block : Room := { frames := 1, cells := 0, slots := 0, locals := 22 }
set_option maxHeartbeats 4000000 in
set_option maxRecDepth 100000 in
theorem c_X4_block (l : Launch) (D : va_G) (a : Nat → Nat) (cI : ClassId) (cZ : ClassId) (cJ : ClassId) (sz : Nat) (m_thrown : Int32) (m_sets : Int32) (m_ways : Int32) (m_penalty : Int32) (m_blocks : Int32) (m_edges : Int32) (m_pairs : Int32) (m_lines : Int32) (m_isFresh : Int32) (m_isAnswer : Int32) (m_time : Nat → Int32) (m_touchMany : Nat → Int32) (m_touch : Nat → Int32) (m_line : Nat → Int32) (m_from : Nat → Int32) (m_to : Nat → Int32) (m_bound : Nat → Int32) (m_pairA : Nat → Int32) (m_pairB : Nat → Int32) (m_comeTo : Nat → Int32) (m_greatest : Nat → Int32) (m_least : Nat → Int32) (m_nowGreatest : Nat → Int32) (m_nowLeast : Nat → Int32) (m_does : Nat → Int32) (m_mostTime : Nat → Int64) (m_leastTime : Nat → Int64) (m_countUnit : Nat → Int32) (m_flagUnit : Nat → Int32) (m_worst : Nat → Int64) (m_best : Nat → Int64) (m_stack : Nat → Int32) (v1 : Int32) (Q : Int32 → Int32 → Int32 → Int32 → (Nat → Int32) → Prop) (h : wp_X4_block v1 m_thrown m_blocks m_isFresh m_time Q) : Met l yX4_block wsX4_block rm_X4_block (va_Pc [.ref (a 0), .int v1] (inW D cI cZ cJ sz (wM a cI cZ cJ m_thrown m_sets m_ways m_penalty m_blocks m_edges m_pairs m_lines m_isFresh m_isAnswer m_time m_touchMany m_touch m_line m_from m_to m_bound m_pairA m_pairB m_comeTo m_greatest m_least m_nowGreatest m_nowLeast m_does m_mostTime m_leastTime m_countUnit m_flagUnit m_worst m_best m_stack))) (va_Qi (fun (r : Int32) (u : Int32 × Int32 × Int32 × (Nat → Int32)) => Q r u.1 u.2.1 u.2.2.1 u.2.2.2) (fun (u : Int32 × Int32 × Int32 × (Nat → Int32)) => outW D cI cZ cJ (va_A (wM a cI cZ cJ m_thrown m_sets m_ways m_penalty m_blocks m_edges m_pairs m_lines m_isFresh m_isAnswer m_time m_touchMany m_touch m_line m_from m_to m_bound m_pairA m_pairB m_comeTo m_greatest m_least m_nowGreatest m_nowLeast m_does m_mostTime m_leastTime m_countUnit m_flagUnit m_worst m_best m_stack) sz) (wM a cI cZ cJ u.1 m_sets m_ways m_penalty u.2.1 m_edges m_pairs m_lines u.2.2.1 m_isAnswer u.2.2.2 m_touchMany m_touch m_line m_from m_to m_bound m_pairA m_pairB m_comeTo m_greatest m_least m_nowGreatest m_nowLeast m_does m_mostTime m_leastTime m_countUnit m_flagUnit m_worst m_best m_stack)) (va_A (wM a cI cZ cJ m_thrown m_sets m_ways m_penalty m_blocks m_edges m_pairs m_lines m_isFresh m_isAnswer m_time m_touchMany m_touch m_line m_from m_to m_bound m_pairA m_pairB m_comeTo m_greatest m_least m_nowGreatest m_nowLeast m_does m_mostTime m_leastTime m_countUnit m_flagUnit m_worst m_best m_stack) sz)) 0 0 (va_A (wM a cI cZ cJ m_thrown m_sets m_ways m_penalty m_blocks m_edges m_pairs m_lines m_isFresh m_isAnswer m_time m_touchMany m_touch m_line m_from m_to m_bound m_pairA m_pairB m_comeTo m_greatest m_least m_nowGreatest m_nowLeast m_does m_mostTime m_leastTime m_countUnit m_flagUnit m_worst m_best m_stack) sz) := by
  refine Met.ofW (cc := cX4_block) (maxL := 2) (ret := (some .int)) (by decide +kernel) rfl ?_
  intro p e s m args below meth c s₁ B hml hv
  obtain ⟨rfl, hsz, hP, hK, hD0⟩ := hv
  have hx := B.exec
  have hb := B.bytes
  have hr := B.returns
  have hts := atoms_spec (ws := wsX4_block) B.pre
  have hown : s.vm.findClass RX4 = some m.cls := findClass_of_methodNamed B.named
  have hlocks := B.notSynchronized
  have hinX4 : ∀ w ∈ wsX40, w ∈ wsX4_block := by decide +kernel
  subst hsz
  have hD := hD0.self (sz := s.heap.size)
  generalize hAe : va_A (wM a cI cZ cJ m_thrown m_sets m_ways m_penalty m_blocks m_edges m_pairs m_lines m_isFresh m_isAnswer m_time m_touchMany m_touch m_line m_from m_to m_bound m_pairA m_pairB m_comeTo m_greatest m_least m_nowGreatest m_nowLeast m_does m_mostTime m_leastTime m_countUnit m_flagUnit m_worst m_best m_stack) s.heap.size = A at hD ⊢
  have hA : ∀ q : Nat, s.heap.size ≤ q → A q := fun q h => by rw [← hAe]; exact Or.inr h
  have hS : va_S A s.heap s.heap [] := va_S.rf
  have hP : va_P D vwCl (wM a cI cZ cJ m_thrown m_sets m_ways m_penalty m_blocks m_edges m_pairs m_lines m_isFresh m_isAnswer m_time m_touchMany m_touch m_line m_from m_to m_bound m_pairA m_pairB m_comeTo m_greatest m_least m_nowGreatest m_nowLeast m_does m_mostTime m_leastTime m_countUnit m_flagUnit m_worst m_best m_stack) s.heap := hP
  have hl := lv_entry ([.ref (a 0), .int v1]) (n := 2) (Nat.le_of_ble_eq_true rfl)
  rw [lg_entry_eq]
  generalize (lg_sl ([.ref (a 0), .int v1]) ++ List.replicate (2 - (lg_sl ([.ref (a 0), .int v1])).length) Slot.unset).toArray = ls at hl ⊢
  have hl : lv_has ls 2 [(0, .ref (a 0)), (1, .int v1)] := hl
  refine wz_abs (fun Qz hQz => ?_)
  unfold wp_X4_block at h
  refine lv_aload_n hx hb dX4_block_0 rfl (lv_at hl 0 rfl) ?_
  refine lv_iconst (v := 0) hx hb dX4_block_1 (by decide) ?_
  refine va_put (D := D) (ci := 4) (v := .int 0) (ty := .int) (C := RX4) (T := TX4) (N := 32) hx hb hts hinX4 tyX4 tyX4_ok nmX4 hown hK hP hD hS 0 rfl rfl 0 (by decide) (hts (.fieldLink RX4 94 "WorstPathsModel" "thrown" "I") (by decide +kernel)) (fun _ h9 => h9) rfl (by decide +kernel) rfl rfl (Nat.le_of_ble_eq_true rfl) dX4_block_2 (fun H locs hP hD hS => ?_)
  have hP : va_P D vwCl (wM a cI cZ cJ 0 m_sets m_ways m_penalty m_blocks m_edges m_pairs m_lines m_isFresh m_isAnswer m_time m_touchMany m_touch m_line m_from m_to m_bound m_pairA m_pairB m_comeTo m_greatest m_least m_nowGreatest m_nowLeast m_does m_mostTime m_leastTime m_countUnit m_flagUnit m_worst m_best m_stack) H := hP
  have hD : va_D A (wM a cI cZ cJ 0 m_sets m_ways m_penalty m_blocks m_edges m_pairs m_lines m_isFresh m_isAnswer m_time m_touchMany m_touch m_line m_from m_to m_bound m_pairA m_pairB m_comeTo m_greatest m_least m_nowGreatest m_nowLeast m_does m_mostTime m_leastTime m_countUnit m_flagUnit m_worst m_best m_stack) := hD
  refine lv_iload_n hx hb dX4_block_5 rfl (lv_at hl 1 rfl) ?_
  refine lv_iconst (v := 0) hx hb dX4_block_6 (by decide) ?_
  refine lv_ldc (v := 100000) hx hb hown (hts (.constant RX4 97 (100000)) (by decide +kernel)) dX4_block_7 ?_
  have hF := wz_free hD hS hA
  refine va_calli (va_runS (As := [.int v1, .int 0, .int 100000]) (rest := []) ⟨hx, hb, hml, hown, hts⟩ (c_X4_within l D (wM a cI cZ cJ 0 m_sets m_ways m_penalty m_blocks m_edges m_pairs m_lines m_isFresh m_isAnswer m_time m_touchMany m_touch m_line m_from m_to m_bound m_pairA m_pairB m_comeTo m_greatest m_least m_nowGreatest m_nowLeast m_does m_mostTime m_leastTime m_countUnit m_flagUnit m_worst m_best m_stack) cI cZ cJ _ v1 0 100000 _ h) (va_cwS 3 hts gX4_block_X4_within rfl rfl rfl (by decide +kernel) ⟨Nat.le_of_ble_eq_true rfl, Nat.le_of_ble_eq_true rfl⟩) ⟨wz_blind, fun U hU hW => wz_at hU hW hP hK hD⟩ rfl rfl hl.1 rfl (lv_room (Nat.le_of_ble_eq_true rfl)) dX4_block_9 ⟨Nat.zero_le _, Nat.zero_le _⟩) hS (fun q _ hq => hF q hq) hF (fun r_9 u t H locs ht hvm h hB hz1 hk1 hS => ?_)
  obtain ⟨hP, -, hD⟩ := wz_back ht hF hB
  have hP : va_P D vwCl (wM a cI cZ cJ 0 m_sets m_ways m_penalty m_blocks m_edges m_pairs m_lines m_isFresh m_isAnswer m_time m_touchMany m_touch m_line m_from m_to m_bound m_pairA m_pairB m_comeTo m_greatest m_least m_nowGreatest m_nowLeast m_does m_mostTime m_leastTime m_countUnit m_flagUnit m_worst m_best m_stack) H := hP
  have hD : va_D A (wM a cI cZ cJ 0 m_sets m_ways m_penalty m_blocks m_edges m_pairs m_lines m_isFresh m_isAnswer m_time m_touchMany m_touch m_line m_from m_to m_bound m_pairA m_pairB m_comeTo m_greatest m_least m_nowGreatest m_nowLeast m_does m_mostTime m_leastTime m_countUnit m_flagUnit m_worst m_best m_stack) := hD
  refine lv_if_ne (tgt := 21) hx hb dX4_block_12 (by decide) (fun hc => ?_) (fun hc => ?_)
  · replace h := h.1 hc
    refine lv_aload_n hx hb dX4_block_21 rfl (lv_at hl 0 rfl) ?_
    refine va_get (D := D) (ci := 4) (v := .int m_blocks) (C := RX4) (T := TX4) (N := 32) hx hb hts hinX4 hown hK hP 0 rfl rfl 4 (by decide) (hts (.fieldLink RX4 106 "WorstPathsModel" "blocks" "I") (by decide +kernel)) (fun _ h9 => h9) rfl dX4_block_22 ?_
    refine lv_bipush (v := 40) hx hb dX4_block_25 (by decide) ?_
    refine lv_icmp_ne (tgt := 36) hx hb dX4_block_27 (by decide) (fun hc => ?_) (fun hc => ?_)
    · replace h := h.1 hc
      refine lv_aload_n hx hb dX4_block_36 rfl (lv_at hl 0 rfl) ?_
      refine va_get (D := D) (ci := 4) (v := .ref (a 1)) (C := RX4) (T := TX4) (N := 32) hx hb hts hinX4 hown hK hP 0 rfl rfl 8 (by decide) (hts (.fieldLink RX4 7 "WorstPathsModel" "time" "[I") (by decide +kernel)) (fun _ h9 => h9) rfl dX4_block_37 ?_
      refine lv_aload_n hx hb dX4_block_40 rfl (lv_at hl 0 rfl) ?_
      refine va_get (D := D) (ci := 4) (v := .int m_blocks) (C := RX4) (T := TX4) (N := 32) hx hb hts hinX4 hown hK hP 0 rfl rfl 4 (by decide) (hts (.fieldLink RX4 106 "WorstPathsModel" "blocks" "I") (by decide +kernel)) (fun _ h9 => h9) rfl dX4_block_41 ?_
      refine lv_iload_n hx hb dX4_block_44 rfl (lv_at hl 1 rfl) ?_
      obtain ⟨hq, h⟩ := h
      refine va_iast (D := D) hx hb hK hP hD hS 1 0 rfl rfl hq dX4_block_45 (fun H locs hP hD hS => ?_)
      have hP : va_P D vwCl (wM a cI cZ cJ 0 m_sets m_ways m_penalty m_blocks m_edges m_pairs m_lines m_isFresh m_isAnswer (upd m_time (Int32.toNatClampNeg m_blocks) v1) m_touchMany m_touch m_line m_from m_to m_bound m_pairA m_pairB m_comeTo m_greatest m_least m_nowGreatest m_nowLeast m_does m_mostTime m_leastTime m_countUnit m_flagUnit m_worst m_best m_stack) H := hP
      have hD : va_D A (wM a cI cZ cJ 0 m_sets m_ways m_penalty m_blocks m_edges m_pairs m_lines m_isFresh m_isAnswer (upd m_time (Int32.toNatClampNeg m_blocks) v1) m_touchMany m_touch m_line m_from m_to m_bound m_pairA m_pairB m_comeTo m_greatest m_least m_nowGreatest m_nowLeast m_does m_mostTime m_leastTime m_countUnit m_flagUnit m_worst m_best m_stack) := hD
      refine lv_aload_n hx hb dX4_block_46 rfl (lv_at hl 0 rfl) ?_
      refine lv_dup hx hb dX4_block_47 rfl ?_
      refine va_get (D := D) (ci := 4) (v := .int m_blocks) (C := RX4) (T := TX4) (N := 32) hx hb hts hinX4 hown hK hP 0 rfl rfl 4 (by decide) (hts (.fieldLink RX4 106 "WorstPathsModel" "blocks" "I") (by decide +kernel)) (fun _ h9 => h9) rfl dX4_block_48 ?_
      refine lv_iconst (v := 1) hx hb dX4_block_51 (by decide) ?_
      refine lv_iadd hx hb dX4_block_52 ?_
      refine va_put (D := D) (ci := 4) (v := .int (m_blocks + 1)) (ty := .int) (C := RX4) (T := TX4) (N := 32) hx hb hts hinX4 tyX4 tyX4_ok nmX4 hown hK hP hD hS 0 rfl rfl 4 (by decide) (hts (.fieldLink RX4 106 "WorstPathsModel" "blocks" "I") (by decide +kernel)) (fun _ h9 => h9) rfl (by decide +kernel) rfl rfl (Nat.le_of_ble_eq_true rfl) dX4_block_53 (fun H locs hP hD hS => ?_)
      have hP : va_P D vwCl (wM a cI cZ cJ 0 m_sets m_ways m_penalty (m_blocks + 1) m_edges m_pairs m_lines m_isFresh m_isAnswer (upd m_time (Int32.toNatClampNeg m_blocks) v1) m_touchMany m_touch m_line m_from m_to m_bound m_pairA m_pairB m_comeTo m_greatest m_least m_nowGreatest m_nowLeast m_does m_mostTime m_leastTime m_countUnit m_flagUnit m_worst m_best m_stack) H := hP
      have hD : va_D A (wM a cI cZ cJ 0 m_sets m_ways m_penalty (m_blocks + 1) m_edges m_pairs m_lines m_isFresh m_isAnswer (upd m_time (Int32.toNatClampNeg m_blocks) v1) m_touchMany m_touch m_line m_from m_to m_bound m_pairA m_pairB m_comeTo m_greatest m_least m_nowGreatest m_nowLeast m_does m_mostTime m_leastTime m_countUnit m_flagUnit m_worst m_best m_stack) := hD
      refine lv_aload_n hx hb dX4_block_56 rfl (lv_at hl 0 rfl) ?_
      refine lv_iconst (v := 0) hx hb dX4_block_57 (by decide) ?_
      refine va_put (D := D) (ci := 4) (v := .int 0) (ty := .boolean) (C := RX4) (T := TX4) (N := 32) hx hb hts hinX4 tyX4 tyX4_ok nmX4 hown hK hP hD hS 0 rfl rfl 17 (by decide) (hts (.fieldLink RX4 109 "WorstPathsModel" "isFresh" "Z") (by decide +kernel)) (fun _ h9 => h9) rfl (by decide +kernel) rfl rfl (Nat.le_of_ble_eq_true rfl) dX4_block_58 (fun H locs hP hD hS => ?_)
      have hP : va_P D vwCl (wM a cI cZ cJ 0 m_sets m_ways m_penalty (m_blocks + 1) m_edges m_pairs m_lines 0 m_isAnswer (upd m_time (Int32.toNatClampNeg m_blocks) v1) m_touchMany m_touch m_line m_from m_to m_bound m_pairA m_pairB m_comeTo m_greatest m_least m_nowGreatest m_nowLeast m_does m_mostTime m_leastTime m_countUnit m_flagUnit m_worst m_best m_stack) H := hP
      have hD : va_D A (wM a cI cZ cJ 0 m_sets m_ways m_penalty (m_blocks + 1) m_edges m_pairs m_lines 0 m_isAnswer (upd m_time (Int32.toNatClampNeg m_blocks) v1) m_touchMany m_touch m_line m_from m_to m_bound m_pairA m_pairB m_comeTo m_greatest m_least m_nowGreatest m_nowLeast m_does m_mostTime m_leastTime m_countUnit m_flagUnit m_worst m_best m_stack) := hD
      refine lv_aload_n hx hb dX4_block_61 rfl (lv_at hl 0 rfl) ?_
      refine va_get (D := D) (ci := 4) (v := .int (m_blocks + 1)) (C := RX4) (T := TX4) (N := 32) hx hb hts hinX4 hown hK hP 0 rfl rfl 4 (by decide) (hts (.fieldLink RX4 106 "WorstPathsModel" "blocks" "I") (by decide +kernel)) (fun _ h9 => h9) rfl dX4_block_62 ?_
      refine lv_iconst (v := 1) hx hb dX4_block_65 (by decide) ?_
      refine lv_isub hx hb dX4_block_66 ?_
      refine wz_mono hQz ?_
      exact W.iret (v := ((m_blocks + 1) - 1)) hx hb hr (fun t ht hW => ⟨⟨((m_blocks + 1) - 1), (0, (m_blocks + 1), 0, (upd m_time (Int32.toNatClampNeg m_blocks) v1)), rfl, h, by rw [ht]; exact hP, va_K.moved hW.alike hK, hD⟩, hS.F ht⟩) hS.2.2 dX4_block_67
    · replace h := h.2 hc
      refine lv_aload_n hx hb dX4_block_30 rfl (lv_at hl 0 rfl) ?_
      refine lv_iconst (v := 2) hx hb dX4_block_31 (by decide) ?_
      have hF := wz_free hD hS hA
      refine va_calli (va_runV (As := [.int 2]) (rest := []) ⟨hx, hb, hml, hown, hts⟩ (c_X4_fail l D a cI cZ cJ _ 0 m_sets m_ways m_penalty m_blocks m_edges m_pairs m_lines m_isFresh m_isAnswer m_time m_touchMany m_touch m_line m_from m_to m_bound m_pairA m_pairB m_comeTo m_greatest m_least m_nowGreatest m_nowLeast m_does m_mostTime m_leastTime m_countUnit m_flagUnit m_worst m_best m_stack 2 _ h) (cwV 1 hts gX4_block_X4_fail rfl rfl rfl (by decide +kernel) ⟨Nat.le_of_ble_eq_true rfl, Nat.le_of_ble_eq_true rfl⟩) ⟨wz_blind, va_recv hK hP (ci := 4) (q0 := 0) rfl rfl, fun U hU hW => wz_at hU hW hP hK hD⟩ rfl rfl hl.1 rfl (lv_room (Nat.le_of_ble_eq_true rfl)) dX4_block_32 ⟨Nat.zero_le _, Nat.zero_le _⟩) hS (fun q _ hq => hF q hq) hF (fun r_32 u t H locs ht hvm h hB hz1 hk1 hS => ?_)
      obtain ⟨m_thrown_32, rfl⟩ : ∃ z, z = u := ⟨_, rfl⟩
      obtain ⟨hP, -, hD⟩ := wz_back ht hF hB
      have hP : va_P D vwCl (wM a cI cZ cJ m_thrown_32 m_sets m_ways m_penalty m_blocks m_edges m_pairs m_lines m_isFresh m_isAnswer m_time m_touchMany m_touch m_line m_from m_to m_bound m_pairA m_pairB m_comeTo m_greatest m_least m_nowGreatest m_nowLeast m_does m_mostTime m_leastTime m_countUnit m_flagUnit m_worst m_best m_stack) H := hP
      have hD : va_D A (wM a cI cZ cJ m_thrown_32 m_sets m_ways m_penalty m_blocks m_edges m_pairs m_lines m_isFresh m_isAnswer m_time m_touchMany m_touch m_line m_from m_to m_bound m_pairA m_pairB m_comeTo m_greatest m_least m_nowGreatest m_nowLeast m_does m_mostTime m_leastTime m_countUnit m_flagUnit m_worst m_best m_stack) := hD
      refine wz_mono hQz ?_
      exact W.iret (v := r_32) hx hb hr (fun t ht hW => ⟨⟨r_32, (m_thrown_32, m_blocks, m_isFresh, m_time), rfl, h, by rw [ht]; exact hP, va_K.moved hW.alike hK, hD⟩, hS.F ht⟩) hS.2.2 dX4_block_35
  · replace h := h.2 hc
    refine lv_aload_n hx hb dX4_block_15 rfl (lv_at hl 0 rfl) ?_
    refine lv_iconst (v := 1) hx hb dX4_block_16 (by decide) ?_
    have hF := wz_free hD hS hA
    refine va_calli (va_runV (As := [.int 1]) (rest := []) ⟨hx, hb, hml, hown, hts⟩ (c_X4_fail l D a cI cZ cJ _ 0 m_sets m_ways m_penalty m_blocks m_edges m_pairs m_lines m_isFresh m_isAnswer m_time m_touchMany m_touch m_line m_from m_to m_bound m_pairA m_pairB m_comeTo m_greatest m_least m_nowGreatest m_nowLeast m_does m_mostTime m_leastTime m_countUnit m_flagUnit m_worst m_best m_stack 1 _ h) (cwV 1 hts gX4_block_X4_fail rfl rfl rfl (by decide +kernel) ⟨Nat.le_of_ble_eq_true rfl, Nat.le_of_ble_eq_true rfl⟩) ⟨wz_blind, va_recv hK hP (ci := 4) (q0 := 0) rfl rfl, fun U hU hW => wz_at hU hW hP hK hD⟩ rfl rfl hl.1 rfl (lv_room (Nat.le_of_ble_eq_true rfl)) dX4_block_17 ⟨Nat.zero_le _, Nat.zero_le _⟩) hS (fun q _ hq => hF q hq) hF (fun r_17 u t H locs ht hvm h hB hz1 hk1 hS => ?_)
    obtain ⟨m_thrown_17, rfl⟩ : ∃ z, z = u := ⟨_, rfl⟩
    obtain ⟨hP, -, hD⟩ := wz_back ht hF hB
    have hP : va_P D vwCl (wM a cI cZ cJ m_thrown_17 m_sets m_ways m_penalty m_blocks m_edges m_pairs m_lines m_isFresh m_isAnswer m_time m_touchMany m_touch m_line m_from m_to m_bound m_pairA m_pairB m_comeTo m_greatest m_least m_nowGreatest m_nowLeast m_does m_mostTime m_leastTime m_countUnit m_flagUnit m_worst m_best m_stack) H := hP
    have hD : va_D A (wM a cI cZ cJ m_thrown_17 m_sets m_ways m_penalty m_blocks m_edges m_pairs m_lines m_isFresh m_isAnswer m_time m_touchMany m_touch m_line m_from m_to m_bound m_pairA m_pairB m_comeTo m_greatest m_least m_nowGreatest m_nowLeast m_does m_mostTime m_leastTime m_countUnit m_flagUnit m_worst m_best m_stack) := hD
    refine wz_mono hQz ?_
    exact W.iret (v := r_17) hx hb hr (fun t ht hW => ⟨⟨r_17, (m_thrown_17, m_blocks, m_isFresh, m_time), rfl, h, by rw [ht]; exact hP, va_K.moved hW.alike hK, hD⟩, hS.F ht⟩) hS.2.2 dX4_block_20
def jn_X4_touch_87 (v1 : Int32) (v3 : Int32) (m_thrown : Int32) (m_blocks : Int32) (m_lines : Int32) (m_isFresh : Int32) (m_touchMany : Nat → Int32) (m_touch : Nat → Int32) (m_line : Nat → Int32) (Q : Int32 → Int32 → Int32 → Int32 → (Nat → Int32) → (Nat → Int32) → (Nat → Int32) → Prop) : Prop := vp_in v1 40 ∧ (vp_in ((6 * v1) + (m_touchMany (Int32.toNatClampNeg v1))) 240 ∧ (vp_in v1 40 ∧ (vp_in v1 40 ∧ (vp_in v1 40 ∧ (Q ((upd m_touchMany (Int32.toNatClampNeg v1) ((m_touchMany (Int32.toNatClampNeg v1)) + 1)) (Int32.toNatClampNeg v1)) m_thrown m_lines 0 (upd m_touchMany (Int32.toNatClampNeg v1) ((m_touchMany (Int32.toNatClampNeg v1)) + 1)) (upd m_touch (Int32.toNatClampNeg ((6 * v1) + (m_touchMany (Int32.toNatClampNeg v1)))) v3) m_line)))))
def jn_X4_touch_61 (v1 : Int32) (v2 : Int32) (v3 : Int32) (m_thrown : Int32) (m_blocks : Int32) (m_lines : Int32) (m_isFresh : Int32) (m_touchMany : Nat → Int32) (m_touch : Nat → Int32) (m_line : Nat → Int32) (Q : Int32 → Int32 → Int32 → Int32 → (Nat → Int32) → (Nat → Int32) → (Nat → Int32) → Prop) : Prop := (0 ≤ v3 → jn_X4_touch_87 v1 v3 m_thrown m_blocks m_lines m_isFresh m_touchMany m_touch m_line Q) ∧ (¬ 0 ≤ v3 → vp_in m_lines 40 ∧ (jn_X4_touch_87 v1 m_lines m_thrown m_blocks (m_lines + 1) m_isFresh m_touchMany m_touch (upd m_line (Int32.toNatClampNeg m_lines) v2) Q))
def wp_X4_touch (v1 : Int32) (v2 : Int32) (m_thrown : Int32) (m_blocks : Int32) (m_lines : Int32) (m_isFresh : Int32) (m_touchMany : Nat → Int32) (m_touch : Nat → Int32) (m_line : Nat → Int32) (Q : Int32 → Int32 → Int32 → Int32 → (Nat → Int32) → (Nat → Int32) → (Nat → Int32) → Prop) : Prop := wp_X4_within v1 0 (m_blocks - 1) (fun r_13 => (¬ r_13 = 0 → wp_X4_find v2 m_lines m_line (fun r_27 => vp_in v1 40 ∧ (((m_touchMany (Int32.toNatClampNeg v1)) = 6 → wp_X4_fail 2 0 (fun r_57 m_thrown_57 => Q r_57 m_thrown_57 m_lines m_isFresh m_touchMany m_touch m_line)) ∧ (¬ (m_touchMany (Int32.toNatClampNeg v1)) = 6 → (0 ≤ r_27 → jn_X4_touch_61 v1 v2 r_27 0 m_blocks m_lines m_isFresh m_touchMany m_touch m_line Q) ∧ (¬ 0 ≤ r_27 → (¬ m_lines = 40 → jn_X4_touch_61 v1 v2 r_27 0 m_blocks m_lines m_isFresh m_touchMany m_touch m_line Q) ∧ (m_lines = 40 → wp_X4_fail 2 0 (fun r_57 m_thrown_57 => Q r_57 m_thrown_57 m_lines m_isFresh m_touchMany m_touch m_line))))))) ∧ (r_13 = 0 → wp_X4_fail 1 0 (fun r_21 m_thrown_21 => Q r_21 m_thrown_21 m_lines m_isFresh m_touchMany m_touch m_line)))
abbrev rm_X4_touch : Room := { frames := 1, cells := 0, slots := 0, locals := 22 }
set_option maxHeartbeats 4000000 in
set_option maxRecDepth 100000 in
theorem c_X4_touch (l : Launch) (D : va_G) (a : Nat → Nat) (cI : ClassId) (cZ : ClassId) (cJ : ClassId) (sz : Nat) (m_thrown : Int32) (m_sets : Int32) (m_ways : Int32) (m_penalty : Int32) (m_blocks : Int32) (m_edges : Int32) (m_pairs : Int32) (m_lines : Int32) (m_isFresh : Int32) (m_isAnswer : Int32) (m_time : Nat → Int32) (m_touchMany : Nat → Int32) (m_touch : Nat → Int32) (m_line : Nat → Int32) (m_from : Nat → Int32) (m_to : Nat → Int32) (m_bound : Nat → Int32) (m_pairA : Nat → Int32) (m_pairB : Nat → Int32) (m_comeTo : Nat → Int32) (m_greatest : Nat → Int32) (m_least : Nat → Int32) (m_nowGreatest : Nat → Int32) (m_nowLeast : Nat → Int32) (m_does : Nat → Int32) (m_mostTime : Nat → Int64) (m_leastTime : Nat → Int64) (m_countUnit : Nat → Int32) (m_flagUnit : Nat → Int32) (m_worst : Nat → Int64) (m_best : Nat → Int64) (m_stack : Nat → Int32) (v1 : Int32) (v2 : Int32) (Q : Int32 → Int32 → Int32 → Int32 → (Nat → Int32) → (Nat → Int32) → (Nat → Int32) → Prop) (h : wp_X4_touch v1 v2 m_thrown m_blocks m_lines m_isFresh m_touchMany m_touch m_line Q) : Met l yX4_touch wsX4_touch rm_X4_touch (va_Pc [.ref (a 0), .int v1, .int v2] (inW D cI cZ cJ sz (wM a cI cZ cJ m_thrown m_sets m_ways m_penalty m_blocks m_edges m_pairs m_lines m_isFresh m_isAnswer m_time m_touchMany m_touch m_line m_from m_to m_bound m_pairA m_pairB m_comeTo m_greatest m_least m_nowGreatest m_nowLeast m_does m_mostTime m_leastTime m_countUnit m_flagUnit m_worst m_best m_stack))) (va_Qi (fun (r : Int32) (u : Int32 × Int32 × Int32 × (Nat → Int32) × (Nat → Int32) × (Nat → Int32)) => Q r u.1 u.2.1 u.2.2.1 u.2.2.2.1 u.2.2.2.2.1 u.2.2.2.2.2) (fun (u : Int32 × Int32 × Int32 × (Nat → Int32) × (Nat → Int32) × (Nat → Int32)) => outW D cI cZ cJ (va_A (wM a cI cZ cJ m_thrown m_sets m_ways m_penalty m_blocks m_edges m_pairs m_lines m_isFresh m_isAnswer m_time m_touchMany m_touch m_line m_from m_to m_bound m_pairA m_pairB m_comeTo m_greatest m_least m_nowGreatest m_nowLeast m_does m_mostTime m_leastTime m_countUnit m_flagUnit m_worst m_best m_stack) sz) (wM a cI cZ cJ u.1 m_sets m_ways m_penalty m_blocks m_edges m_pairs u.2.1 u.2.2.1 m_isAnswer m_time u.2.2.2.1 u.2.2.2.2.1 u.2.2.2.2.2 m_from m_to m_bound m_pairA m_pairB m_comeTo m_greatest m_least m_nowGreatest m_nowLeast m_does m_mostTime m_leastTime m_countUnit m_flagUnit m_worst m_best m_stack)) (va_A (wM a cI cZ cJ m_thrown m_sets m_ways m_penalty m_blocks m_edges m_pairs m_lines m_isFresh m_isAnswer m_time m_touchMany m_touch m_line m_from m_to m_bound m_pairA m_pairB m_comeTo m_greatest m_least m_nowGreatest m_nowLeast m_does m_mostTime m_leastTime m_countUnit m_flagUnit m_worst m_best m_stack) sz)) 0 0 (va_A (wM a cI cZ cJ m_thrown m_sets m_ways m_penalty m_blocks m_edges m_pairs m_lines m_isFresh m_isAnswer m_time m_touchMany m_touch m_line m_from m_to m_bound m_pairA m_pairB m_comeTo m_greatest m_least m_nowGreatest m_nowLeast m_does m_mostTime m_leastTime m_countUnit m_flagUnit m_worst m_best m_stack) sz) := by
  refine Met.ofW (cc := cX4_touch) (maxL := 4) (ret := (some .int)) (by decide +kernel) rfl ?_
  intro p e s m args below meth c s₁ B hml hv
  obtain ⟨rfl, hsz, hP, hK, hD0⟩ := hv
  have hx := B.exec
  have hb := B.bytes
  have hr := B.returns
  have hts := atoms_spec (ws := wsX4_touch) B.pre
  have hown : s.vm.findClass RX4 = some m.cls := findClass_of_methodNamed B.named
  have hlocks := B.notSynchronized
  have hinX4 : ∀ w ∈ wsX40, w ∈ wsX4_touch := by decide +kernel
  subst hsz
  have hD := hD0.self (sz := s.heap.size)
  generalize hAe : va_A (wM a cI cZ cJ m_thrown m_sets m_ways m_penalty m_blocks m_edges m_pairs m_lines m_isFresh m_isAnswer m_time m_touchMany m_touch m_line m_from m_to m_bound m_pairA m_pairB m_comeTo m_greatest m_least m_nowGreatest m_nowLeast m_does m_mostTime m_leastTime m_countUnit m_flagUnit m_worst m_best m_stack) s.heap.size = A at hD ⊢
  have hA : ∀ q : Nat, s.heap.size ≤ q → A q := fun q h => by rw [← hAe]; exact Or.inr h
  have hS : va_S A s.heap s.heap [] := va_S.rf
  have hP : va_P D vwCl (wM a cI cZ cJ m_thrown m_sets m_ways m_penalty m_blocks m_edges m_pairs m_lines m_isFresh m_isAnswer m_time m_touchMany m_touch m_line m_from m_to m_bound m_pairA m_pairB m_comeTo m_greatest m_least m_nowGreatest m_nowLeast m_does m_mostTime m_leastTime m_countUnit m_flagUnit m_worst m_best m_stack) s.heap := hP
  have hl := lv_entry ([.ref (a 0), .int v1, .int v2]) (n := 4) (Nat.le_of_ble_eq_true rfl)
  rw [lg_entry_eq]
  generalize (lg_sl ([.ref (a 0), .int v1, .int v2]) ++ List.replicate (4 - (lg_sl ([.ref (a 0), .int v1, .int v2])).length) Slot.unset).toArray = ls at hl ⊢
  have hl : lv_has ls 4 [(0, .ref (a 0)), (1, .int v1), (2, .int v2)] := hl
  refine wz_abs (fun Qz hQz => ?_)
  unfold wp_X4_touch at h
  refine lv_aload_n hx hb dX4_touch_0 rfl (lv_at hl 0 rfl) ?_
  refine lv_iconst (v := 0) hx hb dX4_touch_1 (by decide) ?_
  refine va_put (D := D) (ci := 4) (v := .int 0) (ty := .int) (C := RX4) (T := TX4) (N := 32) hx hb hts hinX4 tyX4 tyX4_ok nmX4 hown hK hP hD hS 0 rfl rfl 0 (by decide) (hts (.fieldLink RX4 94 "WorstPathsModel" "thrown" "I") (by decide +kernel)) (fun _ h9 => h9) rfl (by decide +kernel) rfl rfl (Nat.le_of_ble_eq_true rfl) dX4_touch_2 (fun H locs hP hD hS => ?_)
  have hP : va_P D vwCl (wM a cI cZ cJ 0 m_sets m_ways m_penalty m_blocks m_edges m_pairs m_lines m_isFresh m_isAnswer m_time m_touchMany m_touch m_line m_from m_to m_bound m_pairA m_pairB m_comeTo m_greatest m_least m_nowGreatest m_nowLeast m_does m_mostTime m_leastTime m_countUnit m_flagUnit m_worst m_best m_stack) H := hP
  have hD : va_D A (wM a cI cZ cJ 0 m_sets m_ways m_penalty m_blocks m_edges m_pairs m_lines m_isFresh m_isAnswer m_time m_touchMany m_touch m_line m_from m_to m_bound m_pairA m_pairB m_comeTo m_greatest m_least m_nowGreatest m_nowLeast m_does m_mostTime m_leastTime m_countUnit m_flagUnit m_worst m_best m_stack) := hD
  refine lv_iload_n hx hb dX4_touch_5 rfl (lv_at hl 1 rfl) ?_
  refine lv_iconst (v := 0) hx hb dX4_touch_6 (by decide) ?_
  refine lv_aload_n hx hb dX4_touch_7 rfl (lv_at hl 0 rfl) ?_
  refine va_get (D := D) (ci := 4) (v := .int m_blocks) (C := RX4) (T := TX4) (N := 32) hx hb hts hinX4 hown hK hP 0 rfl rfl 4 (by decide) (hts (.fieldLink RX4 106 "WorstPathsModel" "blocks" "I") (by decide +kernel)) (fun _ h9 => h9) rfl dX4_touch_8 ?_
  refine lv_iconst (v := 1) hx hb dX4_touch_11 (by decide) ?_
  refine lv_isub hx hb dX4_touch_12 ?_
  have hF := wz_free hD hS hA
  refine va_calli (va_runS (As := [.int v1, .int 0, .int (m_blocks - 1)]) (rest := []) ⟨hx, hb, hml, hown, hts⟩ (c_X4_within l D (wM a cI cZ cJ 0 m_sets m_ways m_penalty m_blocks m_edges m_pairs m_lines m_isFresh m_isAnswer m_time m_touchMany m_touch m_line m_from m_to m_bound m_pairA m_pairB m_comeTo m_greatest m_least m_nowGreatest m_nowLeast m_does m_mostTime m_leastTime m_countUnit m_flagUnit m_worst m_best m_stack) cI cZ cJ _ v1 0 (m_blocks - 1) _ h) (va_cwS 3 hts gX4_touch_X4_within rfl rfl rfl (by decide +kernel) ⟨Nat.le_of_ble_eq_true rfl, Nat.le_of_ble_eq_true rfl⟩) ⟨wz_blind, fun U hU hW => wz_at hU hW hP hK hD⟩ rfl rfl hl.1 rfl (lv_room (Nat.le_of_ble_eq_true rfl)) dX4_touch_13 ⟨Nat.zero_le _, Nat.zero_le _⟩) hS (fun q _ hq => hF q hq) hF (fun r_13 u t H locs ht hvm h hB hz1 hk1 hS => ?_)
  obtain ⟨hP, -, hD⟩ := wz_back ht hF hB
  have hP : va_P D vwCl (wM a cI cZ cJ 0 m_sets m_ways m_penalty m_blocks m_edges m_pairs m_lines m_isFresh m_isAnswer m_time m_touchMany m_touch m_line m_from m_to m_bound m_pairA m_pairB m_comeTo m_greatest m_least m_nowGreatest m_nowLeast m_does m_mostTime m_leastTime m_countUnit m_flagUnit m_worst m_best m_stack) H := hP
  have hD : va_D A (wM a cI cZ cJ 0 m_sets m_ways m_penalty m_blocks m_edges m_pairs m_lines m_isFresh m_isAnswer m_time m_touchMany m_touch m_line m_from m_to m_bound m_pairA m_pairB m_comeTo m_greatest m_least m_nowGreatest m_nowLeast m_does m_mostTime m_leastTime m_countUnit m_flagUnit m_worst m_best m_stack) := hD
  refine lv_if_ne (tgt := 25) hx hb dX4_touch_16 (by decide) (fun hc => ?_) (fun hc => ?_)
  · replace h := h.1 hc
    refine lv_aload_n hx hb dX4_touch_25 rfl (lv_at hl 0 rfl) ?_
    refine lv_iload_n hx hb dX4_touch_26 rfl (lv_at hl 2 rfl) ?_
    have hF := wz_free hD hS hA
    refine va_calli (va_runV (As := [.int v2]) (rest := []) ⟨hx, hb, hml, hown, hts⟩ (c_X4_find l D a cI cZ cJ _ 0 m_sets m_ways m_penalty m_blocks m_edges m_pairs m_lines m_isFresh m_isAnswer m_time m_touchMany m_touch m_line m_from m_to m_bound m_pairA m_pairB m_comeTo m_greatest m_least m_nowGreatest m_nowLeast m_does m_mostTime m_leastTime m_countUnit m_flagUnit m_worst m_best m_stack v2 _ h) (cwV 1 hts gX4_touch_X4_find rfl rfl rfl (by decide +kernel) ⟨Nat.le_of_ble_eq_true rfl, Nat.le_of_ble_eq_true rfl⟩) ⟨wz_blind, va_recv hK hP (ci := 4) (q0 := 0) rfl rfl, fun U hU hW => wz_at hU hW hP hK hD⟩ rfl rfl hl.1 rfl (lv_room (Nat.le_of_ble_eq_true rfl)) dX4_touch_27 ⟨Nat.zero_le _, Nat.zero_le _⟩) hS (fun q _ hq => hF q hq) hF (fun r_27 u t H locs ht hvm h hB hz1 hk1 hS => ?_)
    obtain ⟨hP, -, hD⟩ := wz_back ht hF hB
    have hP : va_P D vwCl (wM a cI cZ cJ 0 m_sets m_ways m_penalty m_blocks m_edges m_pairs m_lines m_isFresh m_isAnswer m_time m_touchMany m_touch m_line m_from m_to m_bound m_pairA m_pairB m_comeTo m_greatest m_least m_nowGreatest m_nowLeast m_does m_mostTime m_leastTime m_countUnit m_flagUnit m_worst m_best m_stack) H := hP
    have hD : va_D A (wM a cI cZ cJ 0 m_sets m_ways m_penalty m_blocks m_edges m_pairs m_lines m_isFresh m_isAnswer m_time m_touchMany m_touch m_line m_from m_to m_bound m_pairA m_pairB m_comeTo m_greatest m_least m_nowGreatest m_nowLeast m_does m_mostTime m_leastTime m_countUnit m_flagUnit m_worst m_best m_stack) := hD
    refine lv_istore_n (lv' := [(3, .int r_27), (0, .ref (a 0)), (1, .int v1), (2, .int v2)]) hx hb dX4_touch_30 rfl hl (by decide) rfl (fun ls hl => ?_)
    refine lv_aload_n hx hb dX4_touch_31 rfl (lv_at hl 1 rfl) ?_
    refine va_get (D := D) (ci := 4) (v := .ref (a 2)) (C := RX4) (T := TX4) (N := 32) hx hb hts hinX4 hown hK hP 0 rfl rfl 9 (by decide) (hts (.fieldLink RX4 13 "WorstPathsModel" "touchMany" "[I") (by decide +kernel)) (fun _ h9 => h9) rfl dX4_touch_32 ?_
    refine lv_iload_n hx hb dX4_touch_35 rfl (lv_at hl 2 rfl) ?_
    obtain ⟨hq, h⟩ := h
    refine va_iald (D := D) hx hb hK hP 2 0 rfl rfl hq dX4_touch_36 ?_
    refine lv_bipush (v := 6) hx hb dX4_touch_37 (by decide) ?_
    refine lv_icmp_eq (tgt := 55) hx hb dX4_touch_39 (by decide) (fun hc => ?_) (fun hc => ?_)
    · replace h := h.1 hc
      refine lv_aload_n hx hb dX4_touch_55 rfl (lv_at hl 1 rfl) ?_
      refine lv_iconst (v := 2) hx hb dX4_touch_56 (by decide) ?_
      have hF := wz_free hD hS hA
      refine va_calli (va_runV (As := [.int 2]) (rest := []) ⟨hx, hb, hml, hown, hts⟩ (c_X4_fail l D a cI cZ cJ _ 0 m_sets m_ways m_penalty m_blocks m_edges m_pairs m_lines m_isFresh m_isAnswer m_time m_touchMany m_touch m_line m_from m_to m_bound m_pairA m_pairB m_comeTo m_greatest m_least m_nowGreatest m_nowLeast m_does m_mostTime m_leastTime m_countUnit m_flagUnit m_worst m_best m_stack 2 _ h) (cwV 1 hts gX4_touch_X4_fail rfl rfl rfl (by decide +kernel) ⟨Nat.le_of_ble_eq_true rfl, Nat.le_of_ble_eq_true rfl⟩) ⟨wz_blind, va_recv hK hP (ci := 4) (q0 := 0) rfl rfl, fun U hU hW => wz_at hU hW hP hK hD⟩ rfl rfl hl.1 rfl (lv_room (Nat.le_of_ble_eq_true rfl)) dX4_touch_57 ⟨Nat.zero_le _, Nat.zero_le _⟩) hS (fun q _ hq => hF q hq) hF (fun r_57 u t H locs ht hvm h hB hz1 hk1 hS => ?_)
      obtain ⟨m_thrown_57, rfl⟩ : ∃ z, z = u := ⟨_, rfl⟩
      obtain ⟨hP, -, hD⟩ := wz_back ht hF hB
      have hP : va_P D vwCl (wM a cI cZ cJ m_thrown_57 m_sets m_ways m_penalty m_blocks m_edges m_pairs m_lines m_isFresh m_isAnswer m_time m_touchMany m_touch m_line m_from m_to m_bound m_pairA m_pairB m_comeTo m_greatest m_least m_nowGreatest m_nowLeast m_does m_mostTime m_leastTime m_countUnit m_flagUnit m_worst m_best m_stack) H := hP
      have hD : va_D A (wM a cI cZ cJ m_thrown_57 m_sets m_ways m_penalty m_blocks m_edges m_pairs m_lines m_isFresh m_isAnswer m_time m_touchMany m_touch m_line m_from m_to m_bound m_pairA m_pairB m_comeTo m_greatest m_least m_nowGreatest m_nowLeast m_does m_mostTime m_leastTime m_countUnit m_flagUnit m_worst m_best m_stack) := hD
      refine wz_mono hQz ?_
      exact W.iret (v := r_57) hx hb hr (fun t ht hW => ⟨⟨r_57, (m_thrown_57, m_lines, m_isFresh, m_touchMany, m_touch, m_line), rfl, h, by rw [ht]; exact hP, va_K.moved hW.alike hK, hD⟩, hS.F ht⟩) hS.2.2 dX4_touch_60
    · replace h := h.2 hc
      refine lv_iload_n hx hb dX4_touch_42 rfl (lv_at hl 0 rfl) ?_
      have JP61 : jn_X4_touch_61 v1 v2 r_27 0 m_blocks m_lines m_isFresh m_touchMany m_touch m_line Q → ∀ (H : Heap) (locs : List Loc), va_P D vwCl (wM a cI cZ cJ 0 m_sets m_ways m_penalty m_blocks m_edges m_pairs m_lines m_isFresh m_isAnswer m_time m_touchMany m_touch m_line m_from m_to m_bound m_pairA m_pairB m_comeTo m_greatest m_least m_nowGreatest m_nowLeast m_does m_mostTime m_leastTime m_countUnit m_flagUnit m_worst m_best m_stack) H → va_D A (wM a cI cZ cJ 0 m_sets m_ways m_penalty m_blocks m_edges m_pairs m_lines m_isFresh m_isAnswer m_time m_touchMany m_touch m_line m_from m_to m_bound m_pairA m_pairB m_comeTo m_greatest m_least m_nowGreatest m_nowLeast m_does m_mostTime m_leastTime m_countUnit m_flagUnit m_worst m_best m_stack) → va_S A s.heap H locs → ∀ (ls : Array Slot), lv_has ls 4 [(0, .ref (a 0)), (1, .int v1), (2, .int v2), (3, .int r_27)] → W p l e (headSpec wsX4_touch rm_X4_touch).room s m ([Value.ref (a 0), Value.int v1, Value.int v2] : List Value).toArray below meth c H locs 0 0 Qz (F0 m 61 ls []) := by
        intro  h H locs hP hD hS ls hl
        unfold jn_X4_touch_61 at h
        refine lv_iload_n hx hb dX4_touch_61 rfl (lv_at hl 3 rfl) ?_
        have JP87 : ∀ (v3_87 : Int32) (m_lines_87 : Int32) (m_line_87 : Nat → Int32), jn_X4_touch_87 v1 v3_87 0 m_blocks m_lines_87 m_isFresh m_touchMany m_touch m_line_87 Q → ∀ (H : Heap) (locs : List Loc), va_P D vwCl (wM a cI cZ cJ 0 m_sets m_ways m_penalty m_blocks m_edges m_pairs m_lines_87 m_isFresh m_isAnswer m_time m_touchMany m_touch m_line_87 m_from m_to m_bound m_pairA m_pairB m_comeTo m_greatest m_least m_nowGreatest m_nowLeast m_does m_mostTime m_leastTime m_countUnit m_flagUnit m_worst m_best m_stack) H → va_D A (wM a cI cZ cJ 0 m_sets m_ways m_penalty m_blocks m_edges m_pairs m_lines_87 m_isFresh m_isAnswer m_time m_touchMany m_touch m_line_87 m_from m_to m_bound m_pairA m_pairB m_comeTo m_greatest m_least m_nowGreatest m_nowLeast m_does m_mostTime m_leastTime m_countUnit m_flagUnit m_worst m_best m_stack) → va_S A s.heap H locs → ∀ (ls : Array Slot), lv_has ls 4 [(0, .ref (a 0)), (1, .int v1), (3, .int v3_87)] → W p l e (headSpec wsX4_touch rm_X4_touch).room s m ([Value.ref (a 0), Value.int v1, Value.int v2] : List Value).toArray below meth c H locs 0 0 Qz (F0 m 87 ls []) := by
          intro v3_87 m_lines_87 m_line_87 h H locs hP hD hS ls hl
          unfold jn_X4_touch_87 at h
          refine lv_aload_n hx hb dX4_touch_87 rfl (lv_at hl 0 rfl) ?_
          refine va_get (D := D) (ci := 4) (v := .ref (a 3)) (C := RX4) (T := TX4) (N := 32) hx hb hts hinX4 hown hK hP 0 rfl rfl 10 (by decide) (hts (.fieldLink RX4 16 "WorstPathsModel" "touch" "[I") (by decide +kernel)) (fun _ h9 => h9) rfl dX4_touch_88 ?_
          refine lv_bipush (v := 6) hx hb dX4_touch_91 (by decide) ?_
          refine lv_iload_n hx hb dX4_touch_93 rfl (lv_at hl 1 rfl) ?_
          refine lv_imul hx hb dX4_touch_94 ?_
          refine lv_aload_n hx hb dX4_touch_95 rfl (lv_at hl 0 rfl) ?_
          refine va_get (D := D) (ci := 4) (v := .ref (a 2)) (C := RX4) (T := TX4) (N := 32) hx hb hts hinX4 hown hK hP 0 rfl rfl 9 (by decide) (hts (.fieldLink RX4 13 "WorstPathsModel" "touchMany" "[I") (by decide +kernel)) (fun _ h9 => h9) rfl dX4_touch_96 ?_
          refine lv_iload_n hx hb dX4_touch_99 rfl (lv_at hl 1 rfl) ?_
          obtain ⟨hq, h⟩ := h
          refine va_iald (D := D) hx hb hK hP 2 0 rfl rfl hq dX4_touch_100 ?_
          refine lv_iadd hx hb dX4_touch_101 ?_
          refine lv_iload_n hx hb dX4_touch_102 rfl (lv_at hl 2 rfl) ?_
          obtain ⟨hq, h⟩ := h
          refine va_iast (D := D) hx hb hK hP hD hS 3 0 rfl rfl hq dX4_touch_103 (fun H locs hP hD hS => ?_)
          have hP : va_P D vwCl (wM a cI cZ cJ 0 m_sets m_ways m_penalty m_blocks m_edges m_pairs m_lines_87 m_isFresh m_isAnswer m_time m_touchMany (upd m_touch (Int32.toNatClampNeg ((6 * v1) + (m_touchMany (Int32.toNatClampNeg v1)))) v3_87) m_line_87 m_from m_to m_bound m_pairA m_pairB m_comeTo m_greatest m_least m_nowGreatest m_nowLeast m_does m_mostTime m_leastTime m_countUnit m_flagUnit m_worst m_best m_stack) H := hP
          have hD : va_D A (wM a cI cZ cJ 0 m_sets m_ways m_penalty m_blocks m_edges m_pairs m_lines_87 m_isFresh m_isAnswer m_time m_touchMany (upd m_touch (Int32.toNatClampNeg ((6 * v1) + (m_touchMany (Int32.toNatClampNeg v1)))) v3_87) m_line_87 m_from m_to m_bound m_pairA m_pairB m_comeTo m_greatest m_least m_nowGreatest m_nowLeast m_does m_mostTime m_leastTime m_countUnit m_flagUnit m_worst m_best m_stack) := hD
          refine lv_aload_n hx hb dX4_touch_104 rfl (lv_at hl 0 rfl) ?_
          refine va_get (D := D) (ci := 4) (v := .ref (a 2)) (C := RX4) (T := TX4) (N := 32) hx hb hts hinX4 hown hK hP 0 rfl rfl 9 (by decide) (hts (.fieldLink RX4 13 "WorstPathsModel" "touchMany" "[I") (by decide +kernel)) (fun _ h9 => h9) rfl dX4_touch_105 ?_
          refine lv_iload_n hx hb dX4_touch_108 rfl (lv_at hl 1 rfl) ?_
          refine lv_dup2_11 hx hb dX4_touch_109 rfl rfl ?_
          obtain ⟨hq, h⟩ := h
          refine va_iald (D := D) hx hb hK hP 2 0 rfl rfl hq dX4_touch_110 ?_
          refine lv_iconst (v := 1) hx hb dX4_touch_111 (by decide) ?_
          refine lv_iadd hx hb dX4_touch_112 ?_
          obtain ⟨hq, h⟩ := h
          refine va_iast (D := D) hx hb hK hP hD hS 2 0 rfl rfl hq dX4_touch_113 (fun H locs hP hD hS => ?_)
          have hP : va_P D vwCl (wM a cI cZ cJ 0 m_sets m_ways m_penalty m_blocks m_edges m_pairs m_lines_87 m_isFresh m_isAnswer m_time (upd m_touchMany (Int32.toNatClampNeg v1) ((m_touchMany (Int32.toNatClampNeg v1)) + 1)) (upd m_touch (Int32.toNatClampNeg ((6 * v1) + (m_touchMany (Int32.toNatClampNeg v1)))) v3_87) m_line_87 m_from m_to m_bound m_pairA m_pairB m_comeTo m_greatest m_least m_nowGreatest m_nowLeast m_does m_mostTime m_leastTime m_countUnit m_flagUnit m_worst m_best m_stack) H := hP
          have hD : va_D A (wM a cI cZ cJ 0 m_sets m_ways m_penalty m_blocks m_edges m_pairs m_lines_87 m_isFresh m_isAnswer m_time (upd m_touchMany (Int32.toNatClampNeg v1) ((m_touchMany (Int32.toNatClampNeg v1)) + 1)) (upd m_touch (Int32.toNatClampNeg ((6 * v1) + (m_touchMany (Int32.toNatClampNeg v1)))) v3_87) m_line_87 m_from m_to m_bound m_pairA m_pairB m_comeTo m_greatest m_least m_nowGreatest m_nowLeast m_does m_mostTime m_leastTime m_countUnit m_flagUnit m_worst m_best m_stack) := hD
          refine lv_aload_n hx hb dX4_touch_114 rfl (lv_at hl 0 rfl) ?_
          refine lv_iconst (v := 0) hx hb dX4_touch_115 (by decide) ?_
          refine va_put (D := D) (ci := 4) (v := .int 0) (ty := .boolean) (C := RX4) (T := TX4) (N := 32) hx hb hts hinX4 tyX4 tyX4_ok nmX4 hown hK hP hD hS 0 rfl rfl 17 (by decide) (hts (.fieldLink RX4 109 "WorstPathsModel" "isFresh" "Z") (by decide +kernel)) (fun _ h9 => h9) rfl (by decide +kernel) rfl rfl (Nat.le_of_ble_eq_true rfl) dX4_touch_116 (fun H locs hP hD hS => ?_)
          have hP : va_P D vwCl (wM a cI cZ cJ 0 m_sets m_ways m_penalty m_blocks m_edges m_pairs m_lines_87 0 m_isAnswer m_time (upd m_touchMany (Int32.toNatClampNeg v1) ((m_touchMany (Int32.toNatClampNeg v1)) + 1)) (upd m_touch (Int32.toNatClampNeg ((6 * v1) + (m_touchMany (Int32.toNatClampNeg v1)))) v3_87) m_line_87 m_from m_to m_bound m_pairA m_pairB m_comeTo m_greatest m_least m_nowGreatest m_nowLeast m_does m_mostTime m_leastTime m_countUnit m_flagUnit m_worst m_best m_stack) H := hP
          have hD : va_D A (wM a cI cZ cJ 0 m_sets m_ways m_penalty m_blocks m_edges m_pairs m_lines_87 0 m_isAnswer m_time (upd m_touchMany (Int32.toNatClampNeg v1) ((m_touchMany (Int32.toNatClampNeg v1)) + 1)) (upd m_touch (Int32.toNatClampNeg ((6 * v1) + (m_touchMany (Int32.toNatClampNeg v1)))) v3_87) m_line_87 m_from m_to m_bound m_pairA m_pairB m_comeTo m_greatest m_least m_nowGreatest m_nowLeast m_does m_mostTime m_leastTime m_countUnit m_flagUnit m_worst m_best m_stack) := hD
          refine lv_aload_n hx hb dX4_touch_119 rfl (lv_at hl 0 rfl) ?_
          refine va_get (D := D) (ci := 4) (v := .ref (a 2)) (C := RX4) (T := TX4) (N := 32) hx hb hts hinX4 hown hK hP 0 rfl rfl 9 (by decide) (hts (.fieldLink RX4 13 "WorstPathsModel" "touchMany" "[I") (by decide +kernel)) (fun _ h9 => h9) rfl dX4_touch_120 ?_
          refine lv_iload_n hx hb dX4_touch_123 rfl (lv_at hl 1 rfl) ?_
          obtain ⟨hq, h⟩ := h
          refine va_iald (D := D) hx hb hK hP 2 0 rfl rfl hq dX4_touch_124 ?_
          refine wz_mono hQz ?_
          exact W.iret (v := ((upd m_touchMany (Int32.toNatClampNeg v1) ((m_touchMany (Int32.toNatClampNeg v1)) + 1)) (Int32.toNatClampNeg v1))) hx hb hr (fun t ht hW => ⟨⟨((upd m_touchMany (Int32.toNatClampNeg v1) ((m_touchMany (Int32.toNatClampNeg v1)) + 1)) (Int32.toNatClampNeg v1)), (0, m_lines_87, 0, (upd m_touchMany (Int32.toNatClampNeg v1) ((m_touchMany (Int32.toNatClampNeg v1)) + 1)), (upd m_touch (Int32.toNatClampNeg ((6 * v1) + (m_touchMany (Int32.toNatClampNeg v1)))) v3_87), m_line_87), rfl, h, by rw [ht]; exact hP, va_K.moved hW.alike hK, hD⟩, hS.F ht⟩) hS.2.2 dX4_touch_125
        refine lv_if_ge (tgt := 87) hx hb dX4_touch_62 (by decide) (fun hc => ?_) (fun hc => ?_)
        · replace h := h.1 hc
          exact JP87 r_27 m_lines m_line h _ _ hP hD hS _ (lv_sub hl [0, 1, 3] rfl)
        · replace h := h.2 hc
          refine lv_aload_n hx hb dX4_touch_65 rfl (lv_at hl 0 rfl) ?_
          refine va_get (D := D) (ci := 4) (v := .int m_lines) (C := RX4) (T := TX4) (N := 32) hx hb hts hinX4 hown hK hP 0 rfl rfl 7 (by decide) (hts (.fieldLink RX4 113 "WorstPathsModel" "lines" "I") (by decide +kernel)) (fun _ h9 => h9) rfl dX4_touch_66 ?_
          refine lv_istore_n (lv' := [(3, .int m_lines), (0, .ref (a 0)), (1, .int v1), (2, .int v2)]) hx hb dX4_touch_69 rfl hl (by decide) rfl (fun ls hl => ?_)
          refine lv_aload_n hx hb dX4_touch_70 rfl (lv_at hl 1 rfl) ?_
          refine va_get (D := D) (ci := 4) (v := .ref (a 4)) (C := RX4) (T := TX4) (N := 32) hx hb hts hinX4 hown hK hP 0 rfl rfl 11 (by decide) (hts (.fieldLink RX4 19 "WorstPathsModel" "line" "[I") (by decide +kernel)) (fun _ h9 => h9) rfl dX4_touch_71 ?_
          refine lv_iload_n hx hb dX4_touch_74 rfl (lv_at hl 0 rfl) ?_
          refine lv_iload_n hx hb dX4_touch_75 rfl (lv_at hl 3 rfl) ?_
          obtain ⟨hq, h⟩ := h
          refine va_iast (D := D) hx hb hK hP hD hS 4 0 rfl rfl hq dX4_touch_76 (fun H locs hP hD hS => ?_)
          have hP : va_P D vwCl (wM a cI cZ cJ 0 m_sets m_ways m_penalty m_blocks m_edges m_pairs m_lines m_isFresh m_isAnswer m_time m_touchMany m_touch (upd m_line (Int32.toNatClampNeg m_lines) v2) m_from m_to m_bound m_pairA m_pairB m_comeTo m_greatest m_least m_nowGreatest m_nowLeast m_does m_mostTime m_leastTime m_countUnit m_flagUnit m_worst m_best m_stack) H := hP
          have hD : va_D A (wM a cI cZ cJ 0 m_sets m_ways m_penalty m_blocks m_edges m_pairs m_lines m_isFresh m_isAnswer m_time m_touchMany m_touch (upd m_line (Int32.toNatClampNeg m_lines) v2) m_from m_to m_bound m_pairA m_pairB m_comeTo m_greatest m_least m_nowGreatest m_nowLeast m_does m_mostTime m_leastTime m_countUnit m_flagUnit m_worst m_best m_stack) := hD
          refine lv_aload_n hx hb dX4_touch_77 rfl (lv_at hl 1 rfl) ?_
          refine lv_dup hx hb dX4_touch_78 rfl ?_
          refine va_get (D := D) (ci := 4) (v := .int m_lines) (C := RX4) (T := TX4) (N := 32) hx hb hts hinX4 hown hK hP 0 rfl rfl 7 (by decide) (hts (.fieldLink RX4 113 "WorstPathsModel" "lines" "I") (by decide +kernel)) (fun _ h9 => h9) rfl dX4_touch_79 ?_
          refine lv_iconst (v := 1) hx hb dX4_touch_82 (by decide) ?_
          refine lv_iadd hx hb dX4_touch_83 ?_
          refine va_put (D := D) (ci := 4) (v := .int (m_lines + 1)) (ty := .int) (C := RX4) (T := TX4) (N := 32) hx hb hts hinX4 tyX4 tyX4_ok nmX4 hown hK hP hD hS 0 rfl rfl 7 (by decide) (hts (.fieldLink RX4 113 "WorstPathsModel" "lines" "I") (by decide +kernel)) (fun _ h9 => h9) rfl (by decide +kernel) rfl rfl (Nat.le_of_ble_eq_true rfl) dX4_touch_84 (fun H locs hP hD hS => ?_)
          have hP : va_P D vwCl (wM a cI cZ cJ 0 m_sets m_ways m_penalty m_blocks m_edges m_pairs (m_lines + 1) m_isFresh m_isAnswer m_time m_touchMany m_touch (upd m_line (Int32.toNatClampNeg m_lines) v2) m_from m_to m_bound m_pairA m_pairB m_comeTo m_greatest m_least m_nowGreatest m_nowLeast m_does m_mostTime m_leastTime m_countUnit m_flagUnit m_worst m_best m_stack) H := hP
          have hD : va_D A (wM a cI cZ cJ 0 m_sets m_ways m_penalty m_blocks m_edges m_pairs (m_lines + 1) m_isFresh m_isAnswer m_time m_touchMany m_touch (upd m_line (Int32.toNatClampNeg m_lines) v2) m_from m_to m_bound m_pairA m_pairB m_comeTo m_greatest m_least m_nowGreatest m_nowLeast m_does m_mostTime m_leastTime m_countUnit m_flagUnit m_worst m_best m_stack) := hD
          exact JP87 m_lines (m_lines + 1) (upd m_line (Int32.toNatClampNeg m_lines) v2) h _ _ hP hD hS _ (lv_sub hl [1, 2, 0] rfl)
      refine lv_if_ge (tgt := 61) hx hb dX4_touch_43 (by decide) (fun hc => ?_) (fun hc => ?_)
      · replace h := h.1 hc
        exact JP61  h _ _ hP hD hS _ (lv_sub hl [1, 2, 3, 0] rfl)
      · replace h := h.2 hc
        refine lv_aload_n hx hb dX4_touch_46 rfl (lv_at hl 1 rfl) ?_
        refine va_get (D := D) (ci := 4) (v := .int m_lines) (C := RX4) (T := TX4) (N := 32) hx hb hts hinX4 hown hK hP 0 rfl rfl 7 (by decide) (hts (.fieldLink RX4 113 "WorstPathsModel" "lines" "I") (by decide +kernel)) (fun _ h9 => h9) rfl dX4_touch_47 ?_
        refine lv_bipush (v := 40) hx hb dX4_touch_50 (by decide) ?_
        refine lv_icmp_ne (tgt := 61) hx hb dX4_touch_52 (by decide) (fun hc => ?_) (fun hc => ?_)
        · replace h := h.1 hc
          exact JP61  h _ _ hP hD hS _ (lv_sub hl [1, 2, 3, 0] rfl)
        · replace h := h.2 hc
          refine lv_aload_n hx hb dX4_touch_55 rfl (lv_at hl 1 rfl) ?_
          refine lv_iconst (v := 2) hx hb dX4_touch_56 (by decide) ?_
          have hF := wz_free hD hS hA
          refine va_calli (va_runV (As := [.int 2]) (rest := []) ⟨hx, hb, hml, hown, hts⟩ (c_X4_fail l D a cI cZ cJ _ 0 m_sets m_ways m_penalty m_blocks m_edges m_pairs m_lines m_isFresh m_isAnswer m_time m_touchMany m_touch m_line m_from m_to m_bound m_pairA m_pairB m_comeTo m_greatest m_least m_nowGreatest m_nowLeast m_does m_mostTime m_leastTime m_countUnit m_flagUnit m_worst m_best m_stack 2 _ h) (cwV 1 hts gX4_touch_X4_fail rfl rfl rfl (by decide +kernel) ⟨Nat.le_of_ble_eq_true rfl, Nat.le_of_ble_eq_true rfl⟩) ⟨wz_blind, va_recv hK hP (ci := 4) (q0 := 0) rfl rfl, fun U hU hW => wz_at hU hW hP hK hD⟩ rfl rfl hl.1 rfl (lv_room (Nat.le_of_ble_eq_true rfl)) dX4_touch_57 ⟨Nat.zero_le _, Nat.zero_le _⟩) hS (fun q _ hq => hF q hq) hF (fun r_57 u t H locs ht hvm h hB hz1 hk1 hS => ?_)
          obtain ⟨m_thrown_57, rfl⟩ : ∃ z, z = u := ⟨_, rfl⟩
          obtain ⟨hP, -, hD⟩ := wz_back ht hF hB
          have hP : va_P D vwCl (wM a cI cZ cJ m_thrown_57 m_sets m_ways m_penalty m_blocks m_edges m_pairs m_lines m_isFresh m_isAnswer m_time m_touchMany m_touch m_line m_from m_to m_bound m_pairA m_pairB m_comeTo m_greatest m_least m_nowGreatest m_nowLeast m_does m_mostTime m_leastTime m_countUnit m_flagUnit m_worst m_best m_stack) H := hP
          have hD : va_D A (wM a cI cZ cJ m_thrown_57 m_sets m_ways m_penalty m_blocks m_edges m_pairs m_lines m_isFresh m_isAnswer m_time m_touchMany m_touch m_line m_from m_to m_bound m_pairA m_pairB m_comeTo m_greatest m_least m_nowGreatest m_nowLeast m_does m_mostTime m_leastTime m_countUnit m_flagUnit m_worst m_best m_stack) := hD
          refine wz_mono hQz ?_
          exact W.iret (v := r_57) hx hb hr (fun t ht hW => ⟨⟨r_57, (m_thrown_57, m_lines, m_isFresh, m_touchMany, m_touch, m_line), rfl, h, by rw [ht]; exact hP, va_K.moved hW.alike hK, hD⟩, hS.F ht⟩) hS.2.2 dX4_touch_60
  · replace h := h.2 hc
    refine lv_aload_n hx hb dX4_touch_19 rfl (lv_at hl 0 rfl) ?_
    refine lv_iconst (v := 1) hx hb dX4_touch_20 (by decide) ?_
    have hF := wz_free hD hS hA
    refine va_calli (va_runV (As := [.int 1]) (rest := []) ⟨hx, hb, hml, hown, hts⟩ (c_X4_fail l D a cI cZ cJ _ 0 m_sets m_ways m_penalty m_blocks m_edges m_pairs m_lines m_isFresh m_isAnswer m_time m_touchMany m_touch m_line m_from m_to m_bound m_pairA m_pairB m_comeTo m_greatest m_least m_nowGreatest m_nowLeast m_does m_mostTime m_leastTime m_countUnit m_flagUnit m_worst m_best m_stack 1 _ h) (cwV 1 hts gX4_touch_X4_fail rfl rfl rfl (by decide +kernel) ⟨Nat.le_of_ble_eq_true rfl, Nat.le_of_ble_eq_true rfl⟩) ⟨wz_blind, va_recv hK hP (ci := 4) (q0 := 0) rfl rfl, fun U hU hW => wz_at hU hW hP hK hD⟩ rfl rfl hl.1 rfl (lv_room (Nat.le_of_ble_eq_true rfl)) dX4_touch_21 ⟨Nat.zero_le _, Nat.zero_le _⟩) hS (fun q _ hq => hF q hq) hF (fun r_21 u t H locs ht hvm h hB hz1 hk1 hS => ?_)
    obtain ⟨m_thrown_21, rfl⟩ : ∃ z, z = u := ⟨_, rfl⟩
    obtain ⟨hP, -, hD⟩ := wz_back ht hF hB
    have hP : va_P D vwCl (wM a cI cZ cJ m_thrown_21 m_sets m_ways m_penalty m_blocks m_edges m_pairs m_lines m_isFresh m_isAnswer m_time m_touchMany m_touch m_line m_from m_to m_bound m_pairA m_pairB m_comeTo m_greatest m_least m_nowGreatest m_nowLeast m_does m_mostTime m_leastTime m_countUnit m_flagUnit m_worst m_best m_stack) H := hP
    have hD : va_D A (wM a cI cZ cJ m_thrown_21 m_sets m_ways m_penalty m_blocks m_edges m_pairs m_lines m_isFresh m_isAnswer m_time m_touchMany m_touch m_line m_from m_to m_bound m_pairA m_pairB m_comeTo m_greatest m_least m_nowGreatest m_nowLeast m_does m_mostTime m_leastTime m_countUnit m_flagUnit m_worst m_best m_stack) := hD
    refine wz_mono hQz ?_
    exact W.iret (v := r_21) hx hb hr (fun t ht hW => ⟨⟨r_21, (m_thrown_21, m_lines, m_isFresh, m_touchMany, m_touch, m_line), rfl, h, by rw [ht]; exact hP, va_K.moved hW.alike hK, hD⟩, hS.F ht⟩) hS.2.2 dX4_touch_24
def wp_X4_edge (v1 : Int32) (v2 : Int32) (m_thrown : Int32) (m_blocks : Int32) (m_edges : Int32) (m_isFresh : Int32) (m_from : Nat → Int32) (m_to : Nat → Int32) (m_bound : Nat → Int32) (Q : Int32 → Int32 → Int32 → Int32 → (Nat → Int32) → (Nat → Int32) → (Nat → Int32) → Prop) : Prop := wp_X4_within v1 0 (m_blocks - 1) (fun r_13 => (r_13 = 0 → wp_X4_fail 1 0 (fun r_35 m_thrown_35 => Q r_35 m_thrown_35 m_edges m_isFresh m_from m_to m_bound)) ∧ (¬ r_13 = 0 → wp_X4_within v2 0 (m_blocks - 1) (fun r_27 => (¬ r_27 = 0 → (¬ m_edges = 80 → vp_in m_edges 80 ∧ (vp_in m_edges 80 ∧ (vp_in m_edges 80 ∧ (Q ((m_edges + 1) - 1) 0 (m_edges + 1) 0 (upd m_from (Int32.toNatClampNeg m_edges) v1) (upd m_to (Int32.toNatClampNeg m_edges) v2) (upd m_bound (Int32.toNatClampNeg m_edges) (-1)))))) ∧ (m_edges = 80 → wp_X4_fail 2 0 (fun r_50 m_thrown_50 => Q r_50 m_thrown_50 m_edges m_isFresh m_from m_to m_bound))) ∧ (r_27 = 0 → wp_X4_fail 1 0 (fun r_35 m_thrown_35 => Q r_35 m_thrown_35 m_edges m_isFresh m_from m_to m_bound)))))
abbrev rm_X4_edge : Room := { frames := 1, cells := 0, slots := 0, locals := 22 }
set_option maxHeartbeats 4000000 in
set_option maxRecDepth 100000 in
theorem c_X4_edge (l : Launch) (D : va_G) (a : Nat → Nat) (cI : ClassId) (cZ : ClassId) (cJ : ClassId) (sz : Nat) (m_thrown : Int32) (m_sets : Int32) (m_ways : Int32) (m_penalty : Int32) (m_blocks : Int32) (m_edges : Int32) (m_pairs : Int32) (m_lines : Int32) (m_isFresh : Int32) (m_isAnswer : Int32) (m_time : Nat → Int32) (m_touchMany : Nat → Int32) (m_touch : Nat → Int32) (m_line : Nat → Int32) (m_from : Nat → Int32) (m_to : Nat → Int32) (m_bound : Nat → Int32) (m_pairA : Nat → Int32) (m_pairB : Nat → Int32) (m_comeTo : Nat → Int32) (m_greatest : Nat → Int32) (m_least : Nat → Int32) (m_nowGreatest : Nat → Int32) (m_nowLeast : Nat → Int32) (m_does : Nat → Int32) (m_mostTime : Nat → Int64) (m_leastTime : Nat → Int64) (m_countUnit : Nat → Int32) (m_flagUnit : Nat → Int32) (m_worst : Nat → Int64) (m_best : Nat → Int64) (m_stack : Nat → Int32) (v1 : Int32) (v2 : Int32) (Q : Int32 → Int32 → Int32 → Int32 → (Nat → Int32) → (Nat → Int32) → (Nat → Int32) → Prop) (h : wp_X4_edge v1 v2 m_thrown m_blocks m_edges m_isFresh m_from m_to m_bound Q) : Met l yX4_edge wsX4_edge rm_X4_edge (va_Pc [.ref (a 0), .int v1, .int v2] (inW D cI cZ cJ sz (wM a cI cZ cJ m_thrown m_sets m_ways m_penalty m_blocks m_edges m_pairs m_lines m_isFresh m_isAnswer m_time m_touchMany m_touch m_line m_from m_to m_bound m_pairA m_pairB m_comeTo m_greatest m_least m_nowGreatest m_nowLeast m_does m_mostTime m_leastTime m_countUnit m_flagUnit m_worst m_best m_stack))) (va_Qi (fun (r : Int32) (u : Int32 × Int32 × Int32 × (Nat → Int32) × (Nat → Int32) × (Nat → Int32)) => Q r u.1 u.2.1 u.2.2.1 u.2.2.2.1 u.2.2.2.2.1 u.2.2.2.2.2) (fun (u : Int32 × Int32 × Int32 × (Nat → Int32) × (Nat → Int32) × (Nat → Int32)) => outW D cI cZ cJ (va_A (wM a cI cZ cJ m_thrown m_sets m_ways m_penalty m_blocks m_edges m_pairs m_lines m_isFresh m_isAnswer m_time m_touchMany m_touch m_line m_from m_to m_bound m_pairA m_pairB m_comeTo m_greatest m_least m_nowGreatest m_nowLeast m_does m_mostTime m_leastTime m_countUnit m_flagUnit m_worst m_best m_stack) sz) (wM a cI cZ cJ u.1 m_sets m_ways m_penalty m_blocks u.2.1 m_pairs m_lines u.2.2.1 m_isAnswer m_time m_touchMany m_touch m_line u.2.2.2.1 u.2.2.2.2.1 u.2.2.2.2.2 m_pairA m_pairB m_comeTo m_greatest m_least m_nowGreatest m_nowLeast m_does m_mostTime m_leastTime m_countUnit m_flagUnit m_worst m_best m_stack)) (va_A (wM a cI cZ cJ m_thrown m_sets m_ways m_penalty m_blocks m_edges m_pairs m_lines m_isFresh m_isAnswer m_time m_touchMany m_touch m_line m_from m_to m_bound m_pairA m_pairB m_comeTo m_greatest m_least m_nowGreatest m_nowLeast m_does m_mostTime m_leastTime m_countUnit m_flagUnit m_worst m_best m_stack) sz)) 0 0 (va_A (wM a cI cZ cJ m_thrown m_sets m_ways m_penalty m_blocks m_edges m_pairs m_lines m_isFresh m_isAnswer m_time m_touchMany m_touch m_line m_from m_to m_bound m_pairA m_pairB m_comeTo m_greatest m_least m_nowGreatest m_nowLeast m_does m_mostTime m_leastTime m_countUnit m_flagUnit m_worst m_best m_stack) sz) := by
  refine Met.ofW (cc := cX4_edge) (maxL := 3) (ret := (some .int)) (by decide +kernel) rfl ?_
  intro p e s m args below meth c s₁ B hml hv
  obtain ⟨rfl, hsz, hP, hK, hD0⟩ := hv
  have hx := B.exec
  have hb := B.bytes
  have hr := B.returns
  have hts := atoms_spec (ws := wsX4_edge) B.pre
  have hown : s.vm.findClass RX4 = some m.cls := findClass_of_methodNamed B.named
  have hlocks := B.notSynchronized
  have hinX4 : ∀ w ∈ wsX40, w ∈ wsX4_edge := by decide +kernel
  subst hsz
  have hD := hD0.self (sz := s.heap.size)
  generalize hAe : va_A (wM a cI cZ cJ m_thrown m_sets m_ways m_penalty m_blocks m_edges m_pairs m_lines m_isFresh m_isAnswer m_time m_touchMany m_touch m_line m_from m_to m_bound m_pairA m_pairB m_comeTo m_greatest m_least m_nowGreatest m_nowLeast m_does m_mostTime m_leastTime m_countUnit m_flagUnit m_worst m_best m_stack) s.heap.size = A at hD ⊢
  have hA : ∀ q : Nat, s.heap.size ≤ q → A q := fun q h => by rw [← hAe]; exact Or.inr h
  have hS : va_S A s.heap s.heap [] := va_S.rf
  have hP : va_P D vwCl (wM a cI cZ cJ m_thrown m_sets m_ways m_penalty m_blocks m_edges m_pairs m_lines m_isFresh m_isAnswer m_time m_touchMany m_touch m_line m_from m_to m_bound m_pairA m_pairB m_comeTo m_greatest m_least m_nowGreatest m_nowLeast m_does m_mostTime m_leastTime m_countUnit m_flagUnit m_worst m_best m_stack) s.heap := hP
  have hl := lv_entry ([.ref (a 0), .int v1, .int v2]) (n := 3) (Nat.le_of_ble_eq_true rfl)
  rw [lg_entry_eq]
  generalize (lg_sl ([.ref (a 0), .int v1, .int v2]) ++ List.replicate (3 - (lg_sl ([.ref (a 0), .int v1, .int v2])).length) Slot.unset).toArray = ls at hl ⊢
  have hl : lv_has ls 3 [(0, .ref (a 0)), (1, .int v1), (2, .int v2)] := hl
  refine wz_abs (fun Qz hQz => ?_)
  unfold wp_X4_edge at h
  refine lv_aload_n hx hb dX4_edge_0 rfl (lv_at hl 0 rfl) ?_
  refine lv_iconst (v := 0) hx hb dX4_edge_1 (by decide) ?_
  refine va_put (D := D) (ci := 4) (v := .int 0) (ty := .int) (C := RX4) (T := TX4) (N := 32) hx hb hts hinX4 tyX4 tyX4_ok nmX4 hown hK hP hD hS 0 rfl rfl 0 (by decide) (hts (.fieldLink RX4 94 "WorstPathsModel" "thrown" "I") (by decide +kernel)) (fun _ h9 => h9) rfl (by decide +kernel) rfl rfl (Nat.le_of_ble_eq_true rfl) dX4_edge_2 (fun H locs hP hD hS => ?_)
  have hP : va_P D vwCl (wM a cI cZ cJ 0 m_sets m_ways m_penalty m_blocks m_edges m_pairs m_lines m_isFresh m_isAnswer m_time m_touchMany m_touch m_line m_from m_to m_bound m_pairA m_pairB m_comeTo m_greatest m_least m_nowGreatest m_nowLeast m_does m_mostTime m_leastTime m_countUnit m_flagUnit m_worst m_best m_stack) H := hP
  have hD : va_D A (wM a cI cZ cJ 0 m_sets m_ways m_penalty m_blocks m_edges m_pairs m_lines m_isFresh m_isAnswer m_time m_touchMany m_touch m_line m_from m_to m_bound m_pairA m_pairB m_comeTo m_greatest m_least m_nowGreatest m_nowLeast m_does m_mostTime m_leastTime m_countUnit m_flagUnit m_worst m_best m_stack) := hD
  refine lv_iload_n hx hb dX4_edge_5 rfl (lv_at hl 1 rfl) ?_
  refine lv_iconst (v := 0) hx hb dX4_edge_6 (by decide) ?_
  refine lv_aload_n hx hb dX4_edge_7 rfl (lv_at hl 0 rfl) ?_
  refine va_get (D := D) (ci := 4) (v := .int m_blocks) (C := RX4) (T := TX4) (N := 32) hx hb hts hinX4 hown hK hP 0 rfl rfl 4 (by decide) (hts (.fieldLink RX4 106 "WorstPathsModel" "blocks" "I") (by decide +kernel)) (fun _ h9 => h9) rfl dX4_edge_8 ?_
  refine lv_iconst (v := 1) hx hb dX4_edge_11 (by decide) ?_
  refine lv_isub hx hb dX4_edge_12 ?_
  have hF := wz_free hD hS hA
  refine va_calli (va_runS (As := [.int v1, .int 0, .int (m_blocks - 1)]) (rest := []) ⟨hx, hb, hml, hown, hts⟩ (c_X4_within l D (wM a cI cZ cJ 0 m_sets m_ways m_penalty m_blocks m_edges m_pairs m_lines m_isFresh m_isAnswer m_time m_touchMany m_touch m_line m_from m_to m_bound m_pairA m_pairB m_comeTo m_greatest m_least m_nowGreatest m_nowLeast m_does m_mostTime m_leastTime m_countUnit m_flagUnit m_worst m_best m_stack) cI cZ cJ _ v1 0 (m_blocks - 1) _ h) (va_cwS 3 hts gX4_edge_X4_within rfl rfl rfl (by decide +kernel) ⟨Nat.le_of_ble_eq_true rfl, Nat.le_of_ble_eq_true rfl⟩) ⟨wz_blind, fun U hU hW => wz_at hU hW hP hK hD⟩ rfl rfl hl.1 rfl (lv_room (Nat.le_of_ble_eq_true rfl)) dX4_edge_13 ⟨Nat.zero_le _, Nat.zero_le _⟩) hS (fun q _ hq => hF q hq) hF (fun r_13 u t H locs ht hvm h hB hz1 hk1 hS => ?_)
  obtain ⟨hP, -, hD⟩ := wz_back ht hF hB
  have hP : va_P D vwCl (wM a cI cZ cJ 0 m_sets m_ways m_penalty m_blocks m_edges m_pairs m_lines m_isFresh m_isAnswer m_time m_touchMany m_touch m_line m_from m_to m_bound m_pairA m_pairB m_comeTo m_greatest m_least m_nowGreatest m_nowLeast m_does m_mostTime m_leastTime m_countUnit m_flagUnit m_worst m_best m_stack) H := hP
  have hD : va_D A (wM a cI cZ cJ 0 m_sets m_ways m_penalty m_blocks m_edges m_pairs m_lines m_isFresh m_isAnswer m_time m_touchMany m_touch m_line m_from m_to m_bound m_pairA m_pairB m_comeTo m_greatest m_least m_nowGreatest m_nowLeast m_does m_mostTime m_leastTime m_countUnit m_flagUnit m_worst m_best m_stack) := hD
  refine lv_if_eq (tgt := 33) hx hb dX4_edge_16 (by decide) (fun hc => ?_) (fun hc => ?_)
  · replace h := h.1 hc
    refine lv_aload_n hx hb dX4_edge_33 rfl (lv_at hl 0 rfl) ?_
    refine lv_iconst (v := 1) hx hb dX4_edge_34 (by decide) ?_
    have hF := wz_free hD hS hA
    refine va_calli (va_runV (As := [.int 1]) (rest := []) ⟨hx, hb, hml, hown, hts⟩ (c_X4_fail l D a cI cZ cJ _ 0 m_sets m_ways m_penalty m_blocks m_edges m_pairs m_lines m_isFresh m_isAnswer m_time m_touchMany m_touch m_line m_from m_to m_bound m_pairA m_pairB m_comeTo m_greatest m_least m_nowGreatest m_nowLeast m_does m_mostTime m_leastTime m_countUnit m_flagUnit m_worst m_best m_stack 1 _ h) (cwV 1 hts gX4_edge_X4_fail rfl rfl rfl (by decide +kernel) ⟨Nat.le_of_ble_eq_true rfl, Nat.le_of_ble_eq_true rfl⟩) ⟨wz_blind, va_recv hK hP (ci := 4) (q0 := 0) rfl rfl, fun U hU hW => wz_at hU hW hP hK hD⟩ rfl rfl hl.1 rfl (lv_room (Nat.le_of_ble_eq_true rfl)) dX4_edge_35 ⟨Nat.zero_le _, Nat.zero_le _⟩) hS (fun q _ hq => hF q hq) hF (fun r_35 u t H locs ht hvm h hB hz1 hk1 hS => ?_)
    obtain ⟨m_thrown_35, rfl⟩ : ∃ z, z = u := ⟨_, rfl⟩
    obtain ⟨hP, -, hD⟩ := wz_back ht hF hB
    have hP : va_P D vwCl (wM a cI cZ cJ m_thrown_35 m_sets m_ways m_penalty m_blocks m_edges m_pairs m_lines m_isFresh m_isAnswer m_time m_touchMany m_touch m_line m_from m_to m_bound m_pairA m_pairB m_comeTo m_greatest m_least m_nowGreatest m_nowLeast m_does m_mostTime m_leastTime m_countUnit m_flagUnit m_worst m_best m_stack) H := hP
    have hD : va_D A (wM a cI cZ cJ m_thrown_35 m_sets m_ways m_penalty m_blocks m_edges m_pairs m_lines m_isFresh m_isAnswer m_time m_touchMany m_touch m_line m_from m_to m_bound m_pairA m_pairB m_comeTo m_greatest m_least m_nowGreatest m_nowLeast m_does m_mostTime m_leastTime m_countUnit m_flagUnit m_worst m_best m_stack) := hD
    refine wz_mono hQz ?_
    exact W.iret (v := r_35) hx hb hr (fun t ht hW => ⟨⟨r_35, (m_thrown_35, m_edges, m_isFresh, m_from, m_to, m_bound), rfl, h, by rw [ht]; exact hP, va_K.moved hW.alike hK, hD⟩, hS.F ht⟩) hS.2.2 dX4_edge_38
  · replace h := h.2 hc
    refine lv_iload_n hx hb dX4_edge_19 rfl (lv_at hl 2 rfl) ?_
    refine lv_iconst (v := 0) hx hb dX4_edge_20 (by decide) ?_
    refine lv_aload_n hx hb dX4_edge_21 rfl (lv_at hl 0 rfl) ?_
    refine va_get (D := D) (ci := 4) (v := .int m_blocks) (C := RX4) (T := TX4) (N := 32) hx hb hts hinX4 hown hK hP 0 rfl rfl 4 (by decide) (hts (.fieldLink RX4 106 "WorstPathsModel" "blocks" "I") (by decide +kernel)) (fun _ h9 => h9) rfl dX4_edge_22 ?_
    refine lv_iconst (v := 1) hx hb dX4_edge_25 (by decide) ?_
    refine lv_isub hx hb dX4_edge_26 ?_
    have hF := wz_free hD hS hA
    refine va_calli (va_runS (As := [.int v2, .int 0, .int (m_blocks - 1)]) (rest := []) ⟨hx, hb, hml, hown, hts⟩ (c_X4_within l D (wM a cI cZ cJ 0 m_sets m_ways m_penalty m_blocks m_edges m_pairs m_lines m_isFresh m_isAnswer m_time m_touchMany m_touch m_line m_from m_to m_bound m_pairA m_pairB m_comeTo m_greatest m_least m_nowGreatest m_nowLeast m_does m_mostTime m_leastTime m_countUnit m_flagUnit m_worst m_best m_stack) cI cZ cJ _ v2 0 (m_blocks - 1) _ h) (va_cwS 3 hts gX4_edge_X4_within rfl rfl rfl (by decide +kernel) ⟨Nat.le_of_ble_eq_true rfl, Nat.le_of_ble_eq_true rfl⟩) ⟨wz_blind, fun U hU hW => wz_at hU hW hP hK hD⟩ rfl rfl hl.1 rfl (lv_room (Nat.le_of_ble_eq_true rfl)) dX4_edge_27 ⟨Nat.zero_le _, Nat.zero_le _⟩) hS (fun q _ hq => hF q hq) hF (fun r_27 u t H locs ht hvm h hB hz1 hk1 hS => ?_)
    obtain ⟨hP, -, hD⟩ := wz_back ht hF hB
    have hP : va_P D vwCl (wM a cI cZ cJ 0 m_sets m_ways m_penalty m_blocks m_edges m_pairs m_lines m_isFresh m_isAnswer m_time m_touchMany m_touch m_line m_from m_to m_bound m_pairA m_pairB m_comeTo m_greatest m_least m_nowGreatest m_nowLeast m_does m_mostTime m_leastTime m_countUnit m_flagUnit m_worst m_best m_stack) H := hP
    have hD : va_D A (wM a cI cZ cJ 0 m_sets m_ways m_penalty m_blocks m_edges m_pairs m_lines m_isFresh m_isAnswer m_time m_touchMany m_touch m_line m_from m_to m_bound m_pairA m_pairB m_comeTo m_greatest m_least m_nowGreatest m_nowLeast m_does m_mostTime m_leastTime m_countUnit m_flagUnit m_worst m_best m_stack) := hD
    refine lv_if_ne (tgt := 39) hx hb dX4_edge_30 (by decide) (fun hc => ?_) (fun hc => ?_)
    · replace h := h.1 hc
      refine lv_aload_n hx hb dX4_edge_39 rfl (lv_at hl 0 rfl) ?_
      refine va_get (D := D) (ci := 4) (v := .int m_edges) (C := RX4) (T := TX4) (N := 32) hx hb hts hinX4 hown hK hP 0 rfl rfl 5 (by decide) (hts (.fieldLink RX4 119 "WorstPathsModel" "edges" "I") (by decide +kernel)) (fun _ h9 => h9) rfl dX4_edge_40 ?_
      refine lv_bipush (v := 80) hx hb dX4_edge_43 (by decide) ?_
      refine lv_icmp_ne (tgt := 54) hx hb dX4_edge_45 (by decide) (fun hc => ?_) (fun hc => ?_)
      · replace h := h.1 hc
        refine lv_aload_n hx hb dX4_edge_54 rfl (lv_at hl 0 rfl) ?_
        refine va_get (D := D) (ci := 4) (v := .ref (a 5)) (C := RX4) (T := TX4) (N := 32) hx hb hts hinX4 hown hK hP 0 rfl rfl 12 (by decide) (hts (.fieldLink RX4 22 "WorstPathsModel" "from" "[I") (by decide +kernel)) (fun _ h9 => h9) rfl dX4_edge_55 ?_
        refine lv_aload_n hx hb dX4_edge_58 rfl (lv_at hl 0 rfl) ?_
        refine va_get (D := D) (ci := 4) (v := .int m_edges) (C := RX4) (T := TX4) (N := 32) hx hb hts hinX4 hown hK hP 0 rfl rfl 5 (by decide) (hts (.fieldLink RX4 119 "WorstPathsModel" "edges" "I") (by decide +kernel)) (fun _ h9 => h9) rfl dX4_edge_59 ?_
        refine lv_iload_n hx hb dX4_edge_62 rfl (lv_at hl 1 rfl) ?_
        obtain ⟨hq, h⟩ := h
        refine va_iast (D := D) hx hb hK hP hD hS 5 0 rfl rfl hq dX4_edge_63 (fun H locs hP hD hS => ?_)
        have hP : va_P D vwCl (wM a cI cZ cJ 0 m_sets m_ways m_penalty m_blocks m_edges m_pairs m_lines m_isFresh m_isAnswer m_time m_touchMany m_touch m_line (upd m_from (Int32.toNatClampNeg m_edges) v1) m_to m_bound m_pairA m_pairB m_comeTo m_greatest m_least m_nowGreatest m_nowLeast m_does m_mostTime m_leastTime m_countUnit m_flagUnit m_worst m_best m_stack) H := hP
        have hD : va_D A (wM a cI cZ cJ 0 m_sets m_ways m_penalty m_blocks m_edges m_pairs m_lines m_isFresh m_isAnswer m_time m_touchMany m_touch m_line (upd m_from (Int32.toNatClampNeg m_edges) v1) m_to m_bound m_pairA m_pairB m_comeTo m_greatest m_least m_nowGreatest m_nowLeast m_does m_mostTime m_leastTime m_countUnit m_flagUnit m_worst m_best m_stack) := hD
        refine lv_aload_n hx hb dX4_edge_64 rfl (lv_at hl 0 rfl) ?_
        refine va_get (D := D) (ci := 4) (v := .ref (a 6)) (C := RX4) (T := TX4) (N := 32) hx hb hts hinX4 hown hK hP 0 rfl rfl 13 (by decide) (hts (.fieldLink RX4 25 "WorstPathsModel" "to" "[I") (by decide +kernel)) (fun _ h9 => h9) rfl dX4_edge_65 ?_
        refine lv_aload_n hx hb dX4_edge_68 rfl (lv_at hl 0 rfl) ?_
        refine va_get (D := D) (ci := 4) (v := .int m_edges) (C := RX4) (T := TX4) (N := 32) hx hb hts hinX4 hown hK hP 0 rfl rfl 5 (by decide) (hts (.fieldLink RX4 119 "WorstPathsModel" "edges" "I") (by decide +kernel)) (fun _ h9 => h9) rfl dX4_edge_69 ?_
        refine lv_iload_n hx hb dX4_edge_72 rfl (lv_at hl 2 rfl) ?_
        obtain ⟨hq, h⟩ := h
        refine va_iast (D := D) hx hb hK hP hD hS 6 0 rfl rfl hq dX4_edge_73 (fun H locs hP hD hS => ?_)
        have hP : va_P D vwCl (wM a cI cZ cJ 0 m_sets m_ways m_penalty m_blocks m_edges m_pairs m_lines m_isFresh m_isAnswer m_time m_touchMany m_touch m_line (upd m_from (Int32.toNatClampNeg m_edges) v1) (upd m_to (Int32.toNatClampNeg m_edges) v2) m_bound m_pairA m_pairB m_comeTo m_greatest m_least m_nowGreatest m_nowLeast m_does m_mostTime m_leastTime m_countUnit m_flagUnit m_worst m_best m_stack) H := hP
        have hD : va_D A (wM a cI cZ cJ 0 m_sets m_ways m_penalty m_blocks m_edges m_pairs m_lines m_isFresh m_isAnswer m_time m_touchMany m_touch m_line (upd m_from (Int32.toNatClampNeg m_edges) v1) (upd m_to (Int32.toNatClampNeg m_edges) v2) m_bound m_pairA m_pairB m_comeTo m_greatest m_least m_nowGreatest m_nowLeast m_does m_mostTime m_leastTime m_countUnit m_flagUnit m_worst m_best m_stack) := hD
        refine lv_aload_n hx hb dX4_edge_74 rfl (lv_at hl 0 rfl) ?_
        refine va_get (D := D) (ci := 4) (v := .ref (a 7)) (C := RX4) (T := TX4) (N := 32) hx hb hts hinX4 hown hK hP 0 rfl rfl 14 (by decide) (hts (.fieldLink RX4 28 "WorstPathsModel" "bound" "[I") (by decide +kernel)) (fun _ h9 => h9) rfl dX4_edge_75 ?_
        refine lv_aload_n hx hb dX4_edge_78 rfl (lv_at hl 0 rfl) ?_
        refine va_get (D := D) (ci := 4) (v := .int m_edges) (C := RX4) (T := TX4) (N := 32) hx hb hts hinX4 hown hK hP 0 rfl rfl 5 (by decide) (hts (.fieldLink RX4 119 "WorstPathsModel" "edges" "I") (by decide +kernel)) (fun _ h9 => h9) rfl dX4_edge_79 ?_
        refine lv_iconst (v := (-1)) hx hb dX4_edge_82 (by decide) ?_
        obtain ⟨hq, h⟩ := h
        refine va_iast (D := D) hx hb hK hP hD hS 7 0 rfl rfl hq dX4_edge_83 (fun H locs hP hD hS => ?_)
        have hP : va_P D vwCl (wM a cI cZ cJ 0 m_sets m_ways m_penalty m_blocks m_edges m_pairs m_lines m_isFresh m_isAnswer m_time m_touchMany m_touch m_line (upd m_from (Int32.toNatClampNeg m_edges) v1) (upd m_to (Int32.toNatClampNeg m_edges) v2) (upd m_bound (Int32.toNatClampNeg m_edges) (-1)) m_pairA m_pairB m_comeTo m_greatest m_least m_nowGreatest m_nowLeast m_does m_mostTime m_leastTime m_countUnit m_flagUnit m_worst m_best m_stack) H := hP
        have hD : va_D A (wM a cI cZ cJ 0 m_sets m_ways m_penalty m_blocks m_edges m_pairs m_lines m_isFresh m_isAnswer m_time m_touchMany m_touch m_line (upd m_from (Int32.toNatClampNeg m_edges) v1) (upd m_to (Int32.toNatClampNeg m_edges) v2) (upd m_bound (Int32.toNatClampNeg m_edges) (-1)) m_pairA m_pairB m_comeTo m_greatest m_least m_nowGreatest m_nowLeast m_does m_mostTime m_leastTime m_countUnit m_flagUnit m_worst m_best m_stack) := hD
        refine lv_aload_n hx hb dX4_edge_84 rfl (lv_at hl 0 rfl) ?_
        refine lv_dup hx hb dX4_edge_85 rfl ?_
        refine va_get (D := D) (ci := 4) (v := .int m_edges) (C := RX4) (T := TX4) (N := 32) hx hb hts hinX4 hown hK hP 0 rfl rfl 5 (by decide) (hts (.fieldLink RX4 119 "WorstPathsModel" "edges" "I") (by decide +kernel)) (fun _ h9 => h9) rfl dX4_edge_86 ?_
        refine lv_iconst (v := 1) hx hb dX4_edge_89 (by decide) ?_
        refine lv_iadd hx hb dX4_edge_90 ?_
        refine va_put (D := D) (ci := 4) (v := .int (m_edges + 1)) (ty := .int) (C := RX4) (T := TX4) (N := 32) hx hb hts hinX4 tyX4 tyX4_ok nmX4 hown hK hP hD hS 0 rfl rfl 5 (by decide) (hts (.fieldLink RX4 119 "WorstPathsModel" "edges" "I") (by decide +kernel)) (fun _ h9 => h9) rfl (by decide +kernel) rfl rfl (Nat.le_of_ble_eq_true rfl) dX4_edge_91 (fun H locs hP hD hS => ?_)
        have hP : va_P D vwCl (wM a cI cZ cJ 0 m_sets m_ways m_penalty m_blocks (m_edges + 1) m_pairs m_lines m_isFresh m_isAnswer m_time m_touchMany m_touch m_line (upd m_from (Int32.toNatClampNeg m_edges) v1) (upd m_to (Int32.toNatClampNeg m_edges) v2) (upd m_bound (Int32.toNatClampNeg m_edges) (-1)) m_pairA m_pairB m_comeTo m_greatest m_least m_nowGreatest m_nowLeast m_does m_mostTime m_leastTime m_countUnit m_flagUnit m_worst m_best m_stack) H := hP
        have hD : va_D A (wM a cI cZ cJ 0 m_sets m_ways m_penalty m_blocks (m_edges + 1) m_pairs m_lines m_isFresh m_isAnswer m_time m_touchMany m_touch m_line (upd m_from (Int32.toNatClampNeg m_edges) v1) (upd m_to (Int32.toNatClampNeg m_edges) v2) (upd m_bound (Int32.toNatClampNeg m_edges) (-1)) m_pairA m_pairB m_comeTo m_greatest m_least m_nowGreatest m_nowLeast m_does m_mostTime m_leastTime m_countUnit m_flagUnit m_worst m_best m_stack) := hD
        refine lv_aload_n hx hb dX4_edge_94 rfl (lv_at hl 0 rfl) ?_
        refine lv_iconst (v := 0) hx hb dX4_edge_95 (by decide) ?_
        refine va_put (D := D) (ci := 4) (v := .int 0) (ty := .boolean) (C := RX4) (T := TX4) (N := 32) hx hb hts hinX4 tyX4 tyX4_ok nmX4 hown hK hP hD hS 0 rfl rfl 17 (by decide) (hts (.fieldLink RX4 109 "WorstPathsModel" "isFresh" "Z") (by decide +kernel)) (fun _ h9 => h9) rfl (by decide +kernel) rfl rfl (Nat.le_of_ble_eq_true rfl) dX4_edge_96 (fun H locs hP hD hS => ?_)
        have hP : va_P D vwCl (wM a cI cZ cJ 0 m_sets m_ways m_penalty m_blocks (m_edges + 1) m_pairs m_lines 0 m_isAnswer m_time m_touchMany m_touch m_line (upd m_from (Int32.toNatClampNeg m_edges) v1) (upd m_to (Int32.toNatClampNeg m_edges) v2) (upd m_bound (Int32.toNatClampNeg m_edges) (-1)) m_pairA m_pairB m_comeTo m_greatest m_least m_nowGreatest m_nowLeast m_does m_mostTime m_leastTime m_countUnit m_flagUnit m_worst m_best m_stack) H := hP
        have hD : va_D A (wM a cI cZ cJ 0 m_sets m_ways m_penalty m_blocks (m_edges + 1) m_pairs m_lines 0 m_isAnswer m_time m_touchMany m_touch m_line (upd m_from (Int32.toNatClampNeg m_edges) v1) (upd m_to (Int32.toNatClampNeg m_edges) v2) (upd m_bound (Int32.toNatClampNeg m_edges) (-1)) m_pairA m_pairB m_comeTo m_greatest m_least m_nowGreatest m_nowLeast m_does m_mostTime m_leastTime m_countUnit m_flagUnit m_worst m_best m_stack) := hD
        refine lv_aload_n hx hb dX4_edge_99 rfl (lv_at hl 0 rfl) ?_
        refine va_get (D := D) (ci := 4) (v := .int (m_edges + 1)) (C := RX4) (T := TX4) (N := 32) hx hb hts hinX4 hown hK hP 0 rfl rfl 5 (by decide) (hts (.fieldLink RX4 119 "WorstPathsModel" "edges" "I") (by decide +kernel)) (fun _ h9 => h9) rfl dX4_edge_100 ?_
        refine lv_iconst (v := 1) hx hb dX4_edge_103 (by decide) ?_
        refine lv_isub hx hb dX4_edge_104 ?_
        refine wz_mono hQz ?_
        exact W.iret (v := ((m_edges + 1) - 1)) hx hb hr (fun t ht hW => ⟨⟨((m_edges + 1) - 1), (0, (m_edges + 1), 0, (upd m_from (Int32.toNatClampNeg m_edges) v1), (upd m_to (Int32.toNatClampNeg m_edges) v2), (upd m_bound (Int32.toNatClampNeg m_edges) (-1))), rfl, h, by rw [ht]; exact hP, va_K.moved hW.alike hK, hD⟩, hS.F ht⟩) hS.2.2 dX4_edge_105
      · replace h := h.2 hc
        refine lv_aload_n hx hb dX4_edge_48 rfl (lv_at hl 0 rfl) ?_
        refine lv_iconst (v := 2) hx hb dX4_edge_49 (by decide) ?_
        have hF := wz_free hD hS hA
        refine va_calli (va_runV (As := [.int 2]) (rest := []) ⟨hx, hb, hml, hown, hts⟩ (c_X4_fail l D a cI cZ cJ _ 0 m_sets m_ways m_penalty m_blocks m_edges m_pairs m_lines m_isFresh m_isAnswer m_time m_touchMany m_touch m_line m_from m_to m_bound m_pairA m_pairB m_comeTo m_greatest m_least m_nowGreatest m_nowLeast m_does m_mostTime m_leastTime m_countUnit m_flagUnit m_worst m_best m_stack 2 _ h) (cwV 1 hts gX4_edge_X4_fail rfl rfl rfl (by decide +kernel) ⟨Nat.le_of_ble_eq_true rfl, Nat.le_of_ble_eq_true rfl⟩) ⟨wz_blind, va_recv hK hP (ci := 4) (q0 := 0) rfl rfl, fun U hU hW => wz_at hU hW hP hK hD⟩ rfl rfl hl.1 rfl (lv_room (Nat.le_of_ble_eq_true rfl)) dX4_edge_50 ⟨Nat.zero_le _, Nat.zero_le _⟩) hS (fun q _ hq => hF q hq) hF (fun r_50 u t H locs ht hvm h hB hz1 hk1 hS => ?_)
        obtain ⟨m_thrown_50, rfl⟩ : ∃ z, z = u := ⟨_, rfl⟩
        obtain ⟨hP, -, hD⟩ := wz_back ht hF hB
        have hP : va_P D vwCl (wM a cI cZ cJ m_thrown_50 m_sets m_ways m_penalty m_blocks m_edges m_pairs m_lines m_isFresh m_isAnswer m_time m_touchMany m_touch m_line m_from m_to m_bound m_pairA m_pairB m_comeTo m_greatest m_least m_nowGreatest m_nowLeast m_does m_mostTime m_leastTime m_countUnit m_flagUnit m_worst m_best m_stack) H := hP
        have hD : va_D A (wM a cI cZ cJ m_thrown_50 m_sets m_ways m_penalty m_blocks m_edges m_pairs m_lines m_isFresh m_isAnswer m_time m_touchMany m_touch m_line m_from m_to m_bound m_pairA m_pairB m_comeTo m_greatest m_least m_nowGreatest m_nowLeast m_does m_mostTime m_leastTime m_countUnit m_flagUnit m_worst m_best m_stack) := hD
        refine wz_mono hQz ?_
        exact W.iret (v := r_50) hx hb hr (fun t ht hW => ⟨⟨r_50, (m_thrown_50, m_edges, m_isFresh, m_from, m_to, m_bound), rfl, h, by rw [ht]; exact hP, va_K.moved hW.alike hK, hD⟩, hS.F ht⟩) hS.2.2 dX4_edge_53
    · replace h := h.2 hc
      refine lv_aload_n hx hb dX4_edge_33 rfl (lv_at hl 0 rfl) ?_
      refine lv_iconst (v := 1) hx hb dX4_edge_34 (by decide) ?_
      have hF := wz_free hD hS hA
      refine va_calli (va_runV (As := [.int 1]) (rest := []) ⟨hx, hb, hml, hown, hts⟩ (c_X4_fail l D a cI cZ cJ _ 0 m_sets m_ways m_penalty m_blocks m_edges m_pairs m_lines m_isFresh m_isAnswer m_time m_touchMany m_touch m_line m_from m_to m_bound m_pairA m_pairB m_comeTo m_greatest m_least m_nowGreatest m_nowLeast m_does m_mostTime m_leastTime m_countUnit m_flagUnit m_worst m_best m_stack 1 _ h) (cwV 1 hts gX4_edge_X4_fail rfl rfl rfl (by decide +kernel) ⟨Nat.le_of_ble_eq_true rfl, Nat.le_of_ble_eq_true rfl⟩) ⟨wz_blind, va_recv hK hP (ci := 4) (q0 := 0) rfl rfl, fun U hU hW => wz_at hU hW hP hK hD⟩ rfl rfl hl.1 rfl (lv_room (Nat.le_of_ble_eq_true rfl)) dX4_edge_35 ⟨Nat.zero_le _, Nat.zero_le _⟩) hS (fun q _ hq => hF q hq) hF (fun r_35 u t H locs ht hvm h hB hz1 hk1 hS => ?_)
      obtain ⟨m_thrown_35, rfl⟩ : ∃ z, z = u := ⟨_, rfl⟩
      obtain ⟨hP, -, hD⟩ := wz_back ht hF hB
      have hP : va_P D vwCl (wM a cI cZ cJ m_thrown_35 m_sets m_ways m_penalty m_blocks m_edges m_pairs m_lines m_isFresh m_isAnswer m_time m_touchMany m_touch m_line m_from m_to m_bound m_pairA m_pairB m_comeTo m_greatest m_least m_nowGreatest m_nowLeast m_does m_mostTime m_leastTime m_countUnit m_flagUnit m_worst m_best m_stack) H := hP
      have hD : va_D A (wM a cI cZ cJ m_thrown_35 m_sets m_ways m_penalty m_blocks m_edges m_pairs m_lines m_isFresh m_isAnswer m_time m_touchMany m_touch m_line m_from m_to m_bound m_pairA m_pairB m_comeTo m_greatest m_least m_nowGreatest m_nowLeast m_does m_mostTime m_leastTime m_countUnit m_flagUnit m_worst m_best m_stack) := hD
      refine wz_mono hQz ?_
      exact W.iret (v := r_35) hx hb hr (fun t ht hW => ⟨⟨r_35, (m_thrown_35, m_edges, m_isFresh, m_from, m_to, m_bound), rfl, h, by rw [ht]; exact hP, va_K.moved hW.alike hK, hD⟩, hS.F ht⟩) hS.2.2 dX4_edge_38
def wp_X4_bound (v1 : Int32) (v2 : Int32) (m_thrown : Int32) (m_edges : Int32) (m_isFresh : Int32) (m_bound : Nat → Int32) (Q : Int32 → Int32 → Int32 → (Nat → Int32) → Prop) : Prop := wp_X4_within v1 0 (m_edges - 1) (fun r_13 => (¬ r_13 = 0 → wp_X4_within v2 (-1) 15 (fun r_29 => (¬ r_29 = 0 → vp_in v1 80 ∧ (vp_in v1 80 ∧ (Q (m_bound (Int32.toNatClampNeg v1)) 0 0 (upd m_bound (Int32.toNatClampNeg v1) v2)))) ∧ (r_29 = 0 → wp_X4_fail 2 0 (fun r_37 m_thrown_37 => Q r_37 m_thrown_37 m_isFresh m_bound)))) ∧ (r_13 = 0 → wp_X4_fail 1 0 (fun r_21 m_thrown_21 => Q r_21 m_thrown_21 m_isFresh m_bound)))
abbrev rm_X4_bound : Room := { frames := 1, cells := 0, slots := 0, locals := 22 }
set_option maxHeartbeats 4000000 in
set_option maxRecDepth 100000 in
theorem c_X4_bound (l : Launch) (D : va_G) (a : Nat → Nat) (cI : ClassId) (cZ : ClassId) (cJ : ClassId) (sz : Nat) (m_thrown : Int32) (m_sets : Int32) (m_ways : Int32) (m_penalty : Int32) (m_blocks : Int32) (m_edges : Int32) (m_pairs : Int32) (m_lines : Int32) (m_isFresh : Int32) (m_isAnswer : Int32) (m_time : Nat → Int32) (m_touchMany : Nat → Int32) (m_touch : Nat → Int32) (m_line : Nat → Int32) (m_from : Nat → Int32) (m_to : Nat → Int32) (m_bound : Nat → Int32) (m_pairA : Nat → Int32) (m_pairB : Nat → Int32) (m_comeTo : Nat → Int32) (m_greatest : Nat → Int32) (m_least : Nat → Int32) (m_nowGreatest : Nat → Int32) (m_nowLeast : Nat → Int32) (m_does : Nat → Int32) (m_mostTime : Nat → Int64) (m_leastTime : Nat → Int64) (m_countUnit : Nat → Int32) (m_flagUnit : Nat → Int32) (m_worst : Nat → Int64) (m_best : Nat → Int64) (m_stack : Nat → Int32) (v1 : Int32) (v2 : Int32) (Q : Int32 → Int32 → Int32 → (Nat → Int32) → Prop) (h : wp_X4_bound v1 v2 m_thrown m_edges m_isFresh m_bound Q) : Met l yX4_bound wsX4_bound rm_X4_bound (va_Pc [.ref (a 0), .int v1, .int v2] (inW D cI cZ cJ sz (wM a cI cZ cJ m_thrown m_sets m_ways m_penalty m_blocks m_edges m_pairs m_lines m_isFresh m_isAnswer m_time m_touchMany m_touch m_line m_from m_to m_bound m_pairA m_pairB m_comeTo m_greatest m_least m_nowGreatest m_nowLeast m_does m_mostTime m_leastTime m_countUnit m_flagUnit m_worst m_best m_stack))) (va_Qi (fun (r : Int32) (u : Int32 × Int32 × (Nat → Int32)) => Q r u.1 u.2.1 u.2.2) (fun (u : Int32 × Int32 × (Nat → Int32)) => outW D cI cZ cJ (va_A (wM a cI cZ cJ m_thrown m_sets m_ways m_penalty m_blocks m_edges m_pairs m_lines m_isFresh m_isAnswer m_time m_touchMany m_touch m_line m_from m_to m_bound m_pairA m_pairB m_comeTo m_greatest m_least m_nowGreatest m_nowLeast m_does m_mostTime m_leastTime m_countUnit m_flagUnit m_worst m_best m_stack) sz) (wM a cI cZ cJ u.1 m_sets m_ways m_penalty m_blocks m_edges m_pairs m_lines u.2.1 m_isAnswer m_time m_touchMany m_touch m_line m_from m_to u.2.2 m_pairA m_pairB m_comeTo m_greatest m_least m_nowGreatest m_nowLeast m_does m_mostTime m_leastTime m_countUnit m_flagUnit m_worst m_best m_stack)) (va_A (wM a cI cZ cJ m_thrown m_sets m_ways m_penalty m_blocks m_edges m_pairs m_lines m_isFresh m_isAnswer m_time m_touchMany m_touch m_line m_from m_to m_bound m_pairA m_pairB m_comeTo m_greatest m_least m_nowGreatest m_nowLeast m_does m_mostTime m_leastTime m_countUnit m_flagUnit m_worst m_best m_stack) sz)) 0 0 (va_A (wM a cI cZ cJ m_thrown m_sets m_ways m_penalty m_blocks m_edges m_pairs m_lines m_isFresh m_isAnswer m_time m_touchMany m_touch m_line m_from m_to m_bound m_pairA m_pairB m_comeTo m_greatest m_least m_nowGreatest m_nowLeast m_does m_mostTime m_leastTime m_countUnit m_flagUnit m_worst m_best m_stack) sz) := by
  refine Met.ofW (cc := cX4_bound) (maxL := 4) (ret := (some .int)) (by decide +kernel) rfl ?_
  intro p e s m args below meth c s₁ B hml hv
  obtain ⟨rfl, hsz, hP, hK, hD0⟩ := hv
  have hx := B.exec
  have hb := B.bytes
  have hr := B.returns
  have hts := atoms_spec (ws := wsX4_bound) B.pre
  have hown : s.vm.findClass RX4 = some m.cls := findClass_of_methodNamed B.named
  have hlocks := B.notSynchronized
  have hinX4 : ∀ w ∈ wsX40, w ∈ wsX4_bound := by decide +kernel
  subst hsz
  have hD := hD0.self (sz := s.heap.size)
  generalize hAe : va_A (wM a cI cZ cJ m_thrown m_sets m_ways m_penalty m_blocks m_edges m_pairs m_lines m_isFresh m_isAnswer m_time m_touchMany m_touch m_line m_from m_to m_bound m_pairA m_pairB m_comeTo m_greatest m_least m_nowGreatest m_nowLeast m_does m_mostTime m_leastTime m_countUnit m_flagUnit m_worst m_best m_stack) s.heap.size = A at hD ⊢
  have hA : ∀ q : Nat, s.heap.size ≤ q → A q := fun q h => by rw [← hAe]; exact Or.inr h
  have hS : va_S A s.heap s.heap [] := va_S.rf
  have hP : va_P D vwCl (wM a cI cZ cJ m_thrown m_sets m_ways m_penalty m_blocks m_edges m_pairs m_lines m_isFresh m_isAnswer m_time m_touchMany m_touch m_line m_from m_to m_bound m_pairA m_pairB m_comeTo m_greatest m_least m_nowGreatest m_nowLeast m_does m_mostTime m_leastTime m_countUnit m_flagUnit m_worst m_best m_stack) s.heap := hP
  have hl := lv_entry ([.ref (a 0), .int v1, .int v2]) (n := 4) (Nat.le_of_ble_eq_true rfl)
  rw [lg_entry_eq]
  generalize (lg_sl ([.ref (a 0), .int v1, .int v2]) ++ List.replicate (4 - (lg_sl ([.ref (a 0), .int v1, .int v2])).length) Slot.unset).toArray = ls at hl ⊢
  have hl : lv_has ls 4 [(0, .ref (a 0)), (1, .int v1), (2, .int v2)] := hl
  refine wz_abs (fun Qz hQz => ?_)
  unfold wp_X4_bound at h
  refine lv_aload_n hx hb dX4_bound_0 rfl (lv_at hl 0 rfl) ?_
  refine lv_iconst (v := 0) hx hb dX4_bound_1 (by decide) ?_
  refine va_put (D := D) (ci := 4) (v := .int 0) (ty := .int) (C := RX4) (T := TX4) (N := 32) hx hb hts hinX4 tyX4 tyX4_ok nmX4 hown hK hP hD hS 0 rfl rfl 0 (by decide) (hts (.fieldLink RX4 94 "WorstPathsModel" "thrown" "I") (by decide +kernel)) (fun _ h9 => h9) rfl (by decide +kernel) rfl rfl (Nat.le_of_ble_eq_true rfl) dX4_bound_2 (fun H locs hP hD hS => ?_)
  have hP : va_P D vwCl (wM a cI cZ cJ 0 m_sets m_ways m_penalty m_blocks m_edges m_pairs m_lines m_isFresh m_isAnswer m_time m_touchMany m_touch m_line m_from m_to m_bound m_pairA m_pairB m_comeTo m_greatest m_least m_nowGreatest m_nowLeast m_does m_mostTime m_leastTime m_countUnit m_flagUnit m_worst m_best m_stack) H := hP
  have hD : va_D A (wM a cI cZ cJ 0 m_sets m_ways m_penalty m_blocks m_edges m_pairs m_lines m_isFresh m_isAnswer m_time m_touchMany m_touch m_line m_from m_to m_bound m_pairA m_pairB m_comeTo m_greatest m_least m_nowGreatest m_nowLeast m_does m_mostTime m_leastTime m_countUnit m_flagUnit m_worst m_best m_stack) := hD
  refine lv_iload_n hx hb dX4_bound_5 rfl (lv_at hl 1 rfl) ?_
  refine lv_iconst (v := 0) hx hb dX4_bound_6 (by decide) ?_
  refine lv_aload_n hx hb dX4_bound_7 rfl (lv_at hl 0 rfl) ?_
  refine va_get (D := D) (ci := 4) (v := .int m_edges) (C := RX4) (T := TX4) (N := 32) hx hb hts hinX4 hown hK hP 0 rfl rfl 5 (by decide) (hts (.fieldLink RX4 119 "WorstPathsModel" "edges" "I") (by decide +kernel)) (fun _ h9 => h9) rfl dX4_bound_8 ?_
  refine lv_iconst (v := 1) hx hb dX4_bound_11 (by decide) ?_
  refine lv_isub hx hb dX4_bound_12 ?_
  have hF := wz_free hD hS hA
  refine va_calli (va_runS (As := [.int v1, .int 0, .int (m_edges - 1)]) (rest := []) ⟨hx, hb, hml, hown, hts⟩ (c_X4_within l D (wM a cI cZ cJ 0 m_sets m_ways m_penalty m_blocks m_edges m_pairs m_lines m_isFresh m_isAnswer m_time m_touchMany m_touch m_line m_from m_to m_bound m_pairA m_pairB m_comeTo m_greatest m_least m_nowGreatest m_nowLeast m_does m_mostTime m_leastTime m_countUnit m_flagUnit m_worst m_best m_stack) cI cZ cJ _ v1 0 (m_edges - 1) _ h) (va_cwS 3 hts gX4_bound_X4_within rfl rfl rfl (by decide +kernel) ⟨Nat.le_of_ble_eq_true rfl, Nat.le_of_ble_eq_true rfl⟩) ⟨wz_blind, fun U hU hW => wz_at hU hW hP hK hD⟩ rfl rfl hl.1 rfl (lv_room (Nat.le_of_ble_eq_true rfl)) dX4_bound_13 ⟨Nat.zero_le _, Nat.zero_le _⟩) hS (fun q _ hq => hF q hq) hF (fun r_13 u t H locs ht hvm h hB hz1 hk1 hS => ?_)
  obtain ⟨hP, -, hD⟩ := wz_back ht hF hB
  have hP : va_P D vwCl (wM a cI cZ cJ 0 m_sets m_ways m_penalty m_blocks m_edges m_pairs m_lines m_isFresh m_isAnswer m_time m_touchMany m_touch m_line m_from m_to m_bound m_pairA m_pairB m_comeTo m_greatest m_least m_nowGreatest m_nowLeast m_does m_mostTime m_leastTime m_countUnit m_flagUnit m_worst m_best m_stack) H := hP
  have hD : va_D A (wM a cI cZ cJ 0 m_sets m_ways m_penalty m_blocks m_edges m_pairs m_lines m_isFresh m_isAnswer m_time m_touchMany m_touch m_line m_from m_to m_bound m_pairA m_pairB m_comeTo m_greatest m_least m_nowGreatest m_nowLeast m_does m_mostTime m_leastTime m_countUnit m_flagUnit m_worst m_best m_stack) := hD
  refine lv_if_ne (tgt := 25) hx hb dX4_bound_16 (by decide) (fun hc => ?_) (fun hc => ?_)
  · replace h := h.1 hc
    refine lv_iload_n hx hb dX4_bound_25 rfl (lv_at hl 2 rfl) ?_
    refine lv_iconst (v := (-1)) hx hb dX4_bound_26 (by decide) ?_
    refine lv_bipush (v := 15) hx hb dX4_bound_27 (by decide) ?_
    have hF := wz_free hD hS hA
    refine va_calli (va_runS (As := [.int v2, .int (-1), .int 15]) (rest := []) ⟨hx, hb, hml, hown, hts⟩ (c_X4_within l D (wM a cI cZ cJ 0 m_sets m_ways m_penalty m_blocks m_edges m_pairs m_lines m_isFresh m_isAnswer m_time m_touchMany m_touch m_line m_from m_to m_bound m_pairA m_pairB m_comeTo m_greatest m_least m_nowGreatest m_nowLeast m_does m_mostTime m_leastTime m_countUnit m_flagUnit m_worst m_best m_stack) cI cZ cJ _ v2 (-1) 15 _ h) (va_cwS 3 hts gX4_bound_X4_within rfl rfl rfl (by decide +kernel) ⟨Nat.le_of_ble_eq_true rfl, Nat.le_of_ble_eq_true rfl⟩) ⟨wz_blind, fun U hU hW => wz_at hU hW hP hK hD⟩ rfl rfl hl.1 rfl (lv_room (Nat.le_of_ble_eq_true rfl)) dX4_bound_29 ⟨Nat.zero_le _, Nat.zero_le _⟩) hS (fun q _ hq => hF q hq) hF (fun r_29 u t H locs ht hvm h hB hz1 hk1 hS => ?_)
    obtain ⟨hP, -, hD⟩ := wz_back ht hF hB
    have hP : va_P D vwCl (wM a cI cZ cJ 0 m_sets m_ways m_penalty m_blocks m_edges m_pairs m_lines m_isFresh m_isAnswer m_time m_touchMany m_touch m_line m_from m_to m_bound m_pairA m_pairB m_comeTo m_greatest m_least m_nowGreatest m_nowLeast m_does m_mostTime m_leastTime m_countUnit m_flagUnit m_worst m_best m_stack) H := hP
    have hD : va_D A (wM a cI cZ cJ 0 m_sets m_ways m_penalty m_blocks m_edges m_pairs m_lines m_isFresh m_isAnswer m_time m_touchMany m_touch m_line m_from m_to m_bound m_pairA m_pairB m_comeTo m_greatest m_least m_nowGreatest m_nowLeast m_does m_mostTime m_leastTime m_countUnit m_flagUnit m_worst m_best m_stack) := hD
    refine lv_if_ne (tgt := 41) hx hb dX4_bound_32 (by decide) (fun hc => ?_) (fun hc => ?_)
    · replace h := h.1 hc
      refine lv_aload_n hx hb dX4_bound_41 rfl (lv_at hl 0 rfl) ?_
      refine va_get (D := D) (ci := 4) (v := .ref (a 7)) (C := RX4) (T := TX4) (N := 32) hx hb hts hinX4 hown hK hP 0 rfl rfl 14 (by decide) (hts (.fieldLink RX4 28 "WorstPathsModel" "bound" "[I") (by decide +kernel)) (fun _ h9 => h9) rfl dX4_bound_42 ?_
      refine lv_iload_n hx hb dX4_bound_45 rfl (lv_at hl 1 rfl) ?_
      obtain ⟨hq, h⟩ := h
      refine va_iald (D := D) hx hb hK hP 7 0 rfl rfl hq dX4_bound_46 ?_
      refine lv_istore_n (lv' := [(3, .int (m_bound (Int32.toNatClampNeg v1))), (0, .ref (a 0)), (1, .int v1), (2, .int v2)]) hx hb dX4_bound_47 rfl hl (by decide) rfl (fun ls hl => ?_)
      refine lv_aload_n hx hb dX4_bound_48 rfl (lv_at hl 1 rfl) ?_
      refine va_get (D := D) (ci := 4) (v := .ref (a 7)) (C := RX4) (T := TX4) (N := 32) hx hb hts hinX4 hown hK hP 0 rfl rfl 14 (by decide) (hts (.fieldLink RX4 28 "WorstPathsModel" "bound" "[I") (by decide +kernel)) (fun _ h9 => h9) rfl dX4_bound_49 ?_
      refine lv_iload_n hx hb dX4_bound_52 rfl (lv_at hl 2 rfl) ?_
      refine lv_iload_n hx hb dX4_bound_53 rfl (lv_at hl 3 rfl) ?_
      obtain ⟨hq, h⟩ := h
      refine va_iast (D := D) hx hb hK hP hD hS 7 0 rfl rfl hq dX4_bound_54 (fun H locs hP hD hS => ?_)
      have hP : va_P D vwCl (wM a cI cZ cJ 0 m_sets m_ways m_penalty m_blocks m_edges m_pairs m_lines m_isFresh m_isAnswer m_time m_touchMany m_touch m_line m_from m_to (upd m_bound (Int32.toNatClampNeg v1) v2) m_pairA m_pairB m_comeTo m_greatest m_least m_nowGreatest m_nowLeast m_does m_mostTime m_leastTime m_countUnit m_flagUnit m_worst m_best m_stack) H := hP
      have hD : va_D A (wM a cI cZ cJ 0 m_sets m_ways m_penalty m_blocks m_edges m_pairs m_lines m_isFresh m_isAnswer m_time m_touchMany m_touch m_line m_from m_to (upd m_bound (Int32.toNatClampNeg v1) v2) m_pairA m_pairB m_comeTo m_greatest m_least m_nowGreatest m_nowLeast m_does m_mostTime m_leastTime m_countUnit m_flagUnit m_worst m_best m_stack) := hD
      refine lv_aload_n hx hb dX4_bound_55 rfl (lv_at hl 1 rfl) ?_
      refine lv_iconst (v := 0) hx hb dX4_bound_56 (by decide) ?_
      refine va_put (D := D) (ci := 4) (v := .int 0) (ty := .boolean) (C := RX4) (T := TX4) (N := 32) hx hb hts hinX4 tyX4 tyX4_ok nmX4 hown hK hP hD hS 0 rfl rfl 17 (by decide) (hts (.fieldLink RX4 109 "WorstPathsModel" "isFresh" "Z") (by decide +kernel)) (fun _ h9 => h9) rfl (by decide +kernel) rfl rfl (Nat.le_of_ble_eq_true rfl) dX4_bound_57 (fun H locs hP hD hS => ?_)
      have hP : va_P D vwCl (wM a cI cZ cJ 0 m_sets m_ways m_penalty m_blocks m_edges m_pairs m_lines 0 m_isAnswer m_time m_touchMany m_touch m_line m_from m_to (upd m_bound (Int32.toNatClampNeg v1) v2) m_pairA m_pairB m_comeTo m_greatest m_least m_nowGreatest m_nowLeast m_does m_mostTime m_leastTime m_countUnit m_flagUnit m_worst m_best m_stack) H := hP
      have hD : va_D A (wM a cI cZ cJ 0 m_sets m_ways m_penalty m_blocks m_edges m_pairs m_lines 0 m_isAnswer m_time m_touchMany m_touch m_line m_from m_to (upd m_bound (Int32.toNatClampNeg v1) v2) m_pairA m_pairB m_comeTo m_greatest m_least m_nowGreatest m_nowLeast m_does m_mostTime m_leastTime m_countUnit m_flagUnit m_worst m_best m_stack) := hD
      refine lv_iload_n hx hb dX4_bound_60 rfl (lv_at hl 0 rfl) ?_
      refine wz_mono hQz ?_
      exact W.iret (v := (m_bound (Int32.toNatClampNeg v1))) hx hb hr (fun t ht hW => ⟨⟨(m_bound (Int32.toNatClampNeg v1)), (0, 0, (upd m_bound (Int32.toNatClampNeg v1) v2)), rfl, h, by rw [ht]; exact hP, va_K.moved hW.alike hK, hD⟩, hS.F ht⟩) hS.2.2 dX4_bound_61
    · replace h := h.2 hc
      refine lv_aload_n hx hb dX4_bound_35 rfl (lv_at hl 0 rfl) ?_
      refine lv_iconst (v := 2) hx hb dX4_bound_36 (by decide) ?_
      have hF := wz_free hD hS hA
      refine va_calli (va_runV (As := [.int 2]) (rest := []) ⟨hx, hb, hml, hown, hts⟩ (c_X4_fail l D a cI cZ cJ _ 0 m_sets m_ways m_penalty m_blocks m_edges m_pairs m_lines m_isFresh m_isAnswer m_time m_touchMany m_touch m_line m_from m_to m_bound m_pairA m_pairB m_comeTo m_greatest m_least m_nowGreatest m_nowLeast m_does m_mostTime m_leastTime m_countUnit m_flagUnit m_worst m_best m_stack 2 _ h) (cwV 1 hts gX4_bound_X4_fail rfl rfl rfl (by decide +kernel) ⟨Nat.le_of_ble_eq_true rfl, Nat.le_of_ble_eq_true rfl⟩) ⟨wz_blind, va_recv hK hP (ci := 4) (q0 := 0) rfl rfl, fun U hU hW => wz_at hU hW hP hK hD⟩ rfl rfl hl.1 rfl (lv_room (Nat.le_of_ble_eq_true rfl)) dX4_bound_37 ⟨Nat.zero_le _, Nat.zero_le _⟩) hS (fun q _ hq => hF q hq) hF (fun r_37 u t H locs ht hvm h hB hz1 hk1 hS => ?_)
      obtain ⟨m_thrown_37, rfl⟩ : ∃ z, z = u := ⟨_, rfl⟩
      obtain ⟨hP, -, hD⟩ := wz_back ht hF hB
      have hP : va_P D vwCl (wM a cI cZ cJ m_thrown_37 m_sets m_ways m_penalty m_blocks m_edges m_pairs m_lines m_isFresh m_isAnswer m_time m_touchMany m_touch m_line m_from m_to m_bound m_pairA m_pairB m_comeTo m_greatest m_least m_nowGreatest m_nowLeast m_does m_mostTime m_leastTime m_countUnit m_flagUnit m_worst m_best m_stack) H := hP
      have hD : va_D A (wM a cI cZ cJ m_thrown_37 m_sets m_ways m_penalty m_blocks m_edges m_pairs m_lines m_isFresh m_isAnswer m_time m_touchMany m_touch m_line m_from m_to m_bound m_pairA m_pairB m_comeTo m_greatest m_least m_nowGreatest m_nowLeast m_does m_mostTime m_leastTime m_countUnit m_flagUnit m_worst m_best m_stack) := hD
      refine wz_mono hQz ?_
      exact W.iret (v := r_37) hx hb hr (fun t ht hW => ⟨⟨r_37, (m_thrown_37, m_isFresh, m_bound), rfl, h, by rw [ht]; exact hP, va_K.moved hW.alike hK, hD⟩, hS.F ht⟩) hS.2.2 dX4_bound_40
  · replace h := h.2 hc
    refine lv_aload_n hx hb dX4_bound_19 rfl (lv_at hl 0 rfl) ?_
    refine lv_iconst (v := 1) hx hb dX4_bound_20 (by decide) ?_
    have hF := wz_free hD hS hA
    refine va_calli (va_runV (As := [.int 1]) (rest := []) ⟨hx, hb, hml, hown, hts⟩ (c_X4_fail l D a cI cZ cJ _ 0 m_sets m_ways m_penalty m_blocks m_edges m_pairs m_lines m_isFresh m_isAnswer m_time m_touchMany m_touch m_line m_from m_to m_bound m_pairA m_pairB m_comeTo m_greatest m_least m_nowGreatest m_nowLeast m_does m_mostTime m_leastTime m_countUnit m_flagUnit m_worst m_best m_stack 1 _ h) (cwV 1 hts gX4_bound_X4_fail rfl rfl rfl (by decide +kernel) ⟨Nat.le_of_ble_eq_true rfl, Nat.le_of_ble_eq_true rfl⟩) ⟨wz_blind, va_recv hK hP (ci := 4) (q0 := 0) rfl rfl, fun U hU hW => wz_at hU hW hP hK hD⟩ rfl rfl hl.1 rfl (lv_room (Nat.le_of_ble_eq_true rfl)) dX4_bound_21 ⟨Nat.zero_le _, Nat.zero_le _⟩) hS (fun q _ hq => hF q hq) hF (fun r_21 u t H locs ht hvm h hB hz1 hk1 hS => ?_)
    obtain ⟨m_thrown_21, rfl⟩ : ∃ z, z = u := ⟨_, rfl⟩
    obtain ⟨hP, -, hD⟩ := wz_back ht hF hB
    have hP : va_P D vwCl (wM a cI cZ cJ m_thrown_21 m_sets m_ways m_penalty m_blocks m_edges m_pairs m_lines m_isFresh m_isAnswer m_time m_touchMany m_touch m_line m_from m_to m_bound m_pairA m_pairB m_comeTo m_greatest m_least m_nowGreatest m_nowLeast m_does m_mostTime m_leastTime m_countUnit m_flagUnit m_worst m_best m_stack) H := hP
    have hD : va_D A (wM a cI cZ cJ m_thrown_21 m_sets m_ways m_penalty m_blocks m_edges m_pairs m_lines m_isFresh m_isAnswer m_time m_touchMany m_touch m_line m_from m_to m_bound m_pairA m_pairB m_comeTo m_greatest m_least m_nowGreatest m_nowLeast m_does m_mostTime m_leastTime m_countUnit m_flagUnit m_worst m_best m_stack) := hD
    refine wz_mono hQz ?_
    exact W.iret (v := r_21) hx hb hr (fun t ht hW => ⟨⟨r_21, (m_thrown_21, m_isFresh, m_bound), rfl, h, by rw [ht]; exact hP, va_K.moved hW.alike hK, hD⟩, hS.F ht⟩) hS.2.2 dX4_bound_24
def wp_X4_pair (v1 : Int32) (v2 : Int32) (m_thrown : Int32) (m_edges : Int32) (m_pairs : Int32) (m_isFresh : Int32) (m_pairA : Nat → Int32) (m_pairB : Nat → Int32) (Q : Int32 → Int32 → Int32 → Int32 → (Nat → Int32) → (Nat → Int32) → Prop) : Prop := wp_X4_within v1 0 (m_edges - 1) (fun r_13 => (r_13 = 0 → wp_X4_fail 1 0 (fun r_35 m_thrown_35 => Q r_35 m_thrown_35 m_pairs m_isFresh m_pairA m_pairB)) ∧ (¬ r_13 = 0 → wp_X4_within v2 0 (m_edges - 1) (fun r_27 => (¬ r_27 = 0 → (¬ v1 = v2 → (¬ m_pairs = 3 → vp_in m_pairs 3 ∧ (vp_in m_pairs 3 ∧ (Q (m_pairs + 1) 0 (m_pairs + 1) 0 (upd m_pairA (Int32.toNatClampNeg m_pairs) v1) (upd m_pairB (Int32.toNatClampNeg m_pairs) v2)))) ∧ (m_pairs = 3 → wp_X4_fail 3 0 (fun r_60 m_thrown_60 => Q r_60 m_thrown_60 m_pairs m_isFresh m_pairA m_pairB))) ∧ (v1 = v2 → wp_X4_fail 2 0 (fun r_46 m_thrown_46 => Q r_46 m_thrown_46 m_pairs m_isFresh m_pairA m_pairB))) ∧ (r_27 = 0 → wp_X4_fail 1 0 (fun r_35 m_thrown_35 => Q r_35 m_thrown_35 m_pairs m_isFresh m_pairA m_pairB)))))
abbrev rm_X4_pair : Room := { frames := 1, cells := 0, slots := 0, locals := 22 }
set_option maxHeartbeats 4000000 in
set_option maxRecDepth 100000 in
theorem c_X4_pair (l : Launch) (D : va_G) (a : Nat → Nat) (cI : ClassId) (cZ : ClassId) (cJ : ClassId) (sz : Nat) (m_thrown : Int32) (m_sets : Int32) (m_ways : Int32) (m_penalty : Int32) (m_blocks : Int32) (m_edges : Int32) (m_pairs : Int32) (m_lines : Int32) (m_isFresh : Int32) (m_isAnswer : Int32) (m_time : Nat → Int32) (m_touchMany : Nat → Int32) (m_touch : Nat → Int32) (m_line : Nat → Int32) (m_from : Nat → Int32) (m_to : Nat → Int32) (m_bound : Nat → Int32) (m_pairA : Nat → Int32) (m_pairB : Nat → Int32) (m_comeTo : Nat → Int32) (m_greatest : Nat → Int32) (m_least : Nat → Int32) (m_nowGreatest : Nat → Int32) (m_nowLeast : Nat → Int32) (m_does : Nat → Int32) (m_mostTime : Nat → Int64) (m_leastTime : Nat → Int64) (m_countUnit : Nat → Int32) (m_flagUnit : Nat → Int32) (m_worst : Nat → Int64) (m_best : Nat → Int64) (m_stack : Nat → Int32) (v1 : Int32) (v2 : Int32) (Q : Int32 → Int32 → Int32 → Int32 → (Nat → Int32) → (Nat → Int32) → Prop) (h : wp_X4_pair v1 v2 m_thrown m_edges m_pairs m_isFresh m_pairA m_pairB Q) : Met l yX4_pair wsX4_pair rm_X4_pair (va_Pc [.ref (a 0), .int v1, .int v2] (inW D cI cZ cJ sz (wM a cI cZ cJ m_thrown m_sets m_ways m_penalty m_blocks m_edges m_pairs m_lines m_isFresh m_isAnswer m_time m_touchMany m_touch m_line m_from m_to m_bound m_pairA m_pairB m_comeTo m_greatest m_least m_nowGreatest m_nowLeast m_does m_mostTime m_leastTime m_countUnit m_flagUnit m_worst m_best m_stack))) (va_Qi (fun (r : Int32) (u : Int32 × Int32 × Int32 × (Nat → Int32) × (Nat → Int32)) => Q r u.1 u.2.1 u.2.2.1 u.2.2.2.1 u.2.2.2.2) (fun (u : Int32 × Int32 × Int32 × (Nat → Int32) × (Nat → Int32)) => outW D cI cZ cJ (va_A (wM a cI cZ cJ m_thrown m_sets m_ways m_penalty m_blocks m_edges m_pairs m_lines m_isFresh m_isAnswer m_time m_touchMany m_touch m_line m_from m_to m_bound m_pairA m_pairB m_comeTo m_greatest m_least m_nowGreatest m_nowLeast m_does m_mostTime m_leastTime m_countUnit m_flagUnit m_worst m_best m_stack) sz) (wM a cI cZ cJ u.1 m_sets m_ways m_penalty m_blocks m_edges u.2.1 m_lines u.2.2.1 m_isAnswer m_time m_touchMany m_touch m_line m_from m_to m_bound u.2.2.2.1 u.2.2.2.2 m_comeTo m_greatest m_least m_nowGreatest m_nowLeast m_does m_mostTime m_leastTime m_countUnit m_flagUnit m_worst m_best m_stack)) (va_A (wM a cI cZ cJ m_thrown m_sets m_ways m_penalty m_blocks m_edges m_pairs m_lines m_isFresh m_isAnswer m_time m_touchMany m_touch m_line m_from m_to m_bound m_pairA m_pairB m_comeTo m_greatest m_least m_nowGreatest m_nowLeast m_does m_mostTime m_leastTime m_countUnit m_flagUnit m_worst m_best m_stack) sz)) 0 0 (va_A (wM a cI cZ cJ m_thrown m_sets m_ways m_penalty m_blocks m_edges m_pairs m_lines m_isFresh m_isAnswer m_time m_touchMany m_touch m_line m_from m_to m_bound m_pairA m_pairB m_comeTo m_greatest m_least m_nowGreatest m_nowLeast m_does m_mostTime m_leastTime m_countUnit m_flagUnit m_worst m_best m_stack) sz) := by
  refine Met.ofW (cc := cX4_pair) (maxL := 3) (ret := (some .int)) (by decide +kernel) rfl ?_
  intro p e s m args below meth c s₁ B hml hv
  obtain ⟨rfl, hsz, hP, hK, hD0⟩ := hv
  have hx := B.exec
  have hb := B.bytes
  have hr := B.returns
  have hts := atoms_spec (ws := wsX4_pair) B.pre
  have hown : s.vm.findClass RX4 = some m.cls := findClass_of_methodNamed B.named
  have hlocks := B.notSynchronized
  have hinX4 : ∀ w ∈ wsX40, w ∈ wsX4_pair := by decide +kernel
  subst hsz
  have hD := hD0.self (sz := s.heap.size)
  generalize hAe : va_A (wM a cI cZ cJ m_thrown m_sets m_ways m_penalty m_blocks m_edges m_pairs m_lines m_isFresh m_isAnswer m_time m_touchMany m_touch m_line m_from m_to m_bound m_pairA m_pairB m_comeTo m_greatest m_least m_nowGreatest m_nowLeast m_does m_mostTime m_leastTime m_countUnit m_flagUnit m_worst m_best m_stack) s.heap.size = A at hD ⊢
  have hA : ∀ q : Nat, s.heap.size ≤ q → A q := fun q h => by rw [← hAe]; exact Or.inr h
  have hS : va_S A s.heap s.heap [] := va_S.rf
  have hP : va_P D vwCl (wM a cI cZ cJ m_thrown m_sets m_ways m_penalty m_blocks m_edges m_pairs m_lines m_isFresh m_isAnswer m_time m_touchMany m_touch m_line m_from m_to m_bound m_pairA m_pairB m_comeTo m_greatest m_least m_nowGreatest m_nowLeast m_does m_mostTime m_leastTime m_countUnit m_flagUnit m_worst m_best m_stack) s.heap := hP
  have hl := lv_entry ([.ref (a 0), .int v1, .int v2]) (n := 3) (Nat.le_of_ble_eq_true rfl)
  rw [lg_entry_eq]
  generalize (lg_sl ([.ref (a 0), .int v1, .int v2]) ++ List.replicate (3 - (lg_sl ([.ref (a 0), .int v1, .int v2])).length) Slot.unset).toArray = ls at hl ⊢
  have hl : lv_has ls 3 [(0, .ref (a 0)), (1, .int v1), (2, .int v2)] := hl
  refine wz_abs (fun Qz hQz => ?_)
  unfold wp_X4_pair at h
  refine lv_aload_n hx hb dX4_pair_0 rfl (lv_at hl 0 rfl) ?_
  refine lv_iconst (v := 0) hx hb dX4_pair_1 (by decide) ?_
  refine va_put (D := D) (ci := 4) (v := .int 0) (ty := .int) (C := RX4) (T := TX4) (N := 32) hx hb hts hinX4 tyX4 tyX4_ok nmX4 hown hK hP hD hS 0 rfl rfl 0 (by decide) (hts (.fieldLink RX4 94 "WorstPathsModel" "thrown" "I") (by decide +kernel)) (fun _ h9 => h9) rfl (by decide +kernel) rfl rfl (Nat.le_of_ble_eq_true rfl) dX4_pair_2 (fun H locs hP hD hS => ?_)
  have hP : va_P D vwCl (wM a cI cZ cJ 0 m_sets m_ways m_penalty m_blocks m_edges m_pairs m_lines m_isFresh m_isAnswer m_time m_touchMany m_touch m_line m_from m_to m_bound m_pairA m_pairB m_comeTo m_greatest m_least m_nowGreatest m_nowLeast m_does m_mostTime m_leastTime m_countUnit m_flagUnit m_worst m_best m_stack) H := hP
  have hD : va_D A (wM a cI cZ cJ 0 m_sets m_ways m_penalty m_blocks m_edges m_pairs m_lines m_isFresh m_isAnswer m_time m_touchMany m_touch m_line m_from m_to m_bound m_pairA m_pairB m_comeTo m_greatest m_least m_nowGreatest m_nowLeast m_does m_mostTime m_leastTime m_countUnit m_flagUnit m_worst m_best m_stack) := hD
  refine lv_iload_n hx hb dX4_pair_5 rfl (lv_at hl 1 rfl) ?_
  refine lv_iconst (v := 0) hx hb dX4_pair_6 (by decide) ?_
  refine lv_aload_n hx hb dX4_pair_7 rfl (lv_at hl 0 rfl) ?_
  refine va_get (D := D) (ci := 4) (v := .int m_edges) (C := RX4) (T := TX4) (N := 32) hx hb hts hinX4 hown hK hP 0 rfl rfl 5 (by decide) (hts (.fieldLink RX4 119 "WorstPathsModel" "edges" "I") (by decide +kernel)) (fun _ h9 => h9) rfl dX4_pair_8 ?_
  refine lv_iconst (v := 1) hx hb dX4_pair_11 (by decide) ?_
  refine lv_isub hx hb dX4_pair_12 ?_
  have hF := wz_free hD hS hA
  refine va_calli (va_runS (As := [.int v1, .int 0, .int (m_edges - 1)]) (rest := []) ⟨hx, hb, hml, hown, hts⟩ (c_X4_within l D (wM a cI cZ cJ 0 m_sets m_ways m_penalty m_blocks m_edges m_pairs m_lines m_isFresh m_isAnswer m_time m_touchMany m_touch m_line m_from m_to m_bound m_pairA m_pairB m_comeTo m_greatest m_least m_nowGreatest m_nowLeast m_does m_mostTime m_leastTime m_countUnit m_flagUnit m_worst m_best m_stack) cI cZ cJ _ v1 0 (m_edges - 1) _ h) (va_cwS 3 hts gX4_pair_X4_within rfl rfl rfl (by decide +kernel) ⟨Nat.le_of_ble_eq_true rfl, Nat.le_of_ble_eq_true rfl⟩) ⟨wz_blind, fun U hU hW => wz_at hU hW hP hK hD⟩ rfl rfl hl.1 rfl (lv_room (Nat.le_of_ble_eq_true rfl)) dX4_pair_13 ⟨Nat.zero_le _, Nat.zero_le _⟩) hS (fun q _ hq => hF q hq) hF (fun r_13 u t H locs ht hvm h hB hz1 hk1 hS => ?_)
  obtain ⟨hP, -, hD⟩ := wz_back ht hF hB
  have hP : va_P D vwCl (wM a cI cZ cJ 0 m_sets m_ways m_penalty m_blocks m_edges m_pairs m_lines m_isFresh m_isAnswer m_time m_touchMany m_touch m_line m_from m_to m_bound m_pairA m_pairB m_comeTo m_greatest m_least m_nowGreatest m_nowLeast m_does m_mostTime m_leastTime m_countUnit m_flagUnit m_worst m_best m_stack) H := hP
  have hD : va_D A (wM a cI cZ cJ 0 m_sets m_ways m_penalty m_blocks m_edges m_pairs m_lines m_isFresh m_isAnswer m_time m_touchMany m_touch m_line m_from m_to m_bound m_pairA m_pairB m_comeTo m_greatest m_least m_nowGreatest m_nowLeast m_does m_mostTime m_leastTime m_countUnit m_flagUnit m_worst m_best m_stack) := hD
  refine lv_if_eq (tgt := 33) hx hb dX4_pair_16 (by decide) (fun hc => ?_) (fun hc => ?_)
  · replace h := h.1 hc
    refine lv_aload_n hx hb dX4_pair_33 rfl (lv_at hl 0 rfl) ?_
    refine lv_iconst (v := 1) hx hb dX4_pair_34 (by decide) ?_
    have hF := wz_free hD hS hA
    refine va_calli (va_runV (As := [.int 1]) (rest := []) ⟨hx, hb, hml, hown, hts⟩ (c_X4_fail l D a cI cZ cJ _ 0 m_sets m_ways m_penalty m_blocks m_edges m_pairs m_lines m_isFresh m_isAnswer m_time m_touchMany m_touch m_line m_from m_to m_bound m_pairA m_pairB m_comeTo m_greatest m_least m_nowGreatest m_nowLeast m_does m_mostTime m_leastTime m_countUnit m_flagUnit m_worst m_best m_stack 1 _ h) (cwV 1 hts gX4_pair_X4_fail rfl rfl rfl (by decide +kernel) ⟨Nat.le_of_ble_eq_true rfl, Nat.le_of_ble_eq_true rfl⟩) ⟨wz_blind, va_recv hK hP (ci := 4) (q0 := 0) rfl rfl, fun U hU hW => wz_at hU hW hP hK hD⟩ rfl rfl hl.1 rfl (lv_room (Nat.le_of_ble_eq_true rfl)) dX4_pair_35 ⟨Nat.zero_le _, Nat.zero_le _⟩) hS (fun q _ hq => hF q hq) hF (fun r_35 u t H locs ht hvm h hB hz1 hk1 hS => ?_)
    obtain ⟨m_thrown_35, rfl⟩ : ∃ z, z = u := ⟨_, rfl⟩
    obtain ⟨hP, -, hD⟩ := wz_back ht hF hB
    have hP : va_P D vwCl (wM a cI cZ cJ m_thrown_35 m_sets m_ways m_penalty m_blocks m_edges m_pairs m_lines m_isFresh m_isAnswer m_time m_touchMany m_touch m_line m_from m_to m_bound m_pairA m_pairB m_comeTo m_greatest m_least m_nowGreatest m_nowLeast m_does m_mostTime m_leastTime m_countUnit m_flagUnit m_worst m_best m_stack) H := hP
    have hD : va_D A (wM a cI cZ cJ m_thrown_35 m_sets m_ways m_penalty m_blocks m_edges m_pairs m_lines m_isFresh m_isAnswer m_time m_touchMany m_touch m_line m_from m_to m_bound m_pairA m_pairB m_comeTo m_greatest m_least m_nowGreatest m_nowLeast m_does m_mostTime m_leastTime m_countUnit m_flagUnit m_worst m_best m_stack) := hD
    refine wz_mono hQz ?_
    exact W.iret (v := r_35) hx hb hr (fun t ht hW => ⟨⟨r_35, (m_thrown_35, m_pairs, m_isFresh, m_pairA, m_pairB), rfl, h, by rw [ht]; exact hP, va_K.moved hW.alike hK, hD⟩, hS.F ht⟩) hS.2.2 dX4_pair_38
  · replace h := h.2 hc
    refine lv_iload_n hx hb dX4_pair_19 rfl (lv_at hl 2 rfl) ?_
    refine lv_iconst (v := 0) hx hb dX4_pair_20 (by decide) ?_
    refine lv_aload_n hx hb dX4_pair_21 rfl (lv_at hl 0 rfl) ?_
    refine va_get (D := D) (ci := 4) (v := .int m_edges) (C := RX4) (T := TX4) (N := 32) hx hb hts hinX4 hown hK hP 0 rfl rfl 5 (by decide) (hts (.fieldLink RX4 119 "WorstPathsModel" "edges" "I") (by decide +kernel)) (fun _ h9 => h9) rfl dX4_pair_22 ?_
    refine lv_iconst (v := 1) hx hb dX4_pair_25 (by decide) ?_
    refine lv_isub hx hb dX4_pair_26 ?_
    have hF := wz_free hD hS hA
    refine va_calli (va_runS (As := [.int v2, .int 0, .int (m_edges - 1)]) (rest := []) ⟨hx, hb, hml, hown, hts⟩ (c_X4_within l D (wM a cI cZ cJ 0 m_sets m_ways m_penalty m_blocks m_edges m_pairs m_lines m_isFresh m_isAnswer m_time m_touchMany m_touch m_line m_from m_to m_bound m_pairA m_pairB m_comeTo m_greatest m_least m_nowGreatest m_nowLeast m_does m_mostTime m_leastTime m_countUnit m_flagUnit m_worst m_best m_stack) cI cZ cJ _ v2 0 (m_edges - 1) _ h) (va_cwS 3 hts gX4_pair_X4_within rfl rfl rfl (by decide +kernel) ⟨Nat.le_of_ble_eq_true rfl, Nat.le_of_ble_eq_true rfl⟩) ⟨wz_blind, fun U hU hW => wz_at hU hW hP hK hD⟩ rfl rfl hl.1 rfl (lv_room (Nat.le_of_ble_eq_true rfl)) dX4_pair_27 ⟨Nat.zero_le _, Nat.zero_le _⟩) hS (fun q _ hq => hF q hq) hF (fun r_27 u t H locs ht hvm h hB hz1 hk1 hS => ?_)
    obtain ⟨hP, -, hD⟩ := wz_back ht hF hB
    have hP : va_P D vwCl (wM a cI cZ cJ 0 m_sets m_ways m_penalty m_blocks m_edges m_pairs m_lines m_isFresh m_isAnswer m_time m_touchMany m_touch m_line m_from m_to m_bound m_pairA m_pairB m_comeTo m_greatest m_least m_nowGreatest m_nowLeast m_does m_mostTime m_leastTime m_countUnit m_flagUnit m_worst m_best m_stack) H := hP
    have hD : va_D A (wM a cI cZ cJ 0 m_sets m_ways m_penalty m_blocks m_edges m_pairs m_lines m_isFresh m_isAnswer m_time m_touchMany m_touch m_line m_from m_to m_bound m_pairA m_pairB m_comeTo m_greatest m_least m_nowGreatest m_nowLeast m_does m_mostTime m_leastTime m_countUnit m_flagUnit m_worst m_best m_stack) := hD
    refine lv_if_ne (tgt := 39) hx hb dX4_pair_30 (by decide) (fun hc => ?_) (fun hc => ?_)
    · replace h := h.1 hc
      refine lv_iload_n hx hb dX4_pair_39 rfl (lv_at hl 1 rfl) ?_
      refine lv_iload_n hx hb dX4_pair_40 rfl (lv_at hl 2 rfl) ?_
      refine lv_icmp_ne (tgt := 50) hx hb dX4_pair_41 (by decide) (fun hc => ?_) (fun hc => ?_)
      · replace h := h.1 hc
        refine lv_aload_n hx hb dX4_pair_50 rfl (lv_at hl 0 rfl) ?_
        refine va_get (D := D) (ci := 4) (v := .int m_pairs) (C := RX4) (T := TX4) (N := 32) hx hb hts hinX4 hown hK hP 0 rfl rfl 6 (by decide) (hts (.fieldLink RX4 122 "WorstPathsModel" "pairs" "I") (by decide +kernel)) (fun _ h9 => h9) rfl dX4_pair_51 ?_
        refine lv_iconst (v := 3) hx hb dX4_pair_54 (by decide) ?_
        refine lv_icmp_ne (tgt := 64) hx hb dX4_pair_55 (by decide) (fun hc => ?_) (fun hc => ?_)
        · replace h := h.1 hc
          refine lv_aload_n hx hb dX4_pair_64 rfl (lv_at hl 0 rfl) ?_
          refine va_get (D := D) (ci := 4) (v := .ref (a 8)) (C := RX4) (T := TX4) (N := 32) hx hb hts hinX4 hown hK hP 0 rfl rfl 15 (by decide) (hts (.fieldLink RX4 31 "WorstPathsModel" "pairA" "[I") (by decide +kernel)) (fun _ h9 => h9) rfl dX4_pair_65 ?_
          refine lv_aload_n hx hb dX4_pair_68 rfl (lv_at hl 0 rfl) ?_
          refine va_get (D := D) (ci := 4) (v := .int m_pairs) (C := RX4) (T := TX4) (N := 32) hx hb hts hinX4 hown hK hP 0 rfl rfl 6 (by decide) (hts (.fieldLink RX4 122 "WorstPathsModel" "pairs" "I") (by decide +kernel)) (fun _ h9 => h9) rfl dX4_pair_69 ?_
          refine lv_iload_n hx hb dX4_pair_72 rfl (lv_at hl 1 rfl) ?_
          obtain ⟨hq, h⟩ := h
          refine va_iast (D := D) hx hb hK hP hD hS 8 0 rfl rfl hq dX4_pair_73 (fun H locs hP hD hS => ?_)
          have hP : va_P D vwCl (wM a cI cZ cJ 0 m_sets m_ways m_penalty m_blocks m_edges m_pairs m_lines m_isFresh m_isAnswer m_time m_touchMany m_touch m_line m_from m_to m_bound (upd m_pairA (Int32.toNatClampNeg m_pairs) v1) m_pairB m_comeTo m_greatest m_least m_nowGreatest m_nowLeast m_does m_mostTime m_leastTime m_countUnit m_flagUnit m_worst m_best m_stack) H := hP
          have hD : va_D A (wM a cI cZ cJ 0 m_sets m_ways m_penalty m_blocks m_edges m_pairs m_lines m_isFresh m_isAnswer m_time m_touchMany m_touch m_line m_from m_to m_bound (upd m_pairA (Int32.toNatClampNeg m_pairs) v1) m_pairB m_comeTo m_greatest m_least m_nowGreatest m_nowLeast m_does m_mostTime m_leastTime m_countUnit m_flagUnit m_worst m_best m_stack) := hD
          refine lv_aload_n hx hb dX4_pair_74 rfl (lv_at hl 0 rfl) ?_
          refine va_get (D := D) (ci := 4) (v := .ref (a 9)) (C := RX4) (T := TX4) (N := 32) hx hb hts hinX4 hown hK hP 0 rfl rfl 16 (by decide) (hts (.fieldLink RX4 34 "WorstPathsModel" "pairB" "[I") (by decide +kernel)) (fun _ h9 => h9) rfl dX4_pair_75 ?_
          refine lv_aload_n hx hb dX4_pair_78 rfl (lv_at hl 0 rfl) ?_
          refine va_get (D := D) (ci := 4) (v := .int m_pairs) (C := RX4) (T := TX4) (N := 32) hx hb hts hinX4 hown hK hP 0 rfl rfl 6 (by decide) (hts (.fieldLink RX4 122 "WorstPathsModel" "pairs" "I") (by decide +kernel)) (fun _ h9 => h9) rfl dX4_pair_79 ?_
          refine lv_iload_n hx hb dX4_pair_82 rfl (lv_at hl 2 rfl) ?_
          obtain ⟨hq, h⟩ := h
          refine va_iast (D := D) hx hb hK hP hD hS 9 0 rfl rfl hq dX4_pair_83 (fun H locs hP hD hS => ?_)
          have hP : va_P D vwCl (wM a cI cZ cJ 0 m_sets m_ways m_penalty m_blocks m_edges m_pairs m_lines m_isFresh m_isAnswer m_time m_touchMany m_touch m_line m_from m_to m_bound (upd m_pairA (Int32.toNatClampNeg m_pairs) v1) (upd m_pairB (Int32.toNatClampNeg m_pairs) v2) m_comeTo m_greatest m_least m_nowGreatest m_nowLeast m_does m_mostTime m_leastTime m_countUnit m_flagUnit m_worst m_best m_stack) H := hP
          have hD : va_D A (wM a cI cZ cJ 0 m_sets m_ways m_penalty m_blocks m_edges m_pairs m_lines m_isFresh m_isAnswer m_time m_touchMany m_touch m_line m_from m_to m_bound (upd m_pairA (Int32.toNatClampNeg m_pairs) v1) (upd m_pairB (Int32.toNatClampNeg m_pairs) v2) m_comeTo m_greatest m_least m_nowGreatest m_nowLeast m_does m_mostTime m_leastTime m_countUnit m_flagUnit m_worst m_best m_stack) := hD
          refine lv_aload_n hx hb dX4_pair_84 rfl (lv_at hl 0 rfl) ?_
          refine lv_dup hx hb dX4_pair_85 rfl ?_
          refine va_get (D := D) (ci := 4) (v := .int m_pairs) (C := RX4) (T := TX4) (N := 32) hx hb hts hinX4 hown hK hP 0 rfl rfl 6 (by decide) (hts (.fieldLink RX4 122 "WorstPathsModel" "pairs" "I") (by decide +kernel)) (fun _ h9 => h9) rfl dX4_pair_86 ?_
          refine lv_iconst (v := 1) hx hb dX4_pair_89 (by decide) ?_
          refine lv_iadd hx hb dX4_pair_90 ?_
          refine va_put (D := D) (ci := 4) (v := .int (m_pairs + 1)) (ty := .int) (C := RX4) (T := TX4) (N := 32) hx hb hts hinX4 tyX4 tyX4_ok nmX4 hown hK hP hD hS 0 rfl rfl 6 (by decide) (hts (.fieldLink RX4 122 "WorstPathsModel" "pairs" "I") (by decide +kernel)) (fun _ h9 => h9) rfl (by decide +kernel) rfl rfl (Nat.le_of_ble_eq_true rfl) dX4_pair_91 (fun H locs hP hD hS => ?_)
          have hP : va_P D vwCl (wM a cI cZ cJ 0 m_sets m_ways m_penalty m_blocks m_edges (m_pairs + 1) m_lines m_isFresh m_isAnswer m_time m_touchMany m_touch m_line m_from m_to m_bound (upd m_pairA (Int32.toNatClampNeg m_pairs) v1) (upd m_pairB (Int32.toNatClampNeg m_pairs) v2) m_comeTo m_greatest m_least m_nowGreatest m_nowLeast m_does m_mostTime m_leastTime m_countUnit m_flagUnit m_worst m_best m_stack) H := hP
          have hD : va_D A (wM a cI cZ cJ 0 m_sets m_ways m_penalty m_blocks m_edges (m_pairs + 1) m_lines m_isFresh m_isAnswer m_time m_touchMany m_touch m_line m_from m_to m_bound (upd m_pairA (Int32.toNatClampNeg m_pairs) v1) (upd m_pairB (Int32.toNatClampNeg m_pairs) v2) m_comeTo m_greatest m_least m_nowGreatest m_nowLeast m_does m_mostTime m_leastTime m_countUnit m_flagUnit m_worst m_best m_stack) := hD
          refine lv_aload_n hx hb dX4_pair_94 rfl (lv_at hl 0 rfl) ?_
          refine lv_iconst (v := 0) hx hb dX4_pair_95 (by decide) ?_
          refine va_put (D := D) (ci := 4) (v := .int 0) (ty := .boolean) (C := RX4) (T := TX4) (N := 32) hx hb hts hinX4 tyX4 tyX4_ok nmX4 hown hK hP hD hS 0 rfl rfl 17 (by decide) (hts (.fieldLink RX4 109 "WorstPathsModel" "isFresh" "Z") (by decide +kernel)) (fun _ h9 => h9) rfl (by decide +kernel) rfl rfl (Nat.le_of_ble_eq_true rfl) dX4_pair_96 (fun H locs hP hD hS => ?_)
          have hP : va_P D vwCl (wM a cI cZ cJ 0 m_sets m_ways m_penalty m_blocks m_edges (m_pairs + 1) m_lines 0 m_isAnswer m_time m_touchMany m_touch m_line m_from m_to m_bound (upd m_pairA (Int32.toNatClampNeg m_pairs) v1) (upd m_pairB (Int32.toNatClampNeg m_pairs) v2) m_comeTo m_greatest m_least m_nowGreatest m_nowLeast m_does m_mostTime m_leastTime m_countUnit m_flagUnit m_worst m_best m_stack) H := hP
          have hD : va_D A (wM a cI cZ cJ 0 m_sets m_ways m_penalty m_blocks m_edges (m_pairs + 1) m_lines 0 m_isAnswer m_time m_touchMany m_touch m_line m_from m_to m_bound (upd m_pairA (Int32.toNatClampNeg m_pairs) v1) (upd m_pairB (Int32.toNatClampNeg m_pairs) v2) m_comeTo m_greatest m_least m_nowGreatest m_nowLeast m_does m_mostTime m_leastTime m_countUnit m_flagUnit m_worst m_best m_stack) := hD
          refine lv_aload_n hx hb dX4_pair_99 rfl (lv_at hl 0 rfl) ?_
          refine va_get (D := D) (ci := 4) (v := .int (m_pairs + 1)) (C := RX4) (T := TX4) (N := 32) hx hb hts hinX4 hown hK hP 0 rfl rfl 6 (by decide) (hts (.fieldLink RX4 122 "WorstPathsModel" "pairs" "I") (by decide +kernel)) (fun _ h9 => h9) rfl dX4_pair_100 ?_
          refine wz_mono hQz ?_
          exact W.iret (v := (m_pairs + 1)) hx hb hr (fun t ht hW => ⟨⟨(m_pairs + 1), (0, (m_pairs + 1), 0, (upd m_pairA (Int32.toNatClampNeg m_pairs) v1), (upd m_pairB (Int32.toNatClampNeg m_pairs) v2)), rfl, h, by rw [ht]; exact hP, va_K.moved hW.alike hK, hD⟩, hS.F ht⟩) hS.2.2 dX4_pair_103
        · replace h := h.2 hc
          refine lv_aload_n hx hb dX4_pair_58 rfl (lv_at hl 0 rfl) ?_
          refine lv_iconst (v := 3) hx hb dX4_pair_59 (by decide) ?_
          have hF := wz_free hD hS hA
          refine va_calli (va_runV (As := [.int 3]) (rest := []) ⟨hx, hb, hml, hown, hts⟩ (c_X4_fail l D a cI cZ cJ _ 0 m_sets m_ways m_penalty m_blocks m_edges m_pairs m_lines m_isFresh m_isAnswer m_time m_touchMany m_touch m_line m_from m_to m_bound m_pairA m_pairB m_comeTo m_greatest m_least m_nowGreatest m_nowLeast m_does m_mostTime m_leastTime m_countUnit m_flagUnit m_worst m_best m_stack 3 _ h) (cwV 1 hts gX4_pair_X4_fail rfl rfl rfl (by decide +kernel) ⟨Nat.le_of_ble_eq_true rfl, Nat.le_of_ble_eq_true rfl⟩) ⟨wz_blind, va_recv hK hP (ci := 4) (q0 := 0) rfl rfl, fun U hU hW => wz_at hU hW hP hK hD⟩ rfl rfl hl.1 rfl (lv_room (Nat.le_of_ble_eq_true rfl)) dX4_pair_60 ⟨Nat.zero_le _, Nat.zero_le _⟩) hS (fun q _ hq => hF q hq) hF (fun r_60 u t H locs ht hvm h hB hz1 hk1 hS => ?_)
          obtain ⟨m_thrown_60, rfl⟩ : ∃ z, z = u := ⟨_, rfl⟩
          obtain ⟨hP, -, hD⟩ := wz_back ht hF hB
          have hP : va_P D vwCl (wM a cI cZ cJ m_thrown_60 m_sets m_ways m_penalty m_blocks m_edges m_pairs m_lines m_isFresh m_isAnswer m_time m_touchMany m_touch m_line m_from m_to m_bound m_pairA m_pairB m_comeTo m_greatest m_least m_nowGreatest m_nowLeast m_does m_mostTime m_leastTime m_countUnit m_flagUnit m_worst m_best m_stack) H := hP
          have hD : va_D A (wM a cI cZ cJ m_thrown_60 m_sets m_ways m_penalty m_blocks m_edges m_pairs m_lines m_isFresh m_isAnswer m_time m_touchMany m_touch m_line m_from m_to m_bound m_pairA m_pairB m_comeTo m_greatest m_least m_nowGreatest m_nowLeast m_does m_mostTime m_leastTime m_countUnit m_flagUnit m_worst m_best m_stack) := hD
          refine wz_mono hQz ?_
          exact W.iret (v := r_60) hx hb hr (fun t ht hW => ⟨⟨r_60, (m_thrown_60, m_pairs, m_isFresh, m_pairA, m_pairB), rfl, h, by rw [ht]; exact hP, va_K.moved hW.alike hK, hD⟩, hS.F ht⟩) hS.2.2 dX4_pair_63
      · replace h := h.2 hc
        refine lv_aload_n hx hb dX4_pair_44 rfl (lv_at hl 0 rfl) ?_
        refine lv_iconst (v := 2) hx hb dX4_pair_45 (by decide) ?_
        have hF := wz_free hD hS hA
        refine va_calli (va_runV (As := [.int 2]) (rest := []) ⟨hx, hb, hml, hown, hts⟩ (c_X4_fail l D a cI cZ cJ _ 0 m_sets m_ways m_penalty m_blocks m_edges m_pairs m_lines m_isFresh m_isAnswer m_time m_touchMany m_touch m_line m_from m_to m_bound m_pairA m_pairB m_comeTo m_greatest m_least m_nowGreatest m_nowLeast m_does m_mostTime m_leastTime m_countUnit m_flagUnit m_worst m_best m_stack 2 _ h) (cwV 1 hts gX4_pair_X4_fail rfl rfl rfl (by decide +kernel) ⟨Nat.le_of_ble_eq_true rfl, Nat.le_of_ble_eq_true rfl⟩) ⟨wz_blind, va_recv hK hP (ci := 4) (q0 := 0) rfl rfl, fun U hU hW => wz_at hU hW hP hK hD⟩ rfl rfl hl.1 rfl (lv_room (Nat.le_of_ble_eq_true rfl)) dX4_pair_46 ⟨Nat.zero_le _, Nat.zero_le _⟩) hS (fun q _ hq => hF q hq) hF (fun r_46 u t H locs ht hvm h hB hz1 hk1 hS => ?_)
        obtain ⟨m_thrown_46, rfl⟩ : ∃ z, z = u := ⟨_, rfl⟩
        obtain ⟨hP, -, hD⟩ := wz_back ht hF hB
        have hP : va_P D vwCl (wM a cI cZ cJ m_thrown_46 m_sets m_ways m_penalty m_blocks m_edges m_pairs m_lines m_isFresh m_isAnswer m_time m_touchMany m_touch m_line m_from m_to m_bound m_pairA m_pairB m_comeTo m_greatest m_least m_nowGreatest m_nowLeast m_does m_mostTime m_leastTime m_countUnit m_flagUnit m_worst m_best m_stack) H := hP
        have hD : va_D A (wM a cI cZ cJ m_thrown_46 m_sets m_ways m_penalty m_blocks m_edges m_pairs m_lines m_isFresh m_isAnswer m_time m_touchMany m_touch m_line m_from m_to m_bound m_pairA m_pairB m_comeTo m_greatest m_least m_nowGreatest m_nowLeast m_does m_mostTime m_leastTime m_countUnit m_flagUnit m_worst m_best m_stack) := hD
        refine wz_mono hQz ?_
        exact W.iret (v := r_46) hx hb hr (fun t ht hW => ⟨⟨r_46, (m_thrown_46, m_pairs, m_isFresh, m_pairA, m_pairB), rfl, h, by rw [ht]; exact hP, va_K.moved hW.alike hK, hD⟩, hS.F ht⟩) hS.2.2 dX4_pair_49
    · replace h := h.2 hc
      refine lv_aload_n hx hb dX4_pair_33 rfl (lv_at hl 0 rfl) ?_
      refine lv_iconst (v := 1) hx hb dX4_pair_34 (by decide) ?_
      have hF := wz_free hD hS hA
      refine va_calli (va_runV (As := [.int 1]) (rest := []) ⟨hx, hb, hml, hown, hts⟩ (c_X4_fail l D a cI cZ cJ _ 0 m_sets m_ways m_penalty m_blocks m_edges m_pairs m_lines m_isFresh m_isAnswer m_time m_touchMany m_touch m_line m_from m_to m_bound m_pairA m_pairB m_comeTo m_greatest m_least m_nowGreatest m_nowLeast m_does m_mostTime m_leastTime m_countUnit m_flagUnit m_worst m_best m_stack 1 _ h) (cwV 1 hts gX4_pair_X4_fail rfl rfl rfl (by decide +kernel) ⟨Nat.le_of_ble_eq_true rfl, Nat.le_of_ble_eq_true rfl⟩) ⟨wz_blind, va_recv hK hP (ci := 4) (q0 := 0) rfl rfl, fun U hU hW => wz_at hU hW hP hK hD⟩ rfl rfl hl.1 rfl (lv_room (Nat.le_of_ble_eq_true rfl)) dX4_pair_35 ⟨Nat.zero_le _, Nat.zero_le _⟩) hS (fun q _ hq => hF q hq) hF (fun r_35 u t H locs ht hvm h hB hz1 hk1 hS => ?_)
      obtain ⟨m_thrown_35, rfl⟩ : ∃ z, z = u := ⟨_, rfl⟩
      obtain ⟨hP, -, hD⟩ := wz_back ht hF hB
      have hP : va_P D vwCl (wM a cI cZ cJ m_thrown_35 m_sets m_ways m_penalty m_blocks m_edges m_pairs m_lines m_isFresh m_isAnswer m_time m_touchMany m_touch m_line m_from m_to m_bound m_pairA m_pairB m_comeTo m_greatest m_least m_nowGreatest m_nowLeast m_does m_mostTime m_leastTime m_countUnit m_flagUnit m_worst m_best m_stack) H := hP
      have hD : va_D A (wM a cI cZ cJ m_thrown_35 m_sets m_ways m_penalty m_blocks m_edges m_pairs m_lines m_isFresh m_isAnswer m_time m_touchMany m_touch m_line m_from m_to m_bound m_pairA m_pairB m_comeTo m_greatest m_least m_nowGreatest m_nowLeast m_does m_mostTime m_leastTime m_countUnit m_flagUnit m_worst m_best m_stack) := hD
      refine wz_mono hQz ?_
      exact W.iret (v := r_35) hx hb hr (fun t ht hW => ⟨⟨r_35, (m_thrown_35, m_pairs, m_isFresh, m_pairA, m_pairB), rfl, h, by rw [ht]; exact hP, va_K.moved hW.alike hK, hD⟩, hS.F ht⟩) hS.2.2 dX4_pair_38
