def jn_X4_workOut_174 (v1 : Int32) (v2 : Int32) (v5 : Int64) (m_blocks : Int32) (m_edges : Int32) (m_pairs : Int32) (m_from : Nat → Int32) (m_to : Nat → Int32) (m_bound : Nat → Int32) (m_pairA : Nat → Int32) (m_pairB : Nat → Int32) (m_mostTime : Nat → Int64) (m_leastTime : Nat → Int64) (m_countUnit : Nat → Int32) (m_flagUnit : Nat → Int32) (m_worst : Nat → Int64) (m_best : Nat → Int64) (t0 : Int64) (t1 : Int32) (Q : (Nat → Int64) → (Nat → Int64) → Prop) : Prop := vp_in t1 40000 ∧ ((0 ≤ (lg_cmp v5 0) → vp_in v2 40 ∧ (vp_in v1 40000 ∧ (Q (vp_updL m_worst (Int32.toNatClampNeg t1) t0) (vp_updL m_best (Int32.toNatClampNeg v1) (v5 + (m_leastTime (Int32.toNatClampNeg v2))))))) ∧ (¬ 0 ≤ (lg_cmp v5 0) → vp_in v1 40000 ∧ (Q (vp_updL m_worst (Int32.toNatClampNeg t1) t0) (vp_updL m_best (Int32.toNatClampNeg v1) (-1)))))
def jn_X4_workOut_102 (v1 : Int32) (v2 : Int32) (v3 : Int64) (v5 : Int64) (v7 : Int32) (v8 : Int32) (m_blocks : Int32) (m_edges : Int32) (m_pairs : Int32) (m_from : Nat → Int32) (m_to : Nat → Int32) (m_bound : Nat → Int32) (m_pairA : Nat → Int32) (m_pairB : Nat → Int32) (m_mostTime : Nat → Int64) (m_leastTime : Nat → Int64) (m_countUnit : Nat → Int32) (m_flagUnit : Nat → Int32) (m_worst : Nat → Int64) (m_best : Nat → Int64) (K43 : Int64 → Int64 → Int32 → Prop) (Q : (Nat → Int64) → (Nat → Int64) → Prop) : Prop := vp_in v8 40000 ∧ (((lg_cmp (m_best (Int32.toNatClampNeg v8)) 0) < 0 → K43 v3 v5 (v7 + 1)) ∧ (¬ (lg_cmp (m_best (Int32.toNatClampNeg v8)) 0) < 0 → ((lg_cmp v5 0) < 0 → vp_in v8 40000 ∧ (K43 v3 (m_best (Int32.toNatClampNeg v8)) (v7 + 1))) ∧ (¬ (lg_cmp v5 0) < 0 → vp_in v8 40000 ∧ ((0 ≤ (lg_cmp (m_best (Int32.toNatClampNeg v8)) v5) → K43 v3 v5 (v7 + 1)) ∧ (¬ 0 ≤ (lg_cmp (m_best (Int32.toNatClampNeg v8)) v5) → vp_in v8 40000 ∧ (K43 v3 (m_best (Int32.toNatClampNeg v8)) (v7 + 1)))))))
def lp_X4_workOut_43 (v1 : Int32) (v2 : Int32) (m_blocks : Int32) (m_edges : Int32) (m_pairs : Int32) (m_from : Nat → Int32) (m_to : Nat → Int32) (m_bound : Nat → Int32) (m_pairA : Nat → Int32) (m_pairB : Nat → Int32) (m_mostTime : Nat → Int64) (m_leastTime : Nat → Int64) (m_countUnit : Nat → Int32) (m_flagUnit : Nat → Int32) (m_worst : Nat → Int64) (m_best : Nat → Int64) (Q : (Nat → Int64) → (Nat → Int64) → Prop) : Nat → Int64 → Int64 → Int32 → Prop
  | 0, _, _, _ => False
  | n + 1, v3, v5, v7 => (m_edges ≤ v7 → (0 ≤ (lg_cmp v3 0) → vp_in v2 40 ∧ (jn_X4_workOut_174 v1 v2 v5 m_blocks m_edges m_pairs m_from m_to m_bound m_pairA m_pairB m_mostTime m_leastTime m_countUnit m_flagUnit m_worst m_best (v3 + (m_mostTime (Int32.toNatClampNeg v2))) v1 Q)) ∧ (¬ 0 ≤ (lg_cmp v3 0) → jn_X4_workOut_174 v1 v2 v5 m_blocks m_edges m_pairs m_from m_to m_bound m_pairA m_pairB m_mostTime m_leastTime m_countUnit m_flagUnit m_worst m_best (-1) v1 Q)) ∧ (¬ m_edges ≤ v7 → vp_in v7 80 ∧ ((¬ (m_from (Int32.toNatClampNeg v7)) = v2 → (lp_X4_workOut_43 v1 v2 m_blocks m_edges m_pairs m_from m_to m_bound m_pairA m_pairB m_mostTime m_leastTime m_countUnit m_flagUnit m_worst m_best Q n) v3 v5 (v7 + 1)) ∧ ((m_from (Int32.toNatClampNeg v7)) = v2 → wp_X4_allows v1 v7 m_pairs m_bound m_pairA m_pairB m_countUnit m_flagUnit (fun r_67 => (r_67 = 0 → (lp_X4_workOut_43 v1 v2 m_blocks m_edges m_pairs m_from m_to m_bound m_pairA m_pairB m_mostTime m_leastTime m_countUnit m_flagUnit m_worst m_best Q n) v3 v5 (v7 + 1)) ∧ (¬ r_67 = 0 → wp_X4_behind v1 v7 m_from m_to m_bound m_countUnit m_flagUnit (fun r_77 => vp_in r_77 40000 ∧ (((lg_cmp (m_worst (Int32.toNatClampNeg r_77)) v3) ≤ 0 → jn_X4_workOut_102 v1 v2 v3 v5 v7 r_77 m_blocks m_edges m_pairs m_from m_to m_bound m_pairA m_pairB m_mostTime m_leastTime m_countUnit m_flagUnit m_worst m_best (lp_X4_workOut_43 v1 v2 m_blocks m_edges m_pairs m_from m_to m_bound m_pairA m_pairB m_mostTime m_leastTime m_countUnit m_flagUnit m_worst m_best Q n) Q) ∧ (¬ (lg_cmp (m_worst (Int32.toNatClampNeg r_77)) v3) ≤ 0 → vp_in r_77 40000 ∧ (jn_X4_workOut_102 v1 v2 (m_worst (Int32.toNatClampNeg r_77)) v5 v7 r_77 m_blocks m_edges m_pairs m_from m_to m_bound m_pairA m_pairB m_mostTime m_leastTime m_countUnit m_flagUnit m_worst m_best (lp_X4_workOut_43 v1 v2 m_blocks m_edges m_pairs m_from m_to m_bound m_pairA m_pairB m_mostTime m_leastTime m_countUnit m_flagUnit m_worst m_best Q n) Q)))))))))
def jn_X4_workOut_22 (v1 : Int32) (v2 : Int32) (m_blocks : Int32) (m_edges : Int32) (m_pairs : Int32) (m_from : Nat → Int32) (m_to : Nat → Int32) (m_bound : Nat → Int32) (m_pairA : Nat → Int32) (m_pairB : Nat → Int32) (m_mostTime : Nat → Int64) (m_leastTime : Nat → Int64) (m_countUnit : Nat → Int32) (m_flagUnit : Nat → Int32) (m_worst : Nat → Int64) (m_best : Nat → Int64) (t0 : Int64) (Q : (Nat → Int64) → (Nat → Int64) → Prop) : Prop := wp_X4_isEnd v2 m_edges m_from (fun r_25 => (r_25 = 0 → ∃ k43, lp_X4_workOut_43 v1 v2 m_blocks m_edges m_pairs m_from m_to m_bound m_pairA m_pairB m_mostTime m_leastTime m_countUnit m_flagUnit m_worst m_best Q k43 t0 (-1) 0) ∧ (¬ r_25 = 0 → ∃ k43, lp_X4_workOut_43 v1 v2 m_blocks m_edges m_pairs m_from m_to m_bound m_pairA m_pairB m_mostTime m_leastTime m_countUnit m_flagUnit m_worst m_best Q k43 t0 0 0))
def wp_X4_workOut (v1 : Int32) (m_blocks : Int32) (m_edges : Int32) (m_pairs : Int32) (m_from : Nat → Int32) (m_to : Nat → Int32) (m_bound : Nat → Int32) (m_pairA : Nat → Int32) (m_pairB : Nat → Int32) (m_mostTime : Nat → Int64) (m_leastTime : Nat → Int64) (m_countUnit : Nat → Int32) (m_flagUnit : Nat → Int32) (m_worst : Nat → Int64) (m_best : Nat → Int64) (Q : (Nat → Int64) → (Nat → Int64) → Prop) : Prop := (¬ (m_blocks : Int32) = 0) ∧ (wp_X4_isEnd (v1 - v1 / m_blocks * m_blocks) m_edges m_from (fun r_9 => (r_9 = 0 → jn_X4_workOut_22 v1 (v1 - v1 / m_blocks * m_blocks) m_blocks m_edges m_pairs m_from m_to m_bound m_pairA m_pairB m_mostTime m_leastTime m_countUnit m_flagUnit m_worst m_best (-1) Q) ∧ (¬ r_9 = 0 → jn_X4_workOut_22 v1 (v1 - v1 / m_blocks * m_blocks) m_blocks m_edges m_pairs m_from m_to m_bound m_pairA m_pairB m_mostTime m_leastTime m_countUnit m_flagUnit m_worst m_best 0 Q)))
abbrev rm_X4_workOut : Room := { frames := 2, cells := 0, slots := 0, locals := 46 }
set_option maxHeartbeats 4000000 in
set_option maxRecDepth 100000 in
theorem c_X4_workOut (l : Launch) (D : va_G) (a : Nat → Nat) (cI : ClassId) (cZ : ClassId) (cJ : ClassId) (sz : Nat) (m_thrown : Int32) (m_sets : Int32) (m_ways : Int32) (m_penalty : Int32) (m_blocks : Int32) (m_edges : Int32) (m_pairs : Int32) (m_lines : Int32) (m_isFresh : Int32) (m_isAnswer : Int32) (m_time : Nat → Int32) (m_touchMany : Nat → Int32) (m_touch : Nat → Int32) (m_line : Nat → Int32) (m_from : Nat → Int32) (m_to : Nat → Int32) (m_bound : Nat → Int32) (m_pairA : Nat → Int32) (m_pairB : Nat → Int32) (m_comeTo : Nat → Int32) (m_greatest : Nat → Int32) (m_least : Nat → Int32) (m_nowGreatest : Nat → Int32) (m_nowLeast : Nat → Int32) (m_does : Nat → Int32) (m_mostTime : Nat → Int64) (m_leastTime : Nat → Int64) (m_countUnit : Nat → Int32) (m_flagUnit : Nat → Int32) (m_worst : Nat → Int64) (m_best : Nat → Int64) (m_stack : Nat → Int32) (v1 : Int32) (Q : (Nat → Int64) → (Nat → Int64) → Prop) (h : wp_X4_workOut v1 m_blocks m_edges m_pairs m_from m_to m_bound m_pairA m_pairB m_mostTime m_leastTime m_countUnit m_flagUnit m_worst m_best Q) : Met l yX4_workOut wsX4_workOut rm_X4_workOut (va_Pc [.ref (a 0), .int v1] (inW D cI cZ cJ sz (wM a cI cZ cJ m_thrown m_sets m_ways m_penalty m_blocks m_edges m_pairs m_lines m_isFresh m_isAnswer m_time m_touchMany m_touch m_line m_from m_to m_bound m_pairA m_pairB m_comeTo m_greatest m_least m_nowGreatest m_nowLeast m_does m_mostTime m_leastTime m_countUnit m_flagUnit m_worst m_best m_stack))) (va_Qv (fun (u : (Nat → Int64) × (Nat → Int64)) => Q u.1 u.2) (fun (u : (Nat → Int64) × (Nat → Int64)) => outW D cI cZ cJ (va_A (wM a cI cZ cJ m_thrown m_sets m_ways m_penalty m_blocks m_edges m_pairs m_lines m_isFresh m_isAnswer m_time m_touchMany m_touch m_line m_from m_to m_bound m_pairA m_pairB m_comeTo m_greatest m_least m_nowGreatest m_nowLeast m_does m_mostTime m_leastTime m_countUnit m_flagUnit m_worst m_best m_stack) sz) (wM a cI cZ cJ m_thrown m_sets m_ways m_penalty m_blocks m_edges m_pairs m_lines m_isFresh m_isAnswer m_time m_touchMany m_touch m_line m_from m_to m_bound m_pairA m_pairB m_comeTo m_greatest m_least m_nowGreatest m_nowLeast m_does m_mostTime m_leastTime m_countUnit m_flagUnit u.1 u.2 m_stack)) (va_A (wM a cI cZ cJ m_thrown m_sets m_ways m_penalty m_blocks m_edges m_pairs m_lines m_isFresh m_isAnswer m_time m_touchMany m_touch m_line m_from m_to m_bound m_pairA m_pairB m_comeTo m_greatest m_least m_nowGreatest m_nowLeast m_does m_mostTime m_leastTime m_countUnit m_flagUnit m_worst m_best m_stack) sz)) 0 0 (va_A (wM a cI cZ cJ m_thrown m_sets m_ways m_penalty m_blocks m_edges m_pairs m_lines m_isFresh m_isAnswer m_time m_touchMany m_touch m_line m_from m_to m_bound m_pairA m_pairB m_comeTo m_greatest m_least m_nowGreatest m_nowLeast m_does m_mostTime m_leastTime m_countUnit m_flagUnit m_worst m_best m_stack) sz) := by
  refine Met.ofW (cc := cX4_workOut) (maxL := 9) (ret := none) (by decide +kernel) rfl ?_
  intro p e s m args below meth c s₁ B hml hv
  obtain ⟨rfl, hsz, hP, hK, hD0⟩ := hv
  have hx := B.exec
  have hb := B.bytes
  have hr := B.returns
  have hts := atoms_spec (ws := wsX4_workOut) B.pre
  have hown : s.vm.findClass RX4 = some m.cls := findClass_of_methodNamed B.named
  have hlocks := B.notSynchronized
  have hinX4 : ∀ w ∈ wsX40, w ∈ wsX4_workOut := by decide +kernel
  subst hsz
  have hD := hD0.self (sz := s.heap.size)
  generalize hAe : va_A (wM a cI cZ cJ m_thrown m_sets m_ways m_penalty m_blocks m_edges m_pairs m_lines m_isFresh m_isAnswer m_time m_touchMany m_touch m_line m_from m_to m_bound m_pairA m_pairB m_comeTo m_greatest m_least m_nowGreatest m_nowLeast m_does m_mostTime m_leastTime m_countUnit m_flagUnit m_worst m_best m_stack) s.heap.size = A at hD ⊢
  have hA : ∀ q : Nat, s.heap.size ≤ q → A q := fun q h => by rw [← hAe]; exact Or.inr h
  have hS : va_S A s.heap s.heap [] := va_S.rf
  have hP : va_P D vwCl (wM a cI cZ cJ m_thrown m_sets m_ways m_penalty m_blocks m_edges m_pairs m_lines m_isFresh m_isAnswer m_time m_touchMany m_touch m_line m_from m_to m_bound m_pairA m_pairB m_comeTo m_greatest m_least m_nowGreatest m_nowLeast m_does m_mostTime m_leastTime m_countUnit m_flagUnit m_worst m_best m_stack) s.heap := hP
  have hl := lv_entry ([.ref (a 0), .int v1]) (n := 9) (Nat.le_of_ble_eq_true rfl)
  rw [lg_entry_eq]
  generalize (lg_sl ([.ref (a 0), .int v1]) ++ List.replicate (9 - (lg_sl ([.ref (a 0), .int v1])).length) Slot.unset).toArray = ls at hl ⊢
  have hl : lv_has ls 9 [(0, .ref (a 0)), (1, .int v1)] := hl
  refine wz_abs (fun Qz hQz => ?_)
  unfold wp_X4_workOut at h
  refine lv_iload_n hx hb dX4_workOut_0 rfl (lv_at hl 1 rfl) ?_
  refine lv_aload_n hx hb dX4_workOut_1 rfl (lv_at hl 0 rfl) ?_
  refine va_get (D := D) (ci := 4) (v := .int m_blocks) (C := RX4) (T := TX4) (N := 32) hx hb hts hinX4 hown hK hP 0 rfl rfl 4 (by decide) (hts (.fieldLink RX4 106 "WorstPathsModel" "blocks" "I") (by decide +kernel)) (fun _ h9 => h9) rfl dX4_workOut_2 ?_
  obtain ⟨hq, h⟩ := h
  refine lv_irem hx hb dX4_workOut_5 hq ?_
  refine lv_istore_n (lv' := [(2, .int (v1 - v1 / m_blocks * m_blocks)), (0, .ref (a 0)), (1, .int v1)]) hx hb dX4_workOut_6 rfl hl (by decide) rfl (fun ls hl => ?_)
  refine lv_aload_n hx hb dX4_workOut_7 rfl (lv_at hl 1 rfl) ?_
  refine lv_iload_n hx hb dX4_workOut_8 rfl (lv_at hl 0 rfl) ?_
  have hF := wz_free hD hS hA
  refine va_calli (va_runV (As := [.int (v1 - v1 / m_blocks * m_blocks)]) (rest := []) ⟨hx, hb, hml, hown, hts⟩ (c_X4_isEnd l D a cI cZ cJ _ m_thrown m_sets m_ways m_penalty m_blocks m_edges m_pairs m_lines m_isFresh m_isAnswer m_time m_touchMany m_touch m_line m_from m_to m_bound m_pairA m_pairB m_comeTo m_greatest m_least m_nowGreatest m_nowLeast m_does m_mostTime m_leastTime m_countUnit m_flagUnit m_worst m_best m_stack (v1 - v1 / m_blocks * m_blocks) _ h) (cwV 1 hts gX4_workOut_X4_isEnd rfl rfl rfl (by decide +kernel) ⟨Nat.le_of_ble_eq_true rfl, Nat.le_of_ble_eq_true rfl⟩) ⟨wz_blind, va_recv hK hP (ci := 4) (q0 := 0) rfl rfl, fun U hU hW => wz_at hU hW hP hK hD⟩ rfl rfl hl.1 rfl (lv_room (Nat.le_of_ble_eq_true rfl)) dX4_workOut_9 ⟨Nat.zero_le _, Nat.zero_le _⟩) hS (fun q _ hq => hF q hq) hF (fun r_9 u t H locs ht hvm h hB hz1 hk1 hS => ?_)
  obtain ⟨hP, -, hD⟩ := wz_back ht hF hB
  have hP : va_P D vwCl (wM a cI cZ cJ m_thrown m_sets m_ways m_penalty m_blocks m_edges m_pairs m_lines m_isFresh m_isAnswer m_time m_touchMany m_touch m_line m_from m_to m_bound m_pairA m_pairB m_comeTo m_greatest m_least m_nowGreatest m_nowLeast m_does m_mostTime m_leastTime m_countUnit m_flagUnit m_worst m_best m_stack) H := hP
  have hD : va_D A (wM a cI cZ cJ m_thrown m_sets m_ways m_penalty m_blocks m_edges m_pairs m_lines m_isFresh m_isAnswer m_time m_touchMany m_touch m_line m_from m_to m_bound m_pairA m_pairB m_comeTo m_greatest m_least m_nowGreatest m_nowLeast m_does m_mostTime m_leastTime m_countUnit m_flagUnit m_worst m_best m_stack) := hD
  have JP22 : ∀ (t0_22 : Int64), jn_X4_workOut_22 v1 (v1 - v1 / m_blocks * m_blocks) m_blocks m_edges m_pairs m_from m_to m_bound m_pairA m_pairB m_mostTime m_leastTime m_countUnit m_flagUnit m_worst m_best t0_22 Q → ∀ (H : Heap) (locs : List Loc), va_P D vwCl (wM a cI cZ cJ m_thrown m_sets m_ways m_penalty m_blocks m_edges m_pairs m_lines m_isFresh m_isAnswer m_time m_touchMany m_touch m_line m_from m_to m_bound m_pairA m_pairB m_comeTo m_greatest m_least m_nowGreatest m_nowLeast m_does m_mostTime m_leastTime m_countUnit m_flagUnit m_worst m_best m_stack) H → va_D A (wM a cI cZ cJ m_thrown m_sets m_ways m_penalty m_blocks m_edges m_pairs m_lines m_isFresh m_isAnswer m_time m_touchMany m_touch m_line m_from m_to m_bound m_pairA m_pairB m_comeTo m_greatest m_least m_nowGreatest m_nowLeast m_does m_mostTime m_leastTime m_countUnit m_flagUnit m_worst m_best m_stack) → va_S A s.heap H locs → ∀ (ls : Array Slot), lv_has ls 9 [(0, .ref (a 0)), (1, .int v1), (2, .int (v1 - v1 / m_blocks * m_blocks))] → W p l e (headSpec wsX4_workOut rm_X4_workOut).room s m ([Value.ref (a 0), Value.int v1] : List Value).toArray below meth c H locs 0 0 Qz (F0 m 22 ls [.long t0_22]) := by
    intro t0_22 h H locs hP hD hS ls hl
    unfold jn_X4_workOut_22 at h
    refine lv_lstore_n (lv' := [(3, .long t0_22), (0, .ref (a 0)), (1, .int v1), (2, .int (v1 - v1 / m_blocks * m_blocks))]) hx hb dX4_workOut_22 rfl hl (by decide) rfl (fun ls hl => ?_)
    refine lv_aload_n hx hb dX4_workOut_23 rfl (lv_at hl 1 rfl) ?_
    refine lv_iload_n hx hb dX4_workOut_24 rfl (lv_at hl 3 rfl) ?_
    have hF := wz_free hD hS hA
    refine va_calli (va_runV (As := [.int (v1 - v1 / m_blocks * m_blocks)]) (rest := []) ⟨hx, hb, hml, hown, hts⟩ (c_X4_isEnd l D a cI cZ cJ _ m_thrown m_sets m_ways m_penalty m_blocks m_edges m_pairs m_lines m_isFresh m_isAnswer m_time m_touchMany m_touch m_line m_from m_to m_bound m_pairA m_pairB m_comeTo m_greatest m_least m_nowGreatest m_nowLeast m_does m_mostTime m_leastTime m_countUnit m_flagUnit m_worst m_best m_stack (v1 - v1 / m_blocks * m_blocks) _ h) (cwV 1 hts gX4_workOut_X4_isEnd rfl rfl rfl (by decide +kernel) ⟨Nat.le_of_ble_eq_true rfl, Nat.le_of_ble_eq_true rfl⟩) ⟨wz_blind, va_recv hK hP (ci := 4) (q0 := 0) rfl rfl, fun U hU hW => wz_at hU hW hP hK hD⟩ rfl rfl hl.1 rfl (lv_room (Nat.le_of_ble_eq_true rfl)) dX4_workOut_25 ⟨Nat.zero_le _, Nat.zero_le _⟩) hS (fun q _ hq => hF q hq) hF (fun r_25 u t H locs ht hvm h hB hz1 hk1 hS => ?_)
    obtain ⟨hP, -, hD⟩ := wz_back ht hF hB
    have hP : va_P D vwCl (wM a cI cZ cJ m_thrown m_sets m_ways m_penalty m_blocks m_edges m_pairs m_lines m_isFresh m_isAnswer m_time m_touchMany m_touch m_line m_from m_to m_bound m_pairA m_pairB m_comeTo m_greatest m_least m_nowGreatest m_nowLeast m_does m_mostTime m_leastTime m_countUnit m_flagUnit m_worst m_best m_stack) H := hP
    have hD : va_D A (wM a cI cZ cJ m_thrown m_sets m_ways m_penalty m_blocks m_edges m_pairs m_lines m_isFresh m_isAnswer m_time m_touchMany m_touch m_line m_from m_to m_bound m_pairA m_pairB m_comeTo m_greatest m_least m_nowGreatest m_nowLeast m_does m_mostTime m_leastTime m_countUnit m_flagUnit m_worst m_best m_stack) := hD
    refine lv_if_eq (tgt := 35) hx hb dX4_workOut_28 (by decide) (fun hc => ?_) (fun hc => ?_)
    · replace h := h.1 hc
      refine lv_ldc2 (v := (-1)) hx hb hown (hts (.constantLong RX4 157 ((-1))) (by decide +kernel)) dX4_workOut_35 ?_
      refine lv_lstore (lv' := [(5, .long (-1)), (3, .long t0_22), (0, .ref (a 0)), (1, .int v1), (2, .int (v1 - v1 / m_blocks * m_blocks))]) hx hb dX4_workOut_38 hl (by decide) rfl (fun ls hl => ?_)
      refine lv_iconst (v := 0) hx hb dX4_workOut_40 (by decide) ?_
      refine lv_istore (lv' := [(7, .int 0), (5, .long (-1)), (3, .long t0_22), (0, .ref (a 0)), (1, .int v1), (2, .int (v1 - v1 / m_blocks * m_blocks))]) hx hb dX4_workOut_41 hl (by decide) rfl (fun ls hl => ?_)
      have LP43 : ∀ (n43 : Nat) (v3_43 : Int64) (v5_43 : Int64) (v7_43 : Int32), lp_X4_workOut_43 v1 (v1 - v1 / m_blocks * m_blocks) m_blocks m_edges m_pairs m_from m_to m_bound m_pairA m_pairB m_mostTime m_leastTime m_countUnit m_flagUnit m_worst m_best Q n43 v3_43 v5_43 v7_43 → ∀ (H : Heap) (locs : List Loc), va_P D vwCl (wM a cI cZ cJ m_thrown m_sets m_ways m_penalty m_blocks m_edges m_pairs m_lines m_isFresh m_isAnswer m_time m_touchMany m_touch m_line m_from m_to m_bound m_pairA m_pairB m_comeTo m_greatest m_least m_nowGreatest m_nowLeast m_does m_mostTime m_leastTime m_countUnit m_flagUnit m_worst m_best m_stack) H → va_D A (wM a cI cZ cJ m_thrown m_sets m_ways m_penalty m_blocks m_edges m_pairs m_lines m_isFresh m_isAnswer m_time m_touchMany m_touch m_line m_from m_to m_bound m_pairA m_pairB m_comeTo m_greatest m_least m_nowGreatest m_nowLeast m_does m_mostTime m_leastTime m_countUnit m_flagUnit m_worst m_best m_stack) → va_S A s.heap H locs → ∀ (ls : Array Slot), lv_has ls 9 [(0, .ref (a 0)), (1, .int v1), (2, .int (v1 - v1 / m_blocks * m_blocks)), (3, .long v3_43), (5, .long v5_43), (7, .int v7_43)] → W p l e (headSpec wsX4_workOut rm_X4_workOut).room s m ([Value.ref (a 0), Value.int v1] : List Value).toArray below meth c H locs 0 0 Qz (F0 m 43 ls []) := by
        intro n43
        induction n43 with
        | zero => intro v3_43 v5_43 v7_43 h; exact h.elim
        | succ n43 ih43 =>
          intro v3_43 v5_43 v7_43 h H locs hP hD hS ls hl
          unfold lp_X4_workOut_43 at h
          refine lv_iload hx hb dX4_workOut_43 (lv_at hl 5 rfl) ?_
          refine lv_aload_n hx hb dX4_workOut_45 rfl (lv_at hl 0 rfl) ?_
          refine va_get (D := D) (ci := 4) (v := .int m_edges) (C := RX4) (T := TX4) (N := 32) hx hb hts hinX4 hown hK hP 0 rfl rfl 5 (by decide) (hts (.fieldLink RX4 119 "WorstPathsModel" "edges" "I") (by decide +kernel)) (fun _ h9 => h9) rfl dX4_workOut_46 ?_
          refine lv_icmp_ge (tgt := 149) hx hb dX4_workOut_49 (by decide) (fun hc => ?_) (fun hc => ?_)
          · replace h := h.1 hc
            refine lv_aload_n hx hb dX4_workOut_149 rfl (lv_at hl 0 rfl) ?_
            refine va_get (D := D) (ci := 4) (v := .ref (a 20)) (C := RX4) (T := TX4) (N := 32) hx hb hts hinX4 hown hK hP 0 rfl rfl 29 (by decide) (hts (.fieldLink RX4 70 "WorstPathsModel" "worst" "[J") (by decide +kernel)) (fun _ h9 => h9) rfl dX4_workOut_150 ?_
            refine lv_iload_n hx hb dX4_workOut_153 rfl (lv_at hl 1 rfl) ?_
            refine lv_lload_n hx hb dX4_workOut_154 rfl (lv_at hl 3 rfl) ?_
            refine lv_lconst (v := 0) hx hb dX4_workOut_155 (by decide) ?_
            refine W.lcmp hx hb dX4_workOut_156 ?_
            have JP174 : ∀ (t0_174 : Int64), jn_X4_workOut_174 v1 (v1 - v1 / m_blocks * m_blocks) v5_43 m_blocks m_edges m_pairs m_from m_to m_bound m_pairA m_pairB m_mostTime m_leastTime m_countUnit m_flagUnit m_worst m_best t0_174 v1 Q → ∀ (H : Heap) (locs : List Loc), va_P D vwCl (wM a cI cZ cJ m_thrown m_sets m_ways m_penalty m_blocks m_edges m_pairs m_lines m_isFresh m_isAnswer m_time m_touchMany m_touch m_line m_from m_to m_bound m_pairA m_pairB m_comeTo m_greatest m_least m_nowGreatest m_nowLeast m_does m_mostTime m_leastTime m_countUnit m_flagUnit m_worst m_best m_stack) H → va_D A (wM a cI cZ cJ m_thrown m_sets m_ways m_penalty m_blocks m_edges m_pairs m_lines m_isFresh m_isAnswer m_time m_touchMany m_touch m_line m_from m_to m_bound m_pairA m_pairB m_comeTo m_greatest m_least m_nowGreatest m_nowLeast m_does m_mostTime m_leastTime m_countUnit m_flagUnit m_worst m_best m_stack) → va_S A s.heap H locs → ∀ (ls : Array Slot), lv_has ls 9 [(0, .ref (a 0)), (1, .int v1), (2, .int (v1 - v1 / m_blocks * m_blocks)), (5, .long v5_43)] → W p l e (headSpec wsX4_workOut rm_X4_workOut).room s m ([Value.ref (a 0), Value.int v1] : List Value).toArray below meth c H locs 0 0 Qz (F0 m 174 ls [.long t0_174, .int v1, .ref (a 20)]) := by
              intro t0_174 h H locs hP hD hS ls hl
              unfold jn_X4_workOut_174 at h
              obtain ⟨hq, h⟩ := h
              refine va_last (D := D) hx hb hK hP hD hS 20 2 rfl rfl hq dX4_workOut_174 (fun H locs hP hD hS => ?_)
              have hP : va_P D vwCl (wM a cI cZ cJ m_thrown m_sets m_ways m_penalty m_blocks m_edges m_pairs m_lines m_isFresh m_isAnswer m_time m_touchMany m_touch m_line m_from m_to m_bound m_pairA m_pairB m_comeTo m_greatest m_least m_nowGreatest m_nowLeast m_does m_mostTime m_leastTime m_countUnit m_flagUnit (vp_updL m_worst (Int32.toNatClampNeg v1) t0_174) m_best m_stack) H := hP
              have hD : va_D A (wM a cI cZ cJ m_thrown m_sets m_ways m_penalty m_blocks m_edges m_pairs m_lines m_isFresh m_isAnswer m_time m_touchMany m_touch m_line m_from m_to m_bound m_pairA m_pairB m_comeTo m_greatest m_least m_nowGreatest m_nowLeast m_does m_mostTime m_leastTime m_countUnit m_flagUnit (vp_updL m_worst (Int32.toNatClampNeg v1) t0_174) m_best m_stack) := hD
              refine lv_aload_n hx hb dX4_workOut_175 rfl (lv_at hl 0 rfl) ?_
              refine va_get (D := D) (ci := 4) (v := .ref (a 21)) (C := RX4) (T := TX4) (N := 32) hx hb hts hinX4 hown hK hP 0 rfl rfl 30 (by decide) (hts (.fieldLink RX4 73 "WorstPathsModel" "best" "[J") (by decide +kernel)) (fun _ h9 => h9) rfl dX4_workOut_176 ?_
              refine lv_iload_n hx hb dX4_workOut_179 rfl (lv_at hl 1 rfl) ?_
              refine lv_lload hx hb dX4_workOut_180 (lv_at hl 3 rfl) ?_
              refine lv_lconst (v := 0) hx hb dX4_workOut_182 (by decide) ?_
              refine W.lcmp hx hb dX4_workOut_183 ?_
              refine lv_if_ge (tgt := 193) hx hb dX4_workOut_184 (by decide) (fun hc => ?_) (fun hc => ?_)
              · replace h := h.1 hc
                refine lv_lload hx hb dX4_workOut_193 (lv_at hl 3 rfl) ?_
                refine lv_aload_n hx hb dX4_workOut_195 rfl (lv_at hl 0 rfl) ?_
                refine va_get (D := D) (ci := 4) (v := .ref (a 17)) (C := RX4) (T := TX4) (N := 32) hx hb hts hinX4 hown hK hP 0 rfl rfl 25 (by decide) (hts (.fieldLink RX4 60 "WorstPathsModel" "leastTime" "[J") (by decide +kernel)) (fun _ h9 => h9) rfl dX4_workOut_196 ?_
                refine lv_iload_n hx hb dX4_workOut_199 rfl (lv_at hl 2 rfl) ?_
                obtain ⟨hq, h⟩ := h
                refine va_lald (D := D) hx hb hK hP 17 2 rfl rfl hq dX4_workOut_200 ?_
                refine lv_ladd hx hb dX4_workOut_201 ?_
                obtain ⟨hq, h⟩ := h
                refine va_last (D := D) hx hb hK hP hD hS 21 2 rfl rfl hq dX4_workOut_202 (fun H locs hP hD hS => ?_)
                have hP : va_P D vwCl (wM a cI cZ cJ m_thrown m_sets m_ways m_penalty m_blocks m_edges m_pairs m_lines m_isFresh m_isAnswer m_time m_touchMany m_touch m_line m_from m_to m_bound m_pairA m_pairB m_comeTo m_greatest m_least m_nowGreatest m_nowLeast m_does m_mostTime m_leastTime m_countUnit m_flagUnit (vp_updL m_worst (Int32.toNatClampNeg v1) t0_174) (vp_updL m_best (Int32.toNatClampNeg v1) (v5_43 + (m_leastTime (Int32.toNatClampNeg (v1 - v1 / m_blocks * m_blocks))))) m_stack) H := hP
                have hD : va_D A (wM a cI cZ cJ m_thrown m_sets m_ways m_penalty m_blocks m_edges m_pairs m_lines m_isFresh m_isAnswer m_time m_touchMany m_touch m_line m_from m_to m_bound m_pairA m_pairB m_comeTo m_greatest m_least m_nowGreatest m_nowLeast m_does m_mostTime m_leastTime m_countUnit m_flagUnit (vp_updL m_worst (Int32.toNatClampNeg v1) t0_174) (vp_updL m_best (Int32.toNatClampNeg v1) (v5_43 + (m_leastTime (Int32.toNatClampNeg (v1 - v1 / m_blocks * m_blocks))))) m_stack) := hD
                refine wz_mono hQz ?_
                exact W.vret hx hb hr (fun t ht hW => ⟨⟨((vp_updL m_worst (Int32.toNatClampNeg v1) t0_174), (vp_updL m_best (Int32.toNatClampNeg v1) (v5_43 + (m_leastTime (Int32.toNatClampNeg (v1 - v1 / m_blocks * m_blocks)))))), rfl, h, by rw [ht]; exact hP, va_K.moved hW.alike hK, hD⟩, hS.F ht⟩) hS.2.2 dX4_workOut_203
              · replace h := h.2 hc
                refine lv_ldc2 (v := (-1)) hx hb hown (hts (.constantLong RX4 157 ((-1))) (by decide +kernel)) dX4_workOut_187 ?_
                refine lv_goto (tgt := 202) hx hb dX4_workOut_190 (by decide) ?_
                obtain ⟨hq, h⟩ := h
                refine va_last (D := D) hx hb hK hP hD hS 21 2 rfl rfl hq dX4_workOut_202 (fun H locs hP hD hS => ?_)
                have hP : va_P D vwCl (wM a cI cZ cJ m_thrown m_sets m_ways m_penalty m_blocks m_edges m_pairs m_lines m_isFresh m_isAnswer m_time m_touchMany m_touch m_line m_from m_to m_bound m_pairA m_pairB m_comeTo m_greatest m_least m_nowGreatest m_nowLeast m_does m_mostTime m_leastTime m_countUnit m_flagUnit (vp_updL m_worst (Int32.toNatClampNeg v1) t0_174) (vp_updL m_best (Int32.toNatClampNeg v1) (-1)) m_stack) H := hP
                have hD : va_D A (wM a cI cZ cJ m_thrown m_sets m_ways m_penalty m_blocks m_edges m_pairs m_lines m_isFresh m_isAnswer m_time m_touchMany m_touch m_line m_from m_to m_bound m_pairA m_pairB m_comeTo m_greatest m_least m_nowGreatest m_nowLeast m_does m_mostTime m_leastTime m_countUnit m_flagUnit (vp_updL m_worst (Int32.toNatClampNeg v1) t0_174) (vp_updL m_best (Int32.toNatClampNeg v1) (-1)) m_stack) := hD
                refine wz_mono hQz ?_
                exact W.vret hx hb hr (fun t ht hW => ⟨⟨((vp_updL m_worst (Int32.toNatClampNeg v1) t0_174), (vp_updL m_best (Int32.toNatClampNeg v1) (-1))), rfl, h, by rw [ht]; exact hP, va_K.moved hW.alike hK, hD⟩, hS.F ht⟩) hS.2.2 dX4_workOut_203
            refine lv_if_ge (tgt := 166) hx hb dX4_workOut_157 (by decide) (fun hc => ?_) (fun hc => ?_)
            · replace h := h.1 hc
              refine lv_lload_n hx hb dX4_workOut_166 rfl (lv_at hl 3 rfl) ?_
              refine lv_aload_n hx hb dX4_workOut_167 rfl (lv_at hl 0 rfl) ?_
              refine va_get (D := D) (ci := 4) (v := .ref (a 16)) (C := RX4) (T := TX4) (N := 32) hx hb hts hinX4 hown hK hP 0 rfl rfl 24 (by decide) (hts (.fieldLink RX4 56 "WorstPathsModel" "mostTime" "[J") (by decide +kernel)) (fun _ h9 => h9) rfl dX4_workOut_168 ?_
              refine lv_iload_n hx hb dX4_workOut_171 rfl (lv_at hl 2 rfl) ?_
              obtain ⟨hq, h⟩ := h
              refine va_lald (D := D) hx hb hK hP 16 2 rfl rfl hq dX4_workOut_172 ?_
              refine lv_ladd hx hb dX4_workOut_173 ?_
              exact JP174 (v3_43 + (m_mostTime (Int32.toNatClampNeg (v1 - v1 / m_blocks * m_blocks)))) h _ _ hP hD hS _ (lv_sub hl [0, 1, 2, 4] rfl)
            · replace h := h.2 hc
              refine lv_ldc2 (v := (-1)) hx hb hown (hts (.constantLong RX4 157 ((-1))) (by decide +kernel)) dX4_workOut_160 ?_
              refine lv_goto (tgt := 174) hx hb dX4_workOut_163 (by decide) ?_
              exact JP174 (-1) h _ _ hP hD hS _ (lv_sub hl [0, 1, 2, 4] rfl)
          · replace h := h.2 hc
            refine lv_aload_n hx hb dX4_workOut_52 rfl (lv_at hl 0 rfl) ?_
            refine va_get (D := D) (ci := 4) (v := .ref (a 5)) (C := RX4) (T := TX4) (N := 32) hx hb hts hinX4 hown hK hP 0 rfl rfl 12 (by decide) (hts (.fieldLink RX4 22 "WorstPathsModel" "from" "[I") (by decide +kernel)) (fun _ h9 => h9) rfl dX4_workOut_53 ?_
            refine lv_iload hx hb dX4_workOut_56 (lv_at hl 5 rfl) ?_
            obtain ⟨hq, h⟩ := h
            refine va_iald (D := D) hx hb hK hP 5 0 rfl rfl hq dX4_workOut_58 ?_
            refine lv_iload_n hx hb dX4_workOut_59 rfl (lv_at hl 2 rfl) ?_
            refine lv_icmp_ne (tgt := 143) hx hb dX4_workOut_60 (by decide) (fun hc => ?_) (fun hc => ?_)
            · replace h := h.1 hc
              refine lv_iinc (v := (v7_43 + 1)) (lv' := [(7, .int (v7_43 + 1)), (0, .ref (a 0)), (1, .int v1), (2, .int (v1 - v1 / m_blocks * m_blocks)), (3, .long v3_43), (5, .long v5_43)]) hx hb dX4_workOut_143 hl (k := 5) rfl rfl (by decide) rfl (fun ls hl => ?_)
              refine lv_goto (tgt := 43) hx hb dX4_workOut_146 (by decide) ?_
              exact ih43 v3_43 v5_43 (v7_43 + 1) h _ _ hP hD hS _ (lv_sub hl [1, 2, 3, 4, 5, 0] rfl)
            · replace h := h.2 hc
              refine lv_aload_n hx hb dX4_workOut_63 rfl (lv_at hl 0 rfl) ?_
              refine lv_iload_n hx hb dX4_workOut_64 rfl (lv_at hl 1 rfl) ?_
              refine lv_iload hx hb dX4_workOut_65 (lv_at hl 5 rfl) ?_
              have hF := wz_free hD hS hA
              refine va_calli (va_runV (As := [.int v1, .int v7_43]) (rest := []) ⟨hx, hb, hml, hown, hts⟩ (c_X4_allows l D a cI cZ cJ _ m_thrown m_sets m_ways m_penalty m_blocks m_edges m_pairs m_lines m_isFresh m_isAnswer m_time m_touchMany m_touch m_line m_from m_to m_bound m_pairA m_pairB m_comeTo m_greatest m_least m_nowGreatest m_nowLeast m_does m_mostTime m_leastTime m_countUnit m_flagUnit m_worst m_best m_stack v1 v7_43 _ h) (cwV 2 hts gX4_workOut_X4_allows rfl rfl rfl (by decide +kernel) ⟨Nat.le_of_ble_eq_true rfl, Nat.le_of_ble_eq_true rfl⟩) ⟨wz_blind, va_recv hK hP (ci := 4) (q0 := 0) rfl rfl, fun U hU hW => wz_at hU hW hP hK hD⟩ rfl rfl hl.1 rfl (lv_room (Nat.le_of_ble_eq_true rfl)) dX4_workOut_67 ⟨Nat.zero_le _, Nat.zero_le _⟩) hS (fun q _ hq => hF q hq) hF (fun r_67 u t H locs ht hvm h hB hz1 hk1 hS => ?_)
              obtain ⟨hP, -, hD⟩ := wz_back ht hF hB
              have hP : va_P D vwCl (wM a cI cZ cJ m_thrown m_sets m_ways m_penalty m_blocks m_edges m_pairs m_lines m_isFresh m_isAnswer m_time m_touchMany m_touch m_line m_from m_to m_bound m_pairA m_pairB m_comeTo m_greatest m_least m_nowGreatest m_nowLeast m_does m_mostTime m_leastTime m_countUnit m_flagUnit m_worst m_best m_stack) H := hP
              have hD : va_D A (wM a cI cZ cJ m_thrown m_sets m_ways m_penalty m_blocks m_edges m_pairs m_lines m_isFresh m_isAnswer m_time m_touchMany m_touch m_line m_from m_to m_bound m_pairA m_pairB m_comeTo m_greatest m_least m_nowGreatest m_nowLeast m_does m_mostTime m_leastTime m_countUnit m_flagUnit m_worst m_best m_stack) := hD
              refine lv_if_eq (tgt := 143) hx hb dX4_workOut_70 (by decide) (fun hc => ?_) (fun hc => ?_)
              · replace h := h.1 hc
                refine lv_iinc (v := (v7_43 + 1)) (lv' := [(7, .int (v7_43 + 1)), (0, .ref (a 0)), (1, .int v1), (2, .int (v1 - v1 / m_blocks * m_blocks)), (3, .long v3_43), (5, .long v5_43)]) hx hb dX4_workOut_143 hl (k := 5) rfl rfl (by decide) rfl (fun ls hl => ?_)
                refine lv_goto (tgt := 43) hx hb dX4_workOut_146 (by decide) ?_
                exact ih43 v3_43 v5_43 (v7_43 + 1) h _ _ hP hD hS _ (lv_sub hl [1, 2, 3, 4, 5, 0] rfl)
              · replace h := h.2 hc
                refine lv_aload_n hx hb dX4_workOut_73 rfl (lv_at hl 0 rfl) ?_
                refine lv_iload_n hx hb dX4_workOut_74 rfl (lv_at hl 1 rfl) ?_
                refine lv_iload hx hb dX4_workOut_75 (lv_at hl 5 rfl) ?_
                have hF := wz_free hD hS hA
                refine va_calli (va_runV (As := [.int v1, .int v7_43]) (rest := []) ⟨hx, hb, hml, hown, hts⟩ (c_X4_behind l D a cI cZ cJ _ m_thrown m_sets m_ways m_penalty m_blocks m_edges m_pairs m_lines m_isFresh m_isAnswer m_time m_touchMany m_touch m_line m_from m_to m_bound m_pairA m_pairB m_comeTo m_greatest m_least m_nowGreatest m_nowLeast m_does m_mostTime m_leastTime m_countUnit m_flagUnit m_worst m_best m_stack v1 v7_43 _ h) (cwV 2 hts gX4_workOut_X4_behind rfl rfl rfl (by decide +kernel) ⟨Nat.le_of_ble_eq_true rfl, Nat.le_of_ble_eq_true rfl⟩) ⟨wz_blind, va_recv hK hP (ci := 4) (q0 := 0) rfl rfl, fun U hU hW => wz_at hU hW hP hK hD⟩ rfl rfl hl.1 rfl (lv_room (Nat.le_of_ble_eq_true rfl)) dX4_workOut_77 ⟨Nat.zero_le _, Nat.zero_le _⟩) hS (fun q _ hq => hF q hq) hF (fun r_77 u t H locs ht hvm h hB hz1 hk1 hS => ?_)
                obtain ⟨hP, -, hD⟩ := wz_back ht hF hB
                have hP : va_P D vwCl (wM a cI cZ cJ m_thrown m_sets m_ways m_penalty m_blocks m_edges m_pairs m_lines m_isFresh m_isAnswer m_time m_touchMany m_touch m_line m_from m_to m_bound m_pairA m_pairB m_comeTo m_greatest m_least m_nowGreatest m_nowLeast m_does m_mostTime m_leastTime m_countUnit m_flagUnit m_worst m_best m_stack) H := hP
                have hD : va_D A (wM a cI cZ cJ m_thrown m_sets m_ways m_penalty m_blocks m_edges m_pairs m_lines m_isFresh m_isAnswer m_time m_touchMany m_touch m_line m_from m_to m_bound m_pairA m_pairB m_comeTo m_greatest m_least m_nowGreatest m_nowLeast m_does m_mostTime m_leastTime m_countUnit m_flagUnit m_worst m_best m_stack) := hD
                refine lv_istore (lv' := [(8, .int r_77), (0, .ref (a 0)), (1, .int v1), (2, .int (v1 - v1 / m_blocks * m_blocks)), (3, .long v3_43), (5, .long v5_43), (7, .int v7_43)]) hx hb dX4_workOut_80 hl (by decide) rfl (fun ls hl => ?_)
                refine lv_aload_n hx hb dX4_workOut_82 rfl (lv_at hl 1 rfl) ?_
                refine va_get (D := D) (ci := 4) (v := .ref (a 20)) (C := RX4) (T := TX4) (N := 32) hx hb hts hinX4 hown hK hP 0 rfl rfl 29 (by decide) (hts (.fieldLink RX4 70 "WorstPathsModel" "worst" "[J") (by decide +kernel)) (fun _ h9 => h9) rfl dX4_workOut_83 ?_
                refine lv_iload hx hb dX4_workOut_86 (lv_at hl 0 rfl) ?_
                obtain ⟨hq, h⟩ := h
                refine va_lald (D := D) hx hb hK hP 20 2 rfl rfl hq dX4_workOut_88 ?_
                refine lv_lload_n hx hb dX4_workOut_89 rfl (lv_at hl 4 rfl) ?_
                refine W.lcmp hx hb dX4_workOut_90 ?_
                have JP102 : ∀ (v3_102 : Int64), jn_X4_workOut_102 v1 (v1 - v1 / m_blocks * m_blocks) v3_102 v5_43 v7_43 r_77 m_blocks m_edges m_pairs m_from m_to m_bound m_pairA m_pairB m_mostTime m_leastTime m_countUnit m_flagUnit m_worst m_best (lp_X4_workOut_43 v1 (v1 - v1 / m_blocks * m_blocks) m_blocks m_edges m_pairs m_from m_to m_bound m_pairA m_pairB m_mostTime m_leastTime m_countUnit m_flagUnit m_worst m_best Q n43) Q → ∀ (H : Heap) (locs : List Loc), va_P D vwCl (wM a cI cZ cJ m_thrown m_sets m_ways m_penalty m_blocks m_edges m_pairs m_lines m_isFresh m_isAnswer m_time m_touchMany m_touch m_line m_from m_to m_bound m_pairA m_pairB m_comeTo m_greatest m_least m_nowGreatest m_nowLeast m_does m_mostTime m_leastTime m_countUnit m_flagUnit m_worst m_best m_stack) H → va_D A (wM a cI cZ cJ m_thrown m_sets m_ways m_penalty m_blocks m_edges m_pairs m_lines m_isFresh m_isAnswer m_time m_touchMany m_touch m_line m_from m_to m_bound m_pairA m_pairB m_comeTo m_greatest m_least m_nowGreatest m_nowLeast m_does m_mostTime m_leastTime m_countUnit m_flagUnit m_worst m_best m_stack) → va_S A s.heap H locs → ∀ (ls : Array Slot), lv_has ls 9 [(0, .ref (a 0)), (1, .int v1), (2, .int (v1 - v1 / m_blocks * m_blocks)), (3, .long v3_102), (5, .long v5_43), (7, .int v7_43), (8, .int r_77)] → W p l e (headSpec wsX4_workOut rm_X4_workOut).room s m ([Value.ref (a 0), Value.int v1] : List Value).toArray below meth c H locs 0 0 Qz (F0 m 102 ls []) := by
                  intro v3_102 h H locs hP hD hS ls hl
                  unfold jn_X4_workOut_102 at h
                  refine lv_aload_n hx hb dX4_workOut_102 rfl (lv_at hl 0 rfl) ?_
                  refine va_get (D := D) (ci := 4) (v := .ref (a 21)) (C := RX4) (T := TX4) (N := 32) hx hb hts hinX4 hown hK hP 0 rfl rfl 30 (by decide) (hts (.fieldLink RX4 73 "WorstPathsModel" "best" "[J") (by decide +kernel)) (fun _ h9 => h9) rfl dX4_workOut_103 ?_
                  refine lv_iload hx hb dX4_workOut_106 (lv_at hl 6 rfl) ?_
                  obtain ⟨hq, h⟩ := h
                  refine va_lald (D := D) hx hb hK hP 21 2 rfl rfl hq dX4_workOut_108 ?_
                  refine lv_lconst (v := 0) hx hb dX4_workOut_109 (by decide) ?_
                  refine W.lcmp hx hb dX4_workOut_110 ?_
                  refine lv_if_lt (tgt := 143) hx hb dX4_workOut_111 (by decide) (fun hc => ?_) (fun hc => ?_)
                  · replace h := h.1 hc
                    refine lv_iinc (v := (v7_43 + 1)) (lv' := [(7, .int (v7_43 + 1)), (0, .ref (a 0)), (1, .int v1), (2, .int (v1 - v1 / m_blocks * m_blocks)), (3, .long v3_102), (5, .long v5_43), (8, .int r_77)]) hx hb dX4_workOut_143 hl (k := 5) rfl rfl (by decide) rfl (fun ls hl => ?_)
                    refine lv_goto (tgt := 43) hx hb dX4_workOut_146 (by decide) ?_
                    exact ih43 v3_102 v5_43 (v7_43 + 1) h _ _ hP hD hS _ (lv_sub hl [1, 2, 3, 4, 5, 0] rfl)
                  · replace h := h.2 hc
                    refine lv_lload hx hb dX4_workOut_114 (lv_at hl 4 rfl) ?_
                    refine lv_lconst (v := 0) hx hb dX4_workOut_116 (by decide) ?_
                    refine W.lcmp hx hb dX4_workOut_117 ?_
                    refine lv_if_lt (tgt := 134) hx hb dX4_workOut_118 (by decide) (fun hc => ?_) (fun hc => ?_)
                    · replace h := h.1 hc
                      refine lv_aload_n hx hb dX4_workOut_134 rfl (lv_at hl 0 rfl) ?_
                      refine va_get (D := D) (ci := 4) (v := .ref (a 21)) (C := RX4) (T := TX4) (N := 32) hx hb hts hinX4 hown hK hP 0 rfl rfl 30 (by decide) (hts (.fieldLink RX4 73 "WorstPathsModel" "best" "[J") (by decide +kernel)) (fun _ h9 => h9) rfl dX4_workOut_135 ?_
                      refine lv_iload hx hb dX4_workOut_138 (lv_at hl 6 rfl) ?_
                      obtain ⟨hq, h⟩ := h
                      refine va_lald (D := D) hx hb hK hP 21 2 rfl rfl hq dX4_workOut_140 ?_
                      refine lv_lstore (lv' := [(5, .long (m_best (Int32.toNatClampNeg r_77))), (0, .ref (a 0)), (1, .int v1), (2, .int (v1 - v1 / m_blocks * m_blocks)), (3, .long v3_102), (7, .int v7_43), (8, .int r_77)]) hx hb dX4_workOut_141 hl (by decide) rfl (fun ls hl => ?_)
                      refine lv_iinc (v := (v7_43 + 1)) (lv' := [(7, .int (v7_43 + 1)), (5, .long (m_best (Int32.toNatClampNeg r_77))), (0, .ref (a 0)), (1, .int v1), (2, .int (v1 - v1 / m_blocks * m_blocks)), (3, .long v3_102), (8, .int r_77)]) hx hb dX4_workOut_143 hl (k := 5) rfl rfl (by decide) rfl (fun ls hl => ?_)
                      refine lv_goto (tgt := 43) hx hb dX4_workOut_146 (by decide) ?_
                      exact ih43 v3_102 (m_best (Int32.toNatClampNeg r_77)) (v7_43 + 1) h _ _ hP hD hS _ (lv_sub hl [2, 3, 4, 5, 1, 0] rfl)
                    · replace h := h.2 hc
                      refine lv_aload_n hx hb dX4_workOut_121 rfl (lv_at hl 0 rfl) ?_
                      refine va_get (D := D) (ci := 4) (v := .ref (a 21)) (C := RX4) (T := TX4) (N := 32) hx hb hts hinX4 hown hK hP 0 rfl rfl 30 (by decide) (hts (.fieldLink RX4 73 "WorstPathsModel" "best" "[J") (by decide +kernel)) (fun _ h9 => h9) rfl dX4_workOut_122 ?_
                      refine lv_iload hx hb dX4_workOut_125 (lv_at hl 6 rfl) ?_
                      obtain ⟨hq, h⟩ := h
                      refine va_lald (D := D) hx hb hK hP 21 2 rfl rfl hq dX4_workOut_127 ?_
                      refine lv_lload hx hb dX4_workOut_128 (lv_at hl 4 rfl) ?_
                      refine W.lcmp hx hb dX4_workOut_130 ?_
                      refine lv_if_ge (tgt := 143) hx hb dX4_workOut_131 (by decide) (fun hc => ?_) (fun hc => ?_)
                      · replace h := h.1 hc
                        refine lv_iinc (v := (v7_43 + 1)) (lv' := [(7, .int (v7_43 + 1)), (0, .ref (a 0)), (1, .int v1), (2, .int (v1 - v1 / m_blocks * m_blocks)), (3, .long v3_102), (5, .long v5_43), (8, .int r_77)]) hx hb dX4_workOut_143 hl (k := 5) rfl rfl (by decide) rfl (fun ls hl => ?_)
                        refine lv_goto (tgt := 43) hx hb dX4_workOut_146 (by decide) ?_
                        exact ih43 v3_102 v5_43 (v7_43 + 1) h _ _ hP hD hS _ (lv_sub hl [1, 2, 3, 4, 5, 0] rfl)
                      · replace h := h.2 hc
                        refine lv_aload_n hx hb dX4_workOut_134 rfl (lv_at hl 0 rfl) ?_
                        refine va_get (D := D) (ci := 4) (v := .ref (a 21)) (C := RX4) (T := TX4) (N := 32) hx hb hts hinX4 hown hK hP 0 rfl rfl 30 (by decide) (hts (.fieldLink RX4 73 "WorstPathsModel" "best" "[J") (by decide +kernel)) (fun _ h9 => h9) rfl dX4_workOut_135 ?_
                        refine lv_iload hx hb dX4_workOut_138 (lv_at hl 6 rfl) ?_
                        obtain ⟨hq, h⟩ := h
                        refine va_lald (D := D) hx hb hK hP 21 2 rfl rfl hq dX4_workOut_140 ?_
                        refine lv_lstore (lv' := [(5, .long (m_best (Int32.toNatClampNeg r_77))), (0, .ref (a 0)), (1, .int v1), (2, .int (v1 - v1 / m_blocks * m_blocks)), (3, .long v3_102), (7, .int v7_43), (8, .int r_77)]) hx hb dX4_workOut_141 hl (by decide) rfl (fun ls hl => ?_)
                        refine lv_iinc (v := (v7_43 + 1)) (lv' := [(7, .int (v7_43 + 1)), (5, .long (m_best (Int32.toNatClampNeg r_77))), (0, .ref (a 0)), (1, .int v1), (2, .int (v1 - v1 / m_blocks * m_blocks)), (3, .long v3_102), (8, .int r_77)]) hx hb dX4_workOut_143 hl (k := 5) rfl rfl (by decide) rfl (fun ls hl => ?_)
                        refine lv_goto (tgt := 43) hx hb dX4_workOut_146 (by decide) ?_
                        exact ih43 v3_102 (m_best (Int32.toNatClampNeg r_77)) (v7_43 + 1) h _ _ hP hD hS _ (lv_sub hl [2, 3, 4, 5, 1, 0] rfl)
                refine lv_if_le (tgt := 102) hx hb dX4_workOut_91 (by decide) (fun hc => ?_) (fun hc => ?_)
                · replace h := h.1 hc
                  exact JP102 v3_43 h _ _ hP hD hS _ (lv_sub hl [1, 2, 3, 4, 5, 6, 0] rfl)
                · replace h := h.2 hc
                  refine lv_aload_n hx hb dX4_workOut_94 rfl (lv_at hl 1 rfl) ?_
                  refine va_get (D := D) (ci := 4) (v := .ref (a 20)) (C := RX4) (T := TX4) (N := 32) hx hb hts hinX4 hown hK hP 0 rfl rfl 29 (by decide) (hts (.fieldLink RX4 70 "WorstPathsModel" "worst" "[J") (by decide +kernel)) (fun _ h9 => h9) rfl dX4_workOut_95 ?_
                  refine lv_iload hx hb dX4_workOut_98 (lv_at hl 0 rfl) ?_
                  obtain ⟨hq, h⟩ := h
                  refine va_lald (D := D) hx hb hK hP 20 2 rfl rfl hq dX4_workOut_100 ?_
                  refine lv_lstore_n (lv' := [(3, .long (m_worst (Int32.toNatClampNeg r_77))), (8, .int r_77), (0, .ref (a 0)), (1, .int v1), (2, .int (v1 - v1 / m_blocks * m_blocks)), (5, .long v5_43), (7, .int v7_43)]) hx hb dX4_workOut_101 rfl hl (by decide) rfl (fun ls hl => ?_)
                  exact JP102 (m_worst (Int32.toNatClampNeg r_77)) h _ _ hP hD hS _ (lv_sub hl [2, 3, 4, 0, 5, 6, 1] rfl)
      obtain ⟨k9, h⟩ := h
      exact LP43 k9 t0_22 (-1) 0 h _ _ hP hD hS _ (lv_sub hl [3, 4, 5, 2, 1, 0] rfl)
    · replace h := h.2 hc
      refine lv_lconst (v := 0) hx hb dX4_workOut_31 (by decide) ?_
      refine lv_goto (tgt := 38) hx hb dX4_workOut_32 (by decide) ?_
      refine lv_lstore (lv' := [(5, .long 0), (3, .long t0_22), (0, .ref (a 0)), (1, .int v1), (2, .int (v1 - v1 / m_blocks * m_blocks))]) hx hb dX4_workOut_38 hl (by decide) rfl (fun ls hl => ?_)
      refine lv_iconst (v := 0) hx hb dX4_workOut_40 (by decide) ?_
      refine lv_istore (lv' := [(7, .int 0), (5, .long 0), (3, .long t0_22), (0, .ref (a 0)), (1, .int v1), (2, .int (v1 - v1 / m_blocks * m_blocks))]) hx hb dX4_workOut_41 hl (by decide) rfl (fun ls hl => ?_)
      have LP43 : ∀ (n43 : Nat) (v3_43 : Int64) (v5_43 : Int64) (v7_43 : Int32), lp_X4_workOut_43 v1 (v1 - v1 / m_blocks * m_blocks) m_blocks m_edges m_pairs m_from m_to m_bound m_pairA m_pairB m_mostTime m_leastTime m_countUnit m_flagUnit m_worst m_best Q n43 v3_43 v5_43 v7_43 → ∀ (H : Heap) (locs : List Loc), va_P D vwCl (wM a cI cZ cJ m_thrown m_sets m_ways m_penalty m_blocks m_edges m_pairs m_lines m_isFresh m_isAnswer m_time m_touchMany m_touch m_line m_from m_to m_bound m_pairA m_pairB m_comeTo m_greatest m_least m_nowGreatest m_nowLeast m_does m_mostTime m_leastTime m_countUnit m_flagUnit m_worst m_best m_stack) H → va_D A (wM a cI cZ cJ m_thrown m_sets m_ways m_penalty m_blocks m_edges m_pairs m_lines m_isFresh m_isAnswer m_time m_touchMany m_touch m_line m_from m_to m_bound m_pairA m_pairB m_comeTo m_greatest m_least m_nowGreatest m_nowLeast m_does m_mostTime m_leastTime m_countUnit m_flagUnit m_worst m_best m_stack) → va_S A s.heap H locs → ∀ (ls : Array Slot), lv_has ls 9 [(0, .ref (a 0)), (1, .int v1), (2, .int (v1 - v1 / m_blocks * m_blocks)), (3, .long v3_43), (5, .long v5_43), (7, .int v7_43)] → W p l e (headSpec wsX4_workOut rm_X4_workOut).room s m ([Value.ref (a 0), Value.int v1] : List Value).toArray below meth c H locs 0 0 Qz (F0 m 43 ls []) := by
        intro n43
        induction n43 with
        | zero => intro v3_43 v5_43 v7_43 h; exact h.elim
        | succ n43 ih43 =>
          intro v3_43 v5_43 v7_43 h H locs hP hD hS ls hl
          unfold lp_X4_workOut_43 at h
          refine lv_iload hx hb dX4_workOut_43 (lv_at hl 5 rfl) ?_
          refine lv_aload_n hx hb dX4_workOut_45 rfl (lv_at hl 0 rfl) ?_
          refine va_get (D := D) (ci := 4) (v := .int m_edges) (C := RX4) (T := TX4) (N := 32) hx hb hts hinX4 hown hK hP 0 rfl rfl 5 (by decide) (hts (.fieldLink RX4 119 "WorstPathsModel" "edges" "I") (by decide +kernel)) (fun _ h9 => h9) rfl dX4_workOut_46 ?_
          refine lv_icmp_ge (tgt := 149) hx hb dX4_workOut_49 (by decide) (fun hc => ?_) (fun hc => ?_)
          · replace h := h.1 hc
            refine lv_aload_n hx hb dX4_workOut_149 rfl (lv_at hl 0 rfl) ?_
            refine va_get (D := D) (ci := 4) (v := .ref (a 20)) (C := RX4) (T := TX4) (N := 32) hx hb hts hinX4 hown hK hP 0 rfl rfl 29 (by decide) (hts (.fieldLink RX4 70 "WorstPathsModel" "worst" "[J") (by decide +kernel)) (fun _ h9 => h9) rfl dX4_workOut_150 ?_
            refine lv_iload_n hx hb dX4_workOut_153 rfl (lv_at hl 1 rfl) ?_
            refine lv_lload_n hx hb dX4_workOut_154 rfl (lv_at hl 3 rfl) ?_
            refine lv_lconst (v := 0) hx hb dX4_workOut_155 (by decide) ?_
            refine W.lcmp hx hb dX4_workOut_156 ?_
            have JP174 : ∀ (t0_174 : Int64), jn_X4_workOut_174 v1 (v1 - v1 / m_blocks * m_blocks) v5_43 m_blocks m_edges m_pairs m_from m_to m_bound m_pairA m_pairB m_mostTime m_leastTime m_countUnit m_flagUnit m_worst m_best t0_174 v1 Q → ∀ (H : Heap) (locs : List Loc), va_P D vwCl (wM a cI cZ cJ m_thrown m_sets m_ways m_penalty m_blocks m_edges m_pairs m_lines m_isFresh m_isAnswer m_time m_touchMany m_touch m_line m_from m_to m_bound m_pairA m_pairB m_comeTo m_greatest m_least m_nowGreatest m_nowLeast m_does m_mostTime m_leastTime m_countUnit m_flagUnit m_worst m_best m_stack) H → va_D A (wM a cI cZ cJ m_thrown m_sets m_ways m_penalty m_blocks m_edges m_pairs m_lines m_isFresh m_isAnswer m_time m_touchMany m_touch m_line m_from m_to m_bound m_pairA m_pairB m_comeTo m_greatest m_least m_nowGreatest m_nowLeast m_does m_mostTime m_leastTime m_countUnit m_flagUnit m_worst m_best m_stack) → va_S A s.heap H locs → ∀ (ls : Array Slot), lv_has ls 9 [(0, .ref (a 0)), (1, .int v1), (2, .int (v1 - v1 / m_blocks * m_blocks)), (5, .long v5_43)] → W p l e (headSpec wsX4_workOut rm_X4_workOut).room s m ([Value.ref (a 0), Value.int v1] : List Value).toArray below meth c H locs 0 0 Qz (F0 m 174 ls [.long t0_174, .int v1, .ref (a 20)]) := by
              intro t0_174 h H locs hP hD hS ls hl
              unfold jn_X4_workOut_174 at h
              obtain ⟨hq, h⟩ := h
              refine va_last (D := D) hx hb hK hP hD hS 20 2 rfl rfl hq dX4_workOut_174 (fun H locs hP hD hS => ?_)
              have hP : va_P D vwCl (wM a cI cZ cJ m_thrown m_sets m_ways m_penalty m_blocks m_edges m_pairs m_lines m_isFresh m_isAnswer m_time m_touchMany m_touch m_line m_from m_to m_bound m_pairA m_pairB m_comeTo m_greatest m_least m_nowGreatest m_nowLeast m_does m_mostTime m_leastTime m_countUnit m_flagUnit (vp_updL m_worst (Int32.toNatClampNeg v1) t0_174) m_best m_stack) H := hP
              have hD : va_D A (wM a cI cZ cJ m_thrown m_sets m_ways m_penalty m_blocks m_edges m_pairs m_lines m_isFresh m_isAnswer m_time m_touchMany m_touch m_line m_from m_to m_bound m_pairA m_pairB m_comeTo m_greatest m_least m_nowGreatest m_nowLeast m_does m_mostTime m_leastTime m_countUnit m_flagUnit (vp_updL m_worst (Int32.toNatClampNeg v1) t0_174) m_best m_stack) := hD
              refine lv_aload_n hx hb dX4_workOut_175 rfl (lv_at hl 0 rfl) ?_
              refine va_get (D := D) (ci := 4) (v := .ref (a 21)) (C := RX4) (T := TX4) (N := 32) hx hb hts hinX4 hown hK hP 0 rfl rfl 30 (by decide) (hts (.fieldLink RX4 73 "WorstPathsModel" "best" "[J") (by decide +kernel)) (fun _ h9 => h9) rfl dX4_workOut_176 ?_
              refine lv_iload_n hx hb dX4_workOut_179 rfl (lv_at hl 1 rfl) ?_
              refine lv_lload hx hb dX4_workOut_180 (lv_at hl 3 rfl) ?_
              refine lv_lconst (v := 0) hx hb dX4_workOut_182 (by decide) ?_
              refine W.lcmp hx hb dX4_workOut_183 ?_
              refine lv_if_ge (tgt := 193) hx hb dX4_workOut_184 (by decide) (fun hc => ?_) (fun hc => ?_)
              · replace h := h.1 hc
                refine lv_lload hx hb dX4_workOut_193 (lv_at hl 3 rfl) ?_
                refine lv_aload_n hx hb dX4_workOut_195 rfl (lv_at hl 0 rfl) ?_
                refine va_get (D := D) (ci := 4) (v := .ref (a 17)) (C := RX4) (T := TX4) (N := 32) hx hb hts hinX4 hown hK hP 0 rfl rfl 25 (by decide) (hts (.fieldLink RX4 60 "WorstPathsModel" "leastTime" "[J") (by decide +kernel)) (fun _ h9 => h9) rfl dX4_workOut_196 ?_
                refine lv_iload_n hx hb dX4_workOut_199 rfl (lv_at hl 2 rfl) ?_
                obtain ⟨hq, h⟩ := h
                refine va_lald (D := D) hx hb hK hP 17 2 rfl rfl hq dX4_workOut_200 ?_
                refine lv_ladd hx hb dX4_workOut_201 ?_
                obtain ⟨hq, h⟩ := h
                refine va_last (D := D) hx hb hK hP hD hS 21 2 rfl rfl hq dX4_workOut_202 (fun H locs hP hD hS => ?_)
                have hP : va_P D vwCl (wM a cI cZ cJ m_thrown m_sets m_ways m_penalty m_blocks m_edges m_pairs m_lines m_isFresh m_isAnswer m_time m_touchMany m_touch m_line m_from m_to m_bound m_pairA m_pairB m_comeTo m_greatest m_least m_nowGreatest m_nowLeast m_does m_mostTime m_leastTime m_countUnit m_flagUnit (vp_updL m_worst (Int32.toNatClampNeg v1) t0_174) (vp_updL m_best (Int32.toNatClampNeg v1) (v5_43 + (m_leastTime (Int32.toNatClampNeg (v1 - v1 / m_blocks * m_blocks))))) m_stack) H := hP
                have hD : va_D A (wM a cI cZ cJ m_thrown m_sets m_ways m_penalty m_blocks m_edges m_pairs m_lines m_isFresh m_isAnswer m_time m_touchMany m_touch m_line m_from m_to m_bound m_pairA m_pairB m_comeTo m_greatest m_least m_nowGreatest m_nowLeast m_does m_mostTime m_leastTime m_countUnit m_flagUnit (vp_updL m_worst (Int32.toNatClampNeg v1) t0_174) (vp_updL m_best (Int32.toNatClampNeg v1) (v5_43 + (m_leastTime (Int32.toNatClampNeg (v1 - v1 / m_blocks * m_blocks))))) m_stack) := hD
                refine wz_mono hQz ?_
                exact W.vret hx hb hr (fun t ht hW => ⟨⟨((vp_updL m_worst (Int32.toNatClampNeg v1) t0_174), (vp_updL m_best (Int32.toNatClampNeg v1) (v5_43 + (m_leastTime (Int32.toNatClampNeg (v1 - v1 / m_blocks * m_blocks)))))), rfl, h, by rw [ht]; exact hP, va_K.moved hW.alike hK, hD⟩, hS.F ht⟩) hS.2.2 dX4_workOut_203
              · replace h := h.2 hc
                refine lv_ldc2 (v := (-1)) hx hb hown (hts (.constantLong RX4 157 ((-1))) (by decide +kernel)) dX4_workOut_187 ?_
                refine lv_goto (tgt := 202) hx hb dX4_workOut_190 (by decide) ?_
                obtain ⟨hq, h⟩ := h
                refine va_last (D := D) hx hb hK hP hD hS 21 2 rfl rfl hq dX4_workOut_202 (fun H locs hP hD hS => ?_)
                have hP : va_P D vwCl (wM a cI cZ cJ m_thrown m_sets m_ways m_penalty m_blocks m_edges m_pairs m_lines m_isFresh m_isAnswer m_time m_touchMany m_touch m_line m_from m_to m_bound m_pairA m_pairB m_comeTo m_greatest m_least m_nowGreatest m_nowLeast m_does m_mostTime m_leastTime m_countUnit m_flagUnit (vp_updL m_worst (Int32.toNatClampNeg v1) t0_174) (vp_updL m_best (Int32.toNatClampNeg v1) (-1)) m_stack) H := hP
                have hD : va_D A (wM a cI cZ cJ m_thrown m_sets m_ways m_penalty m_blocks m_edges m_pairs m_lines m_isFresh m_isAnswer m_time m_touchMany m_touch m_line m_from m_to m_bound m_pairA m_pairB m_comeTo m_greatest m_least m_nowGreatest m_nowLeast m_does m_mostTime m_leastTime m_countUnit m_flagUnit (vp_updL m_worst (Int32.toNatClampNeg v1) t0_174) (vp_updL m_best (Int32.toNatClampNeg v1) (-1)) m_stack) := hD
                refine wz_mono hQz ?_
                exact W.vret hx hb hr (fun t ht hW => ⟨⟨((vp_updL m_worst (Int32.toNatClampNeg v1) t0_174), (vp_updL m_best (Int32.toNatClampNeg v1) (-1))), rfl, h, by rw [ht]; exact hP, va_K.moved hW.alike hK, hD⟩, hS.F ht⟩) hS.2.2 dX4_workOut_203
            refine lv_if_ge (tgt := 166) hx hb dX4_workOut_157 (by decide) (fun hc => ?_) (fun hc => ?_)
            · replace h := h.1 hc
              refine lv_lload_n hx hb dX4_workOut_166 rfl (lv_at hl 3 rfl) ?_
              refine lv_aload_n hx hb dX4_workOut_167 rfl (lv_at hl 0 rfl) ?_
              refine va_get (D := D) (ci := 4) (v := .ref (a 16)) (C := RX4) (T := TX4) (N := 32) hx hb hts hinX4 hown hK hP 0 rfl rfl 24 (by decide) (hts (.fieldLink RX4 56 "WorstPathsModel" "mostTime" "[J") (by decide +kernel)) (fun _ h9 => h9) rfl dX4_workOut_168 ?_
              refine lv_iload_n hx hb dX4_workOut_171 rfl (lv_at hl 2 rfl) ?_
              obtain ⟨hq, h⟩ := h
              refine va_lald (D := D) hx hb hK hP 16 2 rfl rfl hq dX4_workOut_172 ?_
              refine lv_ladd hx hb dX4_workOut_173 ?_
              exact JP174 (v3_43 + (m_mostTime (Int32.toNatClampNeg (v1 - v1 / m_blocks * m_blocks)))) h _ _ hP hD hS _ (lv_sub hl [0, 1, 2, 4] rfl)
            · replace h := h.2 hc
              refine lv_ldc2 (v := (-1)) hx hb hown (hts (.constantLong RX4 157 ((-1))) (by decide +kernel)) dX4_workOut_160 ?_
              refine lv_goto (tgt := 174) hx hb dX4_workOut_163 (by decide) ?_
              exact JP174 (-1) h _ _ hP hD hS _ (lv_sub hl [0, 1, 2, 4] rfl)
          · replace h := h.2 hc
            refine lv_aload_n hx hb dX4_workOut_52 rfl (lv_at hl 0 rfl) ?_
            refine va_get (D := D) (ci := 4) (v := .ref (a 5)) (C := RX4) (T := TX4) (N := 32) hx hb hts hinX4 hown hK hP 0 rfl rfl 12 (by decide) (hts (.fieldLink RX4 22 "WorstPathsModel" "from" "[I") (by decide +kernel)) (fun _ h9 => h9) rfl dX4_workOut_53 ?_
            refine lv_iload hx hb dX4_workOut_56 (lv_at hl 5 rfl) ?_
            obtain ⟨hq, h⟩ := h
            refine va_iald (D := D) hx hb hK hP 5 0 rfl rfl hq dX4_workOut_58 ?_
            refine lv_iload_n hx hb dX4_workOut_59 rfl (lv_at hl 2 rfl) ?_
            refine lv_icmp_ne (tgt := 143) hx hb dX4_workOut_60 (by decide) (fun hc => ?_) (fun hc => ?_)
            · replace h := h.1 hc
              refine lv_iinc (v := (v7_43 + 1)) (lv' := [(7, .int (v7_43 + 1)), (0, .ref (a 0)), (1, .int v1), (2, .int (v1 - v1 / m_blocks * m_blocks)), (3, .long v3_43), (5, .long v5_43)]) hx hb dX4_workOut_143 hl (k := 5) rfl rfl (by decide) rfl (fun ls hl => ?_)
              refine lv_goto (tgt := 43) hx hb dX4_workOut_146 (by decide) ?_
              exact ih43 v3_43 v5_43 (v7_43 + 1) h _ _ hP hD hS _ (lv_sub hl [1, 2, 3, 4, 5, 0] rfl)
            · replace h := h.2 hc
              refine lv_aload_n hx hb dX4_workOut_63 rfl (lv_at hl 0 rfl) ?_
              refine lv_iload_n hx hb dX4_workOut_64 rfl (lv_at hl 1 rfl) ?_
              refine lv_iload hx hb dX4_workOut_65 (lv_at hl 5 rfl) ?_
              have hF := wz_free hD hS hA
              refine va_calli (va_runV (As := [.int v1, .int v7_43]) (rest := []) ⟨hx, hb, hml, hown, hts⟩ (c_X4_allows l D a cI cZ cJ _ m_thrown m_sets m_ways m_penalty m_blocks m_edges m_pairs m_lines m_isFresh m_isAnswer m_time m_touchMany m_touch m_line m_from m_to m_bound m_pairA m_pairB m_comeTo m_greatest m_least m_nowGreatest m_nowLeast m_does m_mostTime m_leastTime m_countUnit m_flagUnit m_worst m_best m_stack v1 v7_43 _ h) (cwV 2 hts gX4_workOut_X4_allows rfl rfl rfl (by decide +kernel) ⟨Nat.le_of_ble_eq_true rfl, Nat.le_of_ble_eq_true rfl⟩) ⟨wz_blind, va_recv hK hP (ci := 4) (q0 := 0) rfl rfl, fun U hU hW => wz_at hU hW hP hK hD⟩ rfl rfl hl.1 rfl (lv_room (Nat.le_of_ble_eq_true rfl)) dX4_workOut_67 ⟨Nat.zero_le _, Nat.zero_le _⟩) hS (fun q _ hq => hF q hq) hF (fun r_67 u t H locs ht hvm h hB hz1 hk1 hS => ?_)
              obtain ⟨hP, -, hD⟩ := wz_back ht hF hB
              have hP : va_P D vwCl (wM a cI cZ cJ m_thrown m_sets m_ways m_penalty m_blocks m_edges m_pairs m_lines m_isFresh m_isAnswer m_time m_touchMany m_touch m_line m_from m_to m_bound m_pairA m_pairB m_comeTo m_greatest m_least m_nowGreatest m_nowLeast m_does m_mostTime m_leastTime m_countUnit m_flagUnit m_worst m_best m_stack) H := hP
              have hD : va_D A (wM a cI cZ cJ m_thrown m_sets m_ways m_penalty m_blocks m_edges m_pairs m_lines m_isFresh m_isAnswer m_time m_touchMany m_touch m_line m_from m_to m_bound m_pairA m_pairB m_comeTo m_greatest m_least m_nowGreatest m_nowLeast m_does m_mostTime m_leastTime m_countUnit m_flagUnit m_worst m_best m_stack) := hD
              refine lv_if_eq (tgt := 143) hx hb dX4_workOut_70 (by decide) (fun hc => ?_) (fun hc => ?_)
              · replace h := h.1 hc
                refine lv_iinc (v := (v7_43 + 1)) (lv' := [(7, .int (v7_43 + 1)), (0, .ref (a 0)), (1, .int v1), (2, .int (v1 - v1 / m_blocks * m_blocks)), (3, .long v3_43), (5, .long v5_43)]) hx hb dX4_workOut_143 hl (k := 5) rfl rfl (by decide) rfl (fun ls hl => ?_)
                refine lv_goto (tgt := 43) hx hb dX4_workOut_146 (by decide) ?_
                exact ih43 v3_43 v5_43 (v7_43 + 1) h _ _ hP hD hS _ (lv_sub hl [1, 2, 3, 4, 5, 0] rfl)
              · replace h := h.2 hc
                refine lv_aload_n hx hb dX4_workOut_73 rfl (lv_at hl 0 rfl) ?_
                refine lv_iload_n hx hb dX4_workOut_74 rfl (lv_at hl 1 rfl) ?_
                refine lv_iload hx hb dX4_workOut_75 (lv_at hl 5 rfl) ?_
                have hF := wz_free hD hS hA
                refine va_calli (va_runV (As := [.int v1, .int v7_43]) (rest := []) ⟨hx, hb, hml, hown, hts⟩ (c_X4_behind l D a cI cZ cJ _ m_thrown m_sets m_ways m_penalty m_blocks m_edges m_pairs m_lines m_isFresh m_isAnswer m_time m_touchMany m_touch m_line m_from m_to m_bound m_pairA m_pairB m_comeTo m_greatest m_least m_nowGreatest m_nowLeast m_does m_mostTime m_leastTime m_countUnit m_flagUnit m_worst m_best m_stack v1 v7_43 _ h) (cwV 2 hts gX4_workOut_X4_behind rfl rfl rfl (by decide +kernel) ⟨Nat.le_of_ble_eq_true rfl, Nat.le_of_ble_eq_true rfl⟩) ⟨wz_blind, va_recv hK hP (ci := 4) (q0 := 0) rfl rfl, fun U hU hW => wz_at hU hW hP hK hD⟩ rfl rfl hl.1 rfl (lv_room (Nat.le_of_ble_eq_true rfl)) dX4_workOut_77 ⟨Nat.zero_le _, Nat.zero_le _⟩) hS (fun q _ hq => hF q hq) hF (fun r_77 u t H locs ht hvm h hB hz1 hk1 hS => ?_)
                obtain ⟨hP, -, hD⟩ := wz_back ht hF hB
                have hP : va_P D vwCl (wM a cI cZ cJ m_thrown m_sets m_ways m_penalty m_blocks m_edges m_pairs m_lines m_isFresh m_isAnswer m_time m_touchMany m_touch m_line m_from m_to m_bound m_pairA m_pairB m_comeTo m_greatest m_least m_nowGreatest m_nowLeast m_does m_mostTime m_leastTime m_countUnit m_flagUnit m_worst m_best m_stack) H := hP
                have hD : va_D A (wM a cI cZ cJ m_thrown m_sets m_ways m_penalty m_blocks m_edges m_pairs m_lines m_isFresh m_isAnswer m_time m_touchMany m_touch m_line m_from m_to m_bound m_pairA m_pairB m_comeTo m_greatest m_least m_nowGreatest m_nowLeast m_does m_mostTime m_leastTime m_countUnit m_flagUnit m_worst m_best m_stack) := hD
                refine lv_istore (lv' := [(8, .int r_77), (0, .ref (a 0)), (1, .int v1), (2, .int (v1 - v1 / m_blocks * m_blocks)), (3, .long v3_43), (5, .long v5_43), (7, .int v7_43)]) hx hb dX4_workOut_80 hl (by decide) rfl (fun ls hl => ?_)
                refine lv_aload_n hx hb dX4_workOut_82 rfl (lv_at hl 1 rfl) ?_
                refine va_get (D := D) (ci := 4) (v := .ref (a 20)) (C := RX4) (T := TX4) (N := 32) hx hb hts hinX4 hown hK hP 0 rfl rfl 29 (by decide) (hts (.fieldLink RX4 70 "WorstPathsModel" "worst" "[J") (by decide +kernel)) (fun _ h9 => h9) rfl dX4_workOut_83 ?_
                refine lv_iload hx hb dX4_workOut_86 (lv_at hl 0 rfl) ?_
                obtain ⟨hq, h⟩ := h
                refine va_lald (D := D) hx hb hK hP 20 2 rfl rfl hq dX4_workOut_88 ?_
                refine lv_lload_n hx hb dX4_workOut_89 rfl (lv_at hl 4 rfl) ?_
                refine W.lcmp hx hb dX4_workOut_90 ?_
                have JP102 : ∀ (v3_102 : Int64), jn_X4_workOut_102 v1 (v1 - v1 / m_blocks * m_blocks) v3_102 v5_43 v7_43 r_77 m_blocks m_edges m_pairs m_from m_to m_bound m_pairA m_pairB m_mostTime m_leastTime m_countUnit m_flagUnit m_worst m_best (lp_X4_workOut_43 v1 (v1 - v1 / m_blocks * m_blocks) m_blocks m_edges m_pairs m_from m_to m_bound m_pairA m_pairB m_mostTime m_leastTime m_countUnit m_flagUnit m_worst m_best Q n43) Q → ∀ (H : Heap) (locs : List Loc), va_P D vwCl (wM a cI cZ cJ m_thrown m_sets m_ways m_penalty m_blocks m_edges m_pairs m_lines m_isFresh m_isAnswer m_time m_touchMany m_touch m_line m_from m_to m_bound m_pairA m_pairB m_comeTo m_greatest m_least m_nowGreatest m_nowLeast m_does m_mostTime m_leastTime m_countUnit m_flagUnit m_worst m_best m_stack) H → va_D A (wM a cI cZ cJ m_thrown m_sets m_ways m_penalty m_blocks m_edges m_pairs m_lines m_isFresh m_isAnswer m_time m_touchMany m_touch m_line m_from m_to m_bound m_pairA m_pairB m_comeTo m_greatest m_least m_nowGreatest m_nowLeast m_does m_mostTime m_leastTime m_countUnit m_flagUnit m_worst m_best m_stack) → va_S A s.heap H locs → ∀ (ls : Array Slot), lv_has ls 9 [(0, .ref (a 0)), (1, .int v1), (2, .int (v1 - v1 / m_blocks * m_blocks)), (3, .long v3_102), (5, .long v5_43), (7, .int v7_43), (8, .int r_77)] → W p l e (headSpec wsX4_workOut rm_X4_workOut).room s m ([Value.ref (a 0), Value.int v1] : List Value).toArray below meth c H locs 0 0 Qz (F0 m 102 ls []) := by
                  intro v3_102 h H locs hP hD hS ls hl
                  unfold jn_X4_workOut_102 at h
                  refine lv_aload_n hx hb dX4_workOut_102 rfl (lv_at hl 0 rfl) ?_
                  refine va_get (D := D) (ci := 4) (v := .ref (a 21)) (C := RX4) (T := TX4) (N := 32) hx hb hts hinX4 hown hK hP 0 rfl rfl 30 (by decide) (hts (.fieldLink RX4 73 "WorstPathsModel" "best" "[J") (by decide +kernel)) (fun _ h9 => h9) rfl dX4_workOut_103 ?_
                  refine lv_iload hx hb dX4_workOut_106 (lv_at hl 6 rfl) ?_
                  obtain ⟨hq, h⟩ := h
                  refine va_lald (D := D) hx hb hK hP 21 2 rfl rfl hq dX4_workOut_108 ?_
                  refine lv_lconst (v := 0) hx hb dX4_workOut_109 (by decide) ?_
                  refine W.lcmp hx hb dX4_workOut_110 ?_
                  refine lv_if_lt (tgt := 143) hx hb dX4_workOut_111 (by decide) (fun hc => ?_) (fun hc => ?_)
                  · replace h := h.1 hc
                    refine lv_iinc (v := (v7_43 + 1)) (lv' := [(7, .int (v7_43 + 1)), (0, .ref (a 0)), (1, .int v1), (2, .int (v1 - v1 / m_blocks * m_blocks)), (3, .long v3_102), (5, .long v5_43), (8, .int r_77)]) hx hb dX4_workOut_143 hl (k := 5) rfl rfl (by decide) rfl (fun ls hl => ?_)
                    refine lv_goto (tgt := 43) hx hb dX4_workOut_146 (by decide) ?_
                    exact ih43 v3_102 v5_43 (v7_43 + 1) h _ _ hP hD hS _ (lv_sub hl [1, 2, 3, 4, 5, 0] rfl)
                  · replace h := h.2 hc
                    refine lv_lload hx hb dX4_workOut_114 (lv_at hl 4 rfl) ?_
                    refine lv_lconst (v := 0) hx hb dX4_workOut_116 (by decide) ?_
                    refine W.lcmp hx hb dX4_workOut_117 ?_
                    refine lv_if_lt (tgt := 134) hx hb dX4_workOut_118 (by decide) (fun hc => ?_) (fun hc => ?_)
                    · replace h := h.1 hc
                      refine lv_aload_n hx hb dX4_workOut_134 rfl (lv_at hl 0 rfl) ?_
                      refine va_get (D := D) (ci := 4) (v := .ref (a 21)) (C := RX4) (T := TX4) (N := 32) hx hb hts hinX4 hown hK hP 0 rfl rfl 30 (by decide) (hts (.fieldLink RX4 73 "WorstPathsModel" "best" "[J") (by decide +kernel)) (fun _ h9 => h9) rfl dX4_workOut_135 ?_
                      refine lv_iload hx hb dX4_workOut_138 (lv_at hl 6 rfl) ?_
                      obtain ⟨hq, h⟩ := h
                      refine va_lald (D := D) hx hb hK hP 21 2 rfl rfl hq dX4_workOut_140 ?_
                      refine lv_lstore (lv' := [(5, .long (m_best (Int32.toNatClampNeg r_77))), (0, .ref (a 0)), (1, .int v1), (2, .int (v1 - v1 / m_blocks * m_blocks)), (3, .long v3_102), (7, .int v7_43), (8, .int r_77)]) hx hb dX4_workOut_141 hl (by decide) rfl (fun ls hl => ?_)
                      refine lv_iinc (v := (v7_43 + 1)) (lv' := [(7, .int (v7_43 + 1)), (5, .long (m_best (Int32.toNatClampNeg r_77))), (0, .ref (a 0)), (1, .int v1), (2, .int (v1 - v1 / m_blocks * m_blocks)), (3, .long v3_102), (8, .int r_77)]) hx hb dX4_workOut_143 hl (k := 5) rfl rfl (by decide) rfl (fun ls hl => ?_)
                      refine lv_goto (tgt := 43) hx hb dX4_workOut_146 (by decide) ?_
                      exact ih43 v3_102 (m_best (Int32.toNatClampNeg r_77)) (v7_43 + 1) h _ _ hP hD hS _ (lv_sub hl [2, 3, 4, 5, 1, 0] rfl)
                    · replace h := h.2 hc
                      refine lv_aload_n hx hb dX4_workOut_121 rfl (lv_at hl 0 rfl) ?_
                      refine va_get (D := D) (ci := 4) (v := .ref (a 21)) (C := RX4) (T := TX4) (N := 32) hx hb hts hinX4 hown hK hP 0 rfl rfl 30 (by decide) (hts (.fieldLink RX4 73 "WorstPathsModel" "best" "[J") (by decide +kernel)) (fun _ h9 => h9) rfl dX4_workOut_122 ?_
                      refine lv_iload hx hb dX4_workOut_125 (lv_at hl 6 rfl) ?_
                      obtain ⟨hq, h⟩ := h
                      refine va_lald (D := D) hx hb hK hP 21 2 rfl rfl hq dX4_workOut_127 ?_
                      refine lv_lload hx hb dX4_workOut_128 (lv_at hl 4 rfl) ?_
                      refine W.lcmp hx hb dX4_workOut_130 ?_
                      refine lv_if_ge (tgt := 143) hx hb dX4_workOut_131 (by decide) (fun hc => ?_) (fun hc => ?_)
                      · replace h := h.1 hc
                        refine lv_iinc (v := (v7_43 + 1)) (lv' := [(7, .int (v7_43 + 1)), (0, .ref (a 0)), (1, .int v1), (2, .int (v1 - v1 / m_blocks * m_blocks)), (3, .long v3_102), (5, .long v5_43), (8, .int r_77)]) hx hb dX4_workOut_143 hl (k := 5) rfl rfl (by decide) rfl (fun ls hl => ?_)
                        refine lv_goto (tgt := 43) hx hb dX4_workOut_146 (by decide) ?_
                        exact ih43 v3_102 v5_43 (v7_43 + 1) h _ _ hP hD hS _ (lv_sub hl [1, 2, 3, 4, 5, 0] rfl)
                      · replace h := h.2 hc
                        refine lv_aload_n hx hb dX4_workOut_134 rfl (lv_at hl 0 rfl) ?_
                        refine va_get (D := D) (ci := 4) (v := .ref (a 21)) (C := RX4) (T := TX4) (N := 32) hx hb hts hinX4 hown hK hP 0 rfl rfl 30 (by decide) (hts (.fieldLink RX4 73 "WorstPathsModel" "best" "[J") (by decide +kernel)) (fun _ h9 => h9) rfl dX4_workOut_135 ?_
                        refine lv_iload hx hb dX4_workOut_138 (lv_at hl 6 rfl) ?_
                        obtain ⟨hq, h⟩ := h
                        refine va_lald (D := D) hx hb hK hP 21 2 rfl rfl hq dX4_workOut_140 ?_
                        refine lv_lstore (lv' := [(5, .long (m_best (Int32.toNatClampNeg r_77))), (0, .ref (a 0)), (1, .int v1), (2, .int (v1 - v1 / m_blocks * m_blocks)), (3, .long v3_102), (7, .int v7_43), (8, .int r_77)]) hx hb dX4_workOut_141 hl (by decide) rfl (fun ls hl => ?_)
                        refine lv_iinc (v := (v7_43 + 1)) (lv' := [(7, .int (v7_43 + 1)), (5, .long (m_best (Int32.toNatClampNeg r_77))), (0, .ref (a 0)), (1, .int v1), (2, .int (v1 - v1 / m_blocks * m_blocks)), (3, .long v3_102), (8, .int r_77)]) hx hb dX4_workOut_143 hl (k := 5) rfl rfl (by decide) rfl (fun ls hl => ?_)
                        refine lv_goto (tgt := 43) hx hb dX4_workOut_146 (by decide) ?_
                        exact ih43 v3_102 (m_best (Int32.toNatClampNeg r_77)) (v7_43 + 1) h _ _ hP hD hS _ (lv_sub hl [2, 3, 4, 5, 1, 0] rfl)
                refine lv_if_le (tgt := 102) hx hb dX4_workOut_91 (by decide) (fun hc => ?_) (fun hc => ?_)
                · replace h := h.1 hc
                  exact JP102 v3_43 h _ _ hP hD hS _ (lv_sub hl [1, 2, 3, 4, 5, 6, 0] rfl)
                · replace h := h.2 hc
                  refine lv_aload_n hx hb dX4_workOut_94 rfl (lv_at hl 1 rfl) ?_
                  refine va_get (D := D) (ci := 4) (v := .ref (a 20)) (C := RX4) (T := TX4) (N := 32) hx hb hts hinX4 hown hK hP 0 rfl rfl 29 (by decide) (hts (.fieldLink RX4 70 "WorstPathsModel" "worst" "[J") (by decide +kernel)) (fun _ h9 => h9) rfl dX4_workOut_95 ?_
                  refine lv_iload hx hb dX4_workOut_98 (lv_at hl 0 rfl) ?_
                  obtain ⟨hq, h⟩ := h
                  refine va_lald (D := D) hx hb hK hP 20 2 rfl rfl hq dX4_workOut_100 ?_
                  refine lv_lstore_n (lv' := [(3, .long (m_worst (Int32.toNatClampNeg r_77))), (8, .int r_77), (0, .ref (a 0)), (1, .int v1), (2, .int (v1 - v1 / m_blocks * m_blocks)), (5, .long v5_43), (7, .int v7_43)]) hx hb dX4_workOut_101 rfl hl (by decide) rfl (fun ls hl => ?_)
                  exact JP102 (m_worst (Int32.toNatClampNeg r_77)) h _ _ hP hD hS _ (lv_sub hl [2, 3, 4, 0, 5, 6, 1] rfl)
      obtain ⟨k9, h⟩ := h
      exact LP43 k9 t0_22 0 0 h _ _ hP hD hS _ (lv_sub hl [3, 4, 5, 2, 1, 0] rfl)
  refine lv_if_eq (tgt := 19) hx hb dX4_workOut_12 (by decide) (fun hc => ?_) (fun hc => ?_)
  · replace h := h.1 hc
    refine lv_ldc2 (v := (-1)) hx hb hown (hts (.constantLong RX4 157 ((-1))) (by decide +kernel)) dX4_workOut_19 ?_
    exact JP22 (-1) h _ _ hP hD hS _ (lv_sub hl [1, 2, 0] rfl)
  · replace h := h.2 hc
    refine lv_lconst (v := 0) hx hb dX4_workOut_15 (by decide) ?_
    refine lv_goto (tgt := 22) hx hb dX4_workOut_16 (by decide) ?_
    exact JP22 0 h _ _ hP hD hS _ (lv_sub hl [1, 2, 0] rfl)
def lp_X4_findWays_71 (m_blocks : Int32) (m_edges : Int32) (m_pairs : Int32) (m_isAnswer : Int32) (m_from : Nat → Int32) (m_to : Nat → Int32) (m_bound : Nat → Int32) (m_pairA : Nat → Int32) (m_pairB : Nat → Int32) (m_comeTo : Nat → Int32) (m_mostTime : Nat → Int64) (m_leastTime : Nat → Int64) (m_countUnit : Nat → Int32) (m_flagUnit : Nat → Int32) (Q : Int32 → (Nat → Int32) → (Nat → Int32) → (Nat → Int64) → (Nat → Int64) → (Nat → Int32) → Prop) : Nat → Int32 → (Nat → Int64) → (Nat → Int64) → (Nat → Int32) → Prop
  | 0, _, _, _, _ => False
  | n + 1, v2, m_worst, m_best, m_stack => (v2 ≤ 0 → vp_in 0 40000 ∧ (((lg_cmp (m_worst (Int32.toNatClampNeg 0)) 0) < 0 → Q 0 m_countUnit m_flagUnit m_worst m_best m_stack) ∧ (¬ (lg_cmp (m_worst (Int32.toNatClampNeg 0)) 0) < 0 → Q 1 m_countUnit m_flagUnit m_worst m_best m_stack))) ∧ (¬ v2 ≤ 0 → vp_in (v2 - 1) 40001 ∧ (wp_X4_firstUnknown (m_stack (Int32.toNatClampNeg (v2 - 1))) m_blocks m_edges m_pairs m_from m_to m_bound m_pairA m_pairB m_countUnit m_flagUnit m_worst (fun r_84 => (r_84 < 0 → vp_in (v2 - 1) 40001 ∧ (wp_X4_workOut (m_stack (Int32.toNatClampNeg (v2 - 1))) m_blocks m_edges m_pairs m_from m_to m_bound m_pairA m_pairB m_mostTime m_leastTime m_countUnit m_flagUnit m_worst m_best (fun m_worst_114 m_best_114 => (lp_X4_findWays_71 m_blocks m_edges m_pairs m_isAnswer m_from m_to m_bound m_pairA m_pairB m_comeTo m_mostTime m_leastTime m_countUnit m_flagUnit Q n) (v2 + (-1)) m_worst_114 m_best_114 m_stack))) ∧ (¬ r_84 < 0 → vp_in v2 40001 ∧ ((lp_X4_findWays_71 m_blocks m_edges m_pairs m_isAnswer m_from m_to m_bound m_pairA m_pairB m_comeTo m_mostTime m_leastTime m_countUnit m_flagUnit Q n) (v2 + 1) m_worst m_best (upd m_stack (Int32.toNatClampNeg v2) r_84))))))
def lp_X4_findWays_42 (v1 : Int32) (m_blocks : Int32) (m_edges : Int32) (m_pairs : Int32) (m_isAnswer : Int32) (m_from : Nat → Int32) (m_to : Nat → Int32) (m_bound : Nat → Int32) (m_pairA : Nat → Int32) (m_pairB : Nat → Int32) (m_comeTo : Nat → Int32) (m_mostTime : Nat → Int64) (m_leastTime : Nat → Int64) (m_countUnit : Nat → Int32) (m_flagUnit : Nat → Int32) (m_best : Nat → Int64) (m_stack : Nat → Int32) (Q : Int32 → (Nat → Int32) → (Nat → Int32) → (Nat → Int64) → (Nat → Int64) → (Nat → Int32) → Prop) : Nat → Int32 → (Nat → Int64) → Prop
  | 0, _, _ => False
  | n + 1, v2, m_worst => (v1 ≤ v2 → vp_in 0 40001 ∧ (∃ k71, lp_X4_findWays_71 m_blocks m_edges m_pairs m_isAnswer m_from m_to m_bound m_pairA m_pairB m_comeTo m_mostTime m_leastTime m_countUnit m_flagUnit Q k71 1 m_worst m_best (upd m_stack (Int32.toNatClampNeg 0) 0))) ∧ (¬ v1 ≤ v2 → vp_in v2 40000 ∧ ((lp_X4_findWays_42 v1 m_blocks m_edges m_pairs m_isAnswer m_from m_to m_bound m_pairA m_pairB m_comeTo m_mostTime m_leastTime m_countUnit m_flagUnit m_best m_stack Q n) (v2 + 1) (vp_updL m_worst (Int32.toNatClampNeg v2) (-2))))
def wp_X4_findWays (m_blocks : Int32) (m_edges : Int32) (m_pairs : Int32) (m_isAnswer : Int32) (m_from : Nat → Int32) (m_to : Nat → Int32) (m_bound : Nat → Int32) (m_pairA : Nat → Int32) (m_pairB : Nat → Int32) (m_comeTo : Nat → Int32) (m_mostTime : Nat → Int64) (m_leastTime : Nat → Int64) (m_countUnit : Nat → Int32) (m_flagUnit : Nat → Int32) (m_worst : Nat → Int64) (m_best : Nat → Int64) (m_stack : Nat → Int32) (Q : Int32 → (Nat → Int32) → (Nat → Int32) → (Nat → Int64) → (Nat → Int64) → (Nat → Int32) → Prop) : Prop := wp_X4_countPlaces m_blocks m_edges m_pairs m_bound m_pairA m_pairB m_countUnit m_flagUnit (fun r_1 m_countUnit_1 m_flagUnit_1 => (m_blocks ≤ 0 → (¬ (0 : Int32) = 0 → ∃ k42, lp_X4_findWays_42 r_1 m_blocks m_edges m_pairs 0 m_from m_to m_bound m_pairA m_pairB m_comeTo m_mostTime m_leastTime m_countUnit_1 m_flagUnit_1 m_best m_stack Q k42 0 m_worst) ∧ ((0 : Int32) = 0 → Q 0 m_countUnit_1 m_flagUnit_1 m_worst m_best m_stack)) ∧ (¬ m_blocks ≤ 0 → (r_1 ≤ 0 → (¬ (0 : Int32) = 0 → ∃ k42, lp_X4_findWays_42 r_1 m_blocks m_edges m_pairs 0 m_from m_to m_bound m_pairA m_pairB m_comeTo m_mostTime m_leastTime m_countUnit_1 m_flagUnit_1 m_best m_stack Q k42 0 m_worst) ∧ ((0 : Int32) = 0 → Q 0 m_countUnit_1 m_flagUnit_1 m_worst m_best m_stack)) ∧ (¬ r_1 ≤ 0 → wp_X4_isRound m_blocks m_edges m_from m_to m_bound m_comeTo m_stack (fun r_18 m_stack_18 => (¬ r_18 = 0 → (¬ (0 : Int32) = 0 → ∃ k42, lp_X4_findWays_42 r_1 m_blocks m_edges m_pairs 0 m_from m_to m_bound m_pairA m_pairB m_comeTo m_mostTime m_leastTime m_countUnit_1 m_flagUnit_1 m_best m_stack_18 Q k42 0 m_worst) ∧ ((0 : Int32) = 0 → Q 0 m_countUnit_1 m_flagUnit_1 m_worst m_best m_stack_18)) ∧ (r_18 = 0 → (¬ (1 : Int32) = 0 → ∃ k42, lp_X4_findWays_42 r_1 m_blocks m_edges m_pairs 1 m_from m_to m_bound m_pairA m_pairB m_comeTo m_mostTime m_leastTime m_countUnit_1 m_flagUnit_1 m_best m_stack_18 Q k42 0 m_worst) ∧ ((1 : Int32) = 0 → Q 1 m_countUnit_1 m_flagUnit_1 m_worst m_best m_stack_18))))))
abbrev rm_X4_findWays : Room := { frames := 3, cells := 0, slots := 0, locals := 74 }
set_option maxHeartbeats 4000000 in
set_option maxRecDepth 100000 in
theorem c_X4_findWays (l : Launch) (D : va_G) (a : Nat → Nat) (cI : ClassId) (cZ : ClassId) (cJ : ClassId) (sz : Nat) (m_thrown : Int32) (m_sets : Int32) (m_ways : Int32) (m_penalty : Int32) (m_blocks : Int32) (m_edges : Int32) (m_pairs : Int32) (m_lines : Int32) (m_isFresh : Int32) (m_isAnswer : Int32) (m_time : Nat → Int32) (m_touchMany : Nat → Int32) (m_touch : Nat → Int32) (m_line : Nat → Int32) (m_from : Nat → Int32) (m_to : Nat → Int32) (m_bound : Nat → Int32) (m_pairA : Nat → Int32) (m_pairB : Nat → Int32) (m_comeTo : Nat → Int32) (m_greatest : Nat → Int32) (m_least : Nat → Int32) (m_nowGreatest : Nat → Int32) (m_nowLeast : Nat → Int32) (m_does : Nat → Int32) (m_mostTime : Nat → Int64) (m_leastTime : Nat → Int64) (m_countUnit : Nat → Int32) (m_flagUnit : Nat → Int32) (m_worst : Nat → Int64) (m_best : Nat → Int64) (m_stack : Nat → Int32) (Q : Int32 → (Nat → Int32) → (Nat → Int32) → (Nat → Int64) → (Nat → Int64) → (Nat → Int32) → Prop) (h : wp_X4_findWays m_blocks m_edges m_pairs m_isAnswer m_from m_to m_bound m_pairA m_pairB m_comeTo m_mostTime m_leastTime m_countUnit m_flagUnit m_worst m_best m_stack Q) : Met l yX4_findWays wsX4_findWays rm_X4_findWays (va_Pc [.ref (a 0)] (inW D cI cZ cJ sz (wM a cI cZ cJ m_thrown m_sets m_ways m_penalty m_blocks m_edges m_pairs m_lines m_isFresh m_isAnswer m_time m_touchMany m_touch m_line m_from m_to m_bound m_pairA m_pairB m_comeTo m_greatest m_least m_nowGreatest m_nowLeast m_does m_mostTime m_leastTime m_countUnit m_flagUnit m_worst m_best m_stack))) (va_Qv (fun (u : Int32 × (Nat → Int32) × (Nat → Int32) × (Nat → Int64) × (Nat → Int64) × (Nat → Int32)) => Q u.1 u.2.1 u.2.2.1 u.2.2.2.1 u.2.2.2.2.1 u.2.2.2.2.2) (fun (u : Int32 × (Nat → Int32) × (Nat → Int32) × (Nat → Int64) × (Nat → Int64) × (Nat → Int32)) => outW D cI cZ cJ (va_A (wM a cI cZ cJ m_thrown m_sets m_ways m_penalty m_blocks m_edges m_pairs m_lines m_isFresh m_isAnswer m_time m_touchMany m_touch m_line m_from m_to m_bound m_pairA m_pairB m_comeTo m_greatest m_least m_nowGreatest m_nowLeast m_does m_mostTime m_leastTime m_countUnit m_flagUnit m_worst m_best m_stack) sz) (wM a cI cZ cJ m_thrown m_sets m_ways m_penalty m_blocks m_edges m_pairs m_lines m_isFresh u.1 m_time m_touchMany m_touch m_line m_from m_to m_bound m_pairA m_pairB m_comeTo m_greatest m_least m_nowGreatest m_nowLeast m_does m_mostTime m_leastTime u.2.1 u.2.2.1 u.2.2.2.1 u.2.2.2.2.1 u.2.2.2.2.2)) (va_A (wM a cI cZ cJ m_thrown m_sets m_ways m_penalty m_blocks m_edges m_pairs m_lines m_isFresh m_isAnswer m_time m_touchMany m_touch m_line m_from m_to m_bound m_pairA m_pairB m_comeTo m_greatest m_least m_nowGreatest m_nowLeast m_does m_mostTime m_leastTime m_countUnit m_flagUnit m_worst m_best m_stack) sz)) 0 0 (va_A (wM a cI cZ cJ m_thrown m_sets m_ways m_penalty m_blocks m_edges m_pairs m_lines m_isFresh m_isAnswer m_time m_touchMany m_touch m_line m_from m_to m_bound m_pairA m_pairB m_comeTo m_greatest m_least m_nowGreatest m_nowLeast m_does m_mostTime m_leastTime m_countUnit m_flagUnit m_worst m_best m_stack) sz) := by
  refine Met.ofW (cc := cX4_findWays) (maxL := 4) (ret := none) (by decide +kernel) rfl ?_
  intro p e s m args below meth c s₁ B hml hv
  obtain ⟨rfl, hsz, hP, hK, hD0⟩ := hv
  have hx := B.exec
  have hb := B.bytes
  have hr := B.returns
  have hts := atoms_spec (ws := wsX4_findWays) B.pre
  have hown : s.vm.findClass RX4 = some m.cls := findClass_of_methodNamed B.named
  have hlocks := B.notSynchronized
  have hinX4 : ∀ w ∈ wsX40, w ∈ wsX4_findWays := by decide +kernel
  subst hsz
  have hD := hD0.self (sz := s.heap.size)
  generalize hAe : va_A (wM a cI cZ cJ m_thrown m_sets m_ways m_penalty m_blocks m_edges m_pairs m_lines m_isFresh m_isAnswer m_time m_touchMany m_touch m_line m_from m_to m_bound m_pairA m_pairB m_comeTo m_greatest m_least m_nowGreatest m_nowLeast m_does m_mostTime m_leastTime m_countUnit m_flagUnit m_worst m_best m_stack) s.heap.size = A at hD ⊢
  have hA : ∀ q : Nat, s.heap.size ≤ q → A q := fun q h => by rw [← hAe]; exact Or.inr h
  have hS : va_S A s.heap s.heap [] := va_S.rf
  have hP : va_P D vwCl (wM a cI cZ cJ m_thrown m_sets m_ways m_penalty m_blocks m_edges m_pairs m_lines m_isFresh m_isAnswer m_time m_touchMany m_touch m_line m_from m_to m_bound m_pairA m_pairB m_comeTo m_greatest m_least m_nowGreatest m_nowLeast m_does m_mostTime m_leastTime m_countUnit m_flagUnit m_worst m_best m_stack) s.heap := hP
  have hl := lv_entry ([.ref (a 0)]) (n := 4) (Nat.le_of_ble_eq_true rfl)
  rw [lg_entry_eq]
  generalize (lg_sl ([.ref (a 0)]) ++ List.replicate (4 - (lg_sl ([.ref (a 0)])).length) Slot.unset).toArray = ls at hl ⊢
  have hl : lv_has ls 4 [(0, .ref (a 0))] := hl
  refine wz_abs (fun Qz hQz => ?_)
  unfold wp_X4_findWays at h
  refine lv_aload_n hx hb dX4_findWays_0 rfl (lv_at hl 0 rfl) ?_
  have hF := wz_free hD hS hA
  refine va_calli (va_runV (As := []) (rest := []) ⟨hx, hb, hml, hown, hts⟩ (c_X4_countPlaces l D a cI cZ cJ _ m_thrown m_sets m_ways m_penalty m_blocks m_edges m_pairs m_lines m_isFresh m_isAnswer m_time m_touchMany m_touch m_line m_from m_to m_bound m_pairA m_pairB m_comeTo m_greatest m_least m_nowGreatest m_nowLeast m_does m_mostTime m_leastTime m_countUnit m_flagUnit m_worst m_best m_stack _ h) (cwV 0 hts gX4_findWays_X4_countPlaces rfl rfl rfl (by decide +kernel) ⟨Nat.le_of_ble_eq_true rfl, Nat.le_of_ble_eq_true rfl⟩) ⟨wz_blind, va_recv hK hP (ci := 4) (q0 := 0) rfl rfl, fun U hU hW => wz_at hU hW hP hK hD⟩ rfl rfl hl.1 rfl (lv_room (Nat.le_of_ble_eq_true rfl)) dX4_findWays_1 ⟨Nat.zero_le _, Nat.zero_le _⟩) hS (fun q _ hq => hF q hq) hF (fun r_1 u t H locs ht hvm h hB hz1 hk1 hS => ?_)
  obtain ⟨m_countUnit_1, m_flagUnit_1⟩ := u
  dsimp only at h hB
  obtain ⟨hP, -, hD⟩ := wz_back ht hF hB
  have hP : va_P D vwCl (wM a cI cZ cJ m_thrown m_sets m_ways m_penalty m_blocks m_edges m_pairs m_lines m_isFresh m_isAnswer m_time m_touchMany m_touch m_line m_from m_to m_bound m_pairA m_pairB m_comeTo m_greatest m_least m_nowGreatest m_nowLeast m_does m_mostTime m_leastTime m_countUnit_1 m_flagUnit_1 m_worst m_best m_stack) H := hP
  have hD : va_D A (wM a cI cZ cJ m_thrown m_sets m_ways m_penalty m_blocks m_edges m_pairs m_lines m_isFresh m_isAnswer m_time m_touchMany m_touch m_line m_from m_to m_bound m_pairA m_pairB m_comeTo m_greatest m_least m_nowGreatest m_nowLeast m_does m_mostTime m_leastTime m_countUnit_1 m_flagUnit_1 m_worst m_best m_stack) := hD
  refine lv_istore_n (lv' := [(1, .int r_1), (0, .ref (a 0))]) hx hb dX4_findWays_4 rfl hl (by decide) rfl (fun ls hl => ?_)
  refine lv_aload_n hx hb dX4_findWays_5 rfl (lv_at hl 1 rfl) ?_
  refine lv_aload_n hx hb dX4_findWays_6 rfl (lv_at hl 1 rfl) ?_
  refine va_get (D := D) (ci := 4) (v := .int m_blocks) (C := RX4) (T := TX4) (N := 32) hx hb hts hinX4 hown hK hP 0 rfl rfl 4 (by decide) (hts (.fieldLink RX4 106 "WorstPathsModel" "blocks" "I") (by decide +kernel)) (fun _ h9 => h9) rfl dX4_findWays_7 ?_
  refine lv_if_le (tgt := 28) hx hb dX4_findWays_10 (by decide) (fun hc => ?_) (fun hc => ?_)
  · replace h := h.1 hc
    refine lv_iconst (v := 0) hx hb dX4_findWays_28 (by decide) ?_
    refine va_put (D := D) (ci := 4) (v := .int 0) (ty := .boolean) (C := RX4) (T := TX4) (N := 32) hx hb hts hinX4 tyX4 tyX4_ok nmX4 hown hK hP hD hS 0 rfl rfl 26 (by decide) (hts (.fieldLink RX4 167 "WorstPathsModel" "isAnswer" "Z") (by decide +kernel)) (fun _ h9 => h9) rfl (by decide +kernel) rfl rfl (Nat.le_of_ble_eq_true rfl) dX4_findWays_29 (fun H locs hP hD hS => ?_)
    have hP : va_P D vwCl (wM a cI cZ cJ m_thrown m_sets m_ways m_penalty m_blocks m_edges m_pairs m_lines m_isFresh 0 m_time m_touchMany m_touch m_line m_from m_to m_bound m_pairA m_pairB m_comeTo m_greatest m_least m_nowGreatest m_nowLeast m_does m_mostTime m_leastTime m_countUnit_1 m_flagUnit_1 m_worst m_best m_stack) H := hP
    have hD : va_D A (wM a cI cZ cJ m_thrown m_sets m_ways m_penalty m_blocks m_edges m_pairs m_lines m_isFresh 0 m_time m_touchMany m_touch m_line m_from m_to m_bound m_pairA m_pairB m_comeTo m_greatest m_least m_nowGreatest m_nowLeast m_does m_mostTime m_leastTime m_countUnit_1 m_flagUnit_1 m_worst m_best m_stack) := hD
    refine lv_aload_n hx hb dX4_findWays_32 rfl (lv_at hl 1 rfl) ?_
    refine va_get (D := D) (ci := 4) (v := .int 0) (C := RX4) (T := TX4) (N := 32) hx hb hts hinX4 hown hK hP 0 rfl rfl 26 (by decide) (hts (.fieldLink RX4 167 "WorstPathsModel" "isAnswer" "Z") (by decide +kernel)) (fun _ h9 => h9) rfl dX4_findWays_33 ?_
    refine lv_if_ne (tgt := 40) hx hb dX4_findWays_36 (by decide) (fun hc => ?_) (fun hc => ?_)
    · replace h := h.1 hc
      refine lv_iconst (v := 0) hx hb dX4_findWays_40 (by decide) ?_
      refine lv_istore_n (lv' := [(2, .int 0), (1, .int r_1), (0, .ref (a 0))]) hx hb dX4_findWays_41 rfl hl (by decide) rfl (fun ls hl => ?_)
      have LP42 : ∀ (n42 : Nat) (v2_42 : Int32) (m_worst_42 : Nat → Int64), lp_X4_findWays_42 r_1 m_blocks m_edges m_pairs 0 m_from m_to m_bound m_pairA m_pairB m_comeTo m_mostTime m_leastTime m_countUnit_1 m_flagUnit_1 m_best m_stack Q n42 v2_42 m_worst_42 → ∀ (H : Heap) (locs : List Loc), va_P D vwCl (wM a cI cZ cJ m_thrown m_sets m_ways m_penalty m_blocks m_edges m_pairs m_lines m_isFresh 0 m_time m_touchMany m_touch m_line m_from m_to m_bound m_pairA m_pairB m_comeTo m_greatest m_least m_nowGreatest m_nowLeast m_does m_mostTime m_leastTime m_countUnit_1 m_flagUnit_1 m_worst_42 m_best m_stack) H → va_D A (wM a cI cZ cJ m_thrown m_sets m_ways m_penalty m_blocks m_edges m_pairs m_lines m_isFresh 0 m_time m_touchMany m_touch m_line m_from m_to m_bound m_pairA m_pairB m_comeTo m_greatest m_least m_nowGreatest m_nowLeast m_does m_mostTime m_leastTime m_countUnit_1 m_flagUnit_1 m_worst_42 m_best m_stack) → va_S A s.heap H locs → ∀ (ls : Array Slot), lv_has ls 4 [(0, .ref (a 0)), (1, .int r_1), (2, .int v2_42)] → W p l e (headSpec wsX4_findWays rm_X4_findWays).room s m ([Value.ref (a 0)] : List Value).toArray below meth c H locs 0 0 Qz (F0 m 42 ls []) := by
        intro n42
        induction n42 with
        | zero => intro v2_42 m_worst_42 h; exact h.elim
        | succ n42 ih42 =>
          intro v2_42 m_worst_42 h H locs hP hD hS ls hl
          unfold lp_X4_findWays_42 at h
          refine lv_iload_n hx hb dX4_findWays_42 rfl (lv_at hl 2 rfl) ?_
          refine lv_iload_n hx hb dX4_findWays_43 rfl (lv_at hl 1 rfl) ?_
          refine lv_icmp_ge (tgt := 62) hx hb dX4_findWays_44 (by decide) (fun hc => ?_) (fun hc => ?_)
          · replace h := h.1 hc
            refine lv_iconst (v := 1) hx hb dX4_findWays_62 (by decide) ?_
            refine lv_istore_n (lv' := [(2, .int 1), (0, .ref (a 0)), (1, .int r_1)]) hx hb dX4_findWays_63 rfl hl (by decide) rfl (fun ls hl => ?_)
            refine lv_aload_n hx hb dX4_findWays_64 rfl (lv_at hl 1 rfl) ?_
            refine va_get (D := D) (ci := 4) (v := .ref (a 22)) (C := RX4) (T := TX4) (N := 32) hx hb hts hinX4 hown hK hP 0 rfl rfl 31 (by decide) (hts (.fieldLink RX4 77 "WorstPathsModel" "stack" "[I") (by decide +kernel)) (fun _ h9 => h9) rfl dX4_findWays_65 ?_
            refine lv_iconst (v := 0) hx hb dX4_findWays_68 (by decide) ?_
            refine lv_iconst (v := 0) hx hb dX4_findWays_69 (by decide) ?_
            obtain ⟨hq, h⟩ := h
            refine va_iast (D := D) hx hb hK hP hD hS 22 0 rfl rfl hq dX4_findWays_70 (fun H locs hP hD hS => ?_)
            have hP : va_P D vwCl (wM a cI cZ cJ m_thrown m_sets m_ways m_penalty m_blocks m_edges m_pairs m_lines m_isFresh 0 m_time m_touchMany m_touch m_line m_from m_to m_bound m_pairA m_pairB m_comeTo m_greatest m_least m_nowGreatest m_nowLeast m_does m_mostTime m_leastTime m_countUnit_1 m_flagUnit_1 m_worst_42 m_best (upd m_stack (Int32.toNatClampNeg 0) 0)) H := hP
            have hD : va_D A (wM a cI cZ cJ m_thrown m_sets m_ways m_penalty m_blocks m_edges m_pairs m_lines m_isFresh 0 m_time m_touchMany m_touch m_line m_from m_to m_bound m_pairA m_pairB m_comeTo m_greatest m_least m_nowGreatest m_nowLeast m_does m_mostTime m_leastTime m_countUnit_1 m_flagUnit_1 m_worst_42 m_best (upd m_stack (Int32.toNatClampNeg 0) 0)) := hD
            have LP71 : ∀ (n71 : Nat) (v2_71 : Int32) (m_worst_71 : Nat → Int64) (m_best_71 : Nat → Int64) (m_stack_71 : Nat → Int32), lp_X4_findWays_71 m_blocks m_edges m_pairs 0 m_from m_to m_bound m_pairA m_pairB m_comeTo m_mostTime m_leastTime m_countUnit_1 m_flagUnit_1 Q n71 v2_71 m_worst_71 m_best_71 m_stack_71 → ∀ (H : Heap) (locs : List Loc), va_P D vwCl (wM a cI cZ cJ m_thrown m_sets m_ways m_penalty m_blocks m_edges m_pairs m_lines m_isFresh 0 m_time m_touchMany m_touch m_line m_from m_to m_bound m_pairA m_pairB m_comeTo m_greatest m_least m_nowGreatest m_nowLeast m_does m_mostTime m_leastTime m_countUnit_1 m_flagUnit_1 m_worst_71 m_best_71 m_stack_71) H → va_D A (wM a cI cZ cJ m_thrown m_sets m_ways m_penalty m_blocks m_edges m_pairs m_lines m_isFresh 0 m_time m_touchMany m_touch m_line m_from m_to m_bound m_pairA m_pairB m_comeTo m_greatest m_least m_nowGreatest m_nowLeast m_does m_mostTime m_leastTime m_countUnit_1 m_flagUnit_1 m_worst_71 m_best_71 m_stack_71) → va_S A s.heap H locs → ∀ (ls : Array Slot), lv_has ls 4 [(0, .ref (a 0)), (2, .int v2_71)] → W p l e (headSpec wsX4_findWays rm_X4_findWays).room s m ([Value.ref (a 0)] : List Value).toArray below meth c H locs 0 0 Qz (F0 m 71 ls []) := by
              intro n71
              induction n71 with
              | zero => intro v2_71 m_worst_71 m_best_71 m_stack_71 h; exact h.elim
              | succ n71 ih71 =>
                intro v2_71 m_worst_71 m_best_71 m_stack_71 h H locs hP hD hS ls hl
                unfold lp_X4_findWays_71 at h
                refine lv_iload_n hx hb dX4_findWays_71 rfl (lv_at hl 1 rfl) ?_
                refine lv_if_le (tgt := 123) hx hb dX4_findWays_72 (by decide) (fun hc => ?_) (fun hc => ?_)
                · replace h := h.1 hc
                  refine lv_aload_n hx hb dX4_findWays_123 rfl (lv_at hl 0 rfl) ?_
                  refine lv_aload_n hx hb dX4_findWays_124 rfl (lv_at hl 0 rfl) ?_
                  refine va_get (D := D) (ci := 4) (v := .ref (a 20)) (C := RX4) (T := TX4) (N := 32) hx hb hts hinX4 hown hK hP 0 rfl rfl 29 (by decide) (hts (.fieldLink RX4 70 "WorstPathsModel" "worst" "[J") (by decide +kernel)) (fun _ h9 => h9) rfl dX4_findWays_125 ?_
                  refine lv_iconst (v := 0) hx hb dX4_findWays_128 (by decide) ?_
                  obtain ⟨hq, h⟩ := h
                  refine va_lald (D := D) hx hb hK hP 20 2 rfl rfl hq dX4_findWays_129 ?_
                  refine lv_lconst (v := 0) hx hb dX4_findWays_130 (by decide) ?_
                  refine W.lcmp hx hb dX4_findWays_131 ?_
                  refine lv_if_lt (tgt := 139) hx hb dX4_findWays_132 (by decide) (fun hc => ?_) (fun hc => ?_)
                  · replace h := h.1 hc
                    refine lv_iconst (v := 0) hx hb dX4_findWays_139 (by decide) ?_
                    refine va_put (D := D) (ci := 4) (v := .int 0) (ty := .boolean) (C := RX4) (T := TX4) (N := 32) hx hb hts hinX4 tyX4 tyX4_ok nmX4 hown hK hP hD hS 0 rfl rfl 26 (by decide) (hts (.fieldLink RX4 167 "WorstPathsModel" "isAnswer" "Z") (by decide +kernel)) (fun _ h9 => h9) rfl (by decide +kernel) rfl rfl (Nat.le_of_ble_eq_true rfl) dX4_findWays_140 (fun H locs hP hD hS => ?_)
                    have hP : va_P D vwCl (wM a cI cZ cJ m_thrown m_sets m_ways m_penalty m_blocks m_edges m_pairs m_lines m_isFresh 0 m_time m_touchMany m_touch m_line m_from m_to m_bound m_pairA m_pairB m_comeTo m_greatest m_least m_nowGreatest m_nowLeast m_does m_mostTime m_leastTime m_countUnit_1 m_flagUnit_1 m_worst_71 m_best_71 m_stack_71) H := hP
                    have hD : va_D A (wM a cI cZ cJ m_thrown m_sets m_ways m_penalty m_blocks m_edges m_pairs m_lines m_isFresh 0 m_time m_touchMany m_touch m_line m_from m_to m_bound m_pairA m_pairB m_comeTo m_greatest m_least m_nowGreatest m_nowLeast m_does m_mostTime m_leastTime m_countUnit_1 m_flagUnit_1 m_worst_71 m_best_71 m_stack_71) := hD
                    refine wz_mono hQz ?_
                    exact W.vret hx hb hr (fun t ht hW => ⟨⟨(0, m_countUnit_1, m_flagUnit_1, m_worst_71, m_best_71, m_stack_71), rfl, h, by rw [ht]; exact hP, va_K.moved hW.alike hK, hD⟩, hS.F ht⟩) hS.2.2 dX4_findWays_143
                  · replace h := h.2 hc
                    refine lv_iconst (v := 1) hx hb dX4_findWays_135 (by decide) ?_
                    refine lv_goto (tgt := 140) hx hb dX4_findWays_136 (by decide) ?_
                    refine va_put (D := D) (ci := 4) (v := .int 1) (ty := .boolean) (C := RX4) (T := TX4) (N := 32) hx hb hts hinX4 tyX4 tyX4_ok nmX4 hown hK hP hD hS 0 rfl rfl 26 (by decide) (hts (.fieldLink RX4 167 "WorstPathsModel" "isAnswer" "Z") (by decide +kernel)) (fun _ h9 => h9) rfl (by decide +kernel) rfl rfl (Nat.le_of_ble_eq_true rfl) dX4_findWays_140 (fun H locs hP hD hS => ?_)
                    have hP : va_P D vwCl (wM a cI cZ cJ m_thrown m_sets m_ways m_penalty m_blocks m_edges m_pairs m_lines m_isFresh 1 m_time m_touchMany m_touch m_line m_from m_to m_bound m_pairA m_pairB m_comeTo m_greatest m_least m_nowGreatest m_nowLeast m_does m_mostTime m_leastTime m_countUnit_1 m_flagUnit_1 m_worst_71 m_best_71 m_stack_71) H := hP
                    have hD : va_D A (wM a cI cZ cJ m_thrown m_sets m_ways m_penalty m_blocks m_edges m_pairs m_lines m_isFresh 1 m_time m_touchMany m_touch m_line m_from m_to m_bound m_pairA m_pairB m_comeTo m_greatest m_least m_nowGreatest m_nowLeast m_does m_mostTime m_leastTime m_countUnit_1 m_flagUnit_1 m_worst_71 m_best_71 m_stack_71) := hD
                    refine wz_mono hQz ?_
                    exact W.vret hx hb hr (fun t ht hW => ⟨⟨(1, m_countUnit_1, m_flagUnit_1, m_worst_71, m_best_71, m_stack_71), rfl, h, by rw [ht]; exact hP, va_K.moved hW.alike hK, hD⟩, hS.F ht⟩) hS.2.2 dX4_findWays_143
                · replace h := h.2 hc
                  refine lv_aload_n hx hb dX4_findWays_75 rfl (lv_at hl 0 rfl) ?_
                  refine lv_aload_n hx hb dX4_findWays_76 rfl (lv_at hl 0 rfl) ?_
                  refine va_get (D := D) (ci := 4) (v := .ref (a 22)) (C := RX4) (T := TX4) (N := 32) hx hb hts hinX4 hown hK hP 0 rfl rfl 31 (by decide) (hts (.fieldLink RX4 77 "WorstPathsModel" "stack" "[I") (by decide +kernel)) (fun _ h9 => h9) rfl dX4_findWays_77 ?_
                  refine lv_iload_n hx hb dX4_findWays_80 rfl (lv_at hl 1 rfl) ?_
                  refine lv_iconst (v := 1) hx hb dX4_findWays_81 (by decide) ?_
                  refine lv_isub hx hb dX4_findWays_82 ?_
                  obtain ⟨hq, h⟩ := h
                  refine va_iald (D := D) hx hb hK hP 22 0 rfl rfl hq dX4_findWays_83 ?_
                  have hF := wz_free hD hS hA
                  refine va_calli (va_runV (As := [.int (m_stack_71 (Int32.toNatClampNeg (v2_71 - 1)))]) (rest := []) ⟨hx, hb, hml, hown, hts⟩ (c_X4_firstUnknown l D a cI cZ cJ _ m_thrown m_sets m_ways m_penalty m_blocks m_edges m_pairs m_lines m_isFresh 0 m_time m_touchMany m_touch m_line m_from m_to m_bound m_pairA m_pairB m_comeTo m_greatest m_least m_nowGreatest m_nowLeast m_does m_mostTime m_leastTime m_countUnit_1 m_flagUnit_1 m_worst_71 m_best_71 m_stack_71 (m_stack_71 (Int32.toNatClampNeg (v2_71 - 1))) _ h) (cwV 1 hts gX4_findWays_X4_firstUnknown rfl rfl rfl (by decide +kernel) ⟨Nat.le_of_ble_eq_true rfl, Nat.le_of_ble_eq_true rfl⟩) ⟨wz_blind, va_recv hK hP (ci := 4) (q0 := 0) rfl rfl, fun U hU hW => wz_at hU hW hP hK hD⟩ rfl rfl hl.1 rfl (lv_room (Nat.le_of_ble_eq_true rfl)) dX4_findWays_84 ⟨Nat.zero_le _, Nat.zero_le _⟩) hS (fun q _ hq => hF q hq) hF (fun r_84 u t H locs ht hvm h hB hz1 hk1 hS => ?_)
                  obtain ⟨hP, -, hD⟩ := wz_back ht hF hB
                  have hP : va_P D vwCl (wM a cI cZ cJ m_thrown m_sets m_ways m_penalty m_blocks m_edges m_pairs m_lines m_isFresh 0 m_time m_touchMany m_touch m_line m_from m_to m_bound m_pairA m_pairB m_comeTo m_greatest m_least m_nowGreatest m_nowLeast m_does m_mostTime m_leastTime m_countUnit_1 m_flagUnit_1 m_worst_71 m_best_71 m_stack_71) H := hP
                  have hD : va_D A (wM a cI cZ cJ m_thrown m_sets m_ways m_penalty m_blocks m_edges m_pairs m_lines m_isFresh 0 m_time m_touchMany m_touch m_line m_from m_to m_bound m_pairA m_pairB m_comeTo m_greatest m_least m_nowGreatest m_nowLeast m_does m_mostTime m_leastTime m_countUnit_1 m_flagUnit_1 m_worst_71 m_best_71 m_stack_71) := hD
                  refine lv_istore_n (lv' := [(3, .int r_84), (0, .ref (a 0)), (2, .int v2_71)]) hx hb dX4_findWays_87 rfl hl (by decide) rfl (fun ls hl => ?_)
                  refine lv_iload_n hx hb dX4_findWays_88 rfl (lv_at hl 0 rfl) ?_
                  refine lv_if_lt (tgt := 105) hx hb dX4_findWays_89 (by decide) (fun hc => ?_) (fun hc => ?_)
                  · replace h := h.1 hc
                    refine lv_aload_n hx hb dX4_findWays_105 rfl (lv_at hl 1 rfl) ?_
                    refine lv_aload_n hx hb dX4_findWays_106 rfl (lv_at hl 1 rfl) ?_
                    refine va_get (D := D) (ci := 4) (v := .ref (a 22)) (C := RX4) (T := TX4) (N := 32) hx hb hts hinX4 hown hK hP 0 rfl rfl 31 (by decide) (hts (.fieldLink RX4 77 "WorstPathsModel" "stack" "[I") (by decide +kernel)) (fun _ h9 => h9) rfl dX4_findWays_107 ?_
                    refine lv_iload_n hx hb dX4_findWays_110 rfl (lv_at hl 2 rfl) ?_
                    refine lv_iconst (v := 1) hx hb dX4_findWays_111 (by decide) ?_
                    refine lv_isub hx hb dX4_findWays_112 ?_
                    obtain ⟨hq, h⟩ := h
                    refine va_iald (D := D) hx hb hK hP 22 0 rfl rfl hq dX4_findWays_113 ?_
                    have hF := wz_free hD hS hA
                    refine va_callv (va_runV (As := [.int (m_stack_71 (Int32.toNatClampNeg (v2_71 - 1)))]) (rest := []) ⟨hx, hb, hml, hown, hts⟩ (c_X4_workOut l D a cI cZ cJ _ m_thrown m_sets m_ways m_penalty m_blocks m_edges m_pairs m_lines m_isFresh 0 m_time m_touchMany m_touch m_line m_from m_to m_bound m_pairA m_pairB m_comeTo m_greatest m_least m_nowGreatest m_nowLeast m_does m_mostTime m_leastTime m_countUnit_1 m_flagUnit_1 m_worst_71 m_best_71 m_stack_71 (m_stack_71 (Int32.toNatClampNeg (v2_71 - 1))) _ h) (cwV 1 hts gX4_findWays_X4_workOut rfl rfl rfl (by decide +kernel) ⟨Nat.le_of_ble_eq_true rfl, Nat.le_of_ble_eq_true rfl⟩) ⟨wz_blind, va_recv hK hP (ci := 4) (q0 := 0) rfl rfl, fun U hU hW => wz_at hU hW hP hK hD⟩ rfl rfl hl.1 rfl (lv_room (Nat.le_of_ble_eq_true rfl)) dX4_findWays_114 ⟨Nat.zero_le _, Nat.zero_le _⟩) hS (fun q _ hq => hF q hq) hF (fun u t H locs ht hvm h hB hz1 hk1 hS => ?_)
                    obtain ⟨m_worst_114, m_best_114⟩ := u
                    dsimp only at h hB
                    obtain ⟨hP, -, hD⟩ := wz_back ht hF hB
                    have hP : va_P D vwCl (wM a cI cZ cJ m_thrown m_sets m_ways m_penalty m_blocks m_edges m_pairs m_lines m_isFresh 0 m_time m_touchMany m_touch m_line m_from m_to m_bound m_pairA m_pairB m_comeTo m_greatest m_least m_nowGreatest m_nowLeast m_does m_mostTime m_leastTime m_countUnit_1 m_flagUnit_1 m_worst_114 m_best_114 m_stack_71) H := hP
                    have hD : va_D A (wM a cI cZ cJ m_thrown m_sets m_ways m_penalty m_blocks m_edges m_pairs m_lines m_isFresh 0 m_time m_touchMany m_touch m_line m_from m_to m_bound m_pairA m_pairB m_comeTo m_greatest m_least m_nowGreatest m_nowLeast m_does m_mostTime m_leastTime m_countUnit_1 m_flagUnit_1 m_worst_114 m_best_114 m_stack_71) := hD
                    refine lv_iinc (v := (v2_71 + (-1))) (lv' := [(2, .int (v2_71 + (-1))), (3, .int r_84), (0, .ref (a 0))]) hx hb dX4_findWays_117 hl (k := 2) rfl rfl (by decide) rfl (fun ls hl => ?_)
                    refine lv_goto (tgt := 71) hx hb dX4_findWays_120 (by decide) ?_
                    exact ih71 (v2_71 + (-1)) m_worst_114 m_best_114 m_stack_71 h _ _ hP hD hS _ (lv_sub hl [2, 0] rfl)
                  · replace h := h.2 hc
                    refine lv_aload_n hx hb dX4_findWays_92 rfl (lv_at hl 1 rfl) ?_
                    refine va_get (D := D) (ci := 4) (v := .ref (a 22)) (C := RX4) (T := TX4) (N := 32) hx hb hts hinX4 hown hK hP 0 rfl rfl 31 (by decide) (hts (.fieldLink RX4 77 "WorstPathsModel" "stack" "[I") (by decide +kernel)) (fun _ h9 => h9) rfl dX4_findWays_93 ?_
                    refine lv_iload_n hx hb dX4_findWays_96 rfl (lv_at hl 2 rfl) ?_
                    refine lv_iload_n hx hb dX4_findWays_97 rfl (lv_at hl 0 rfl) ?_
                    obtain ⟨hq, h⟩ := h
                    refine va_iast (D := D) hx hb hK hP hD hS 22 0 rfl rfl hq dX4_findWays_98 (fun H locs hP hD hS => ?_)
                    have hP : va_P D vwCl (wM a cI cZ cJ m_thrown m_sets m_ways m_penalty m_blocks m_edges m_pairs m_lines m_isFresh 0 m_time m_touchMany m_touch m_line m_from m_to m_bound m_pairA m_pairB m_comeTo m_greatest m_least m_nowGreatest m_nowLeast m_does m_mostTime m_leastTime m_countUnit_1 m_flagUnit_1 m_worst_71 m_best_71 (upd m_stack_71 (Int32.toNatClampNeg v2_71) r_84)) H := hP
                    have hD : va_D A (wM a cI cZ cJ m_thrown m_sets m_ways m_penalty m_blocks m_edges m_pairs m_lines m_isFresh 0 m_time m_touchMany m_touch m_line m_from m_to m_bound m_pairA m_pairB m_comeTo m_greatest m_least m_nowGreatest m_nowLeast m_does m_mostTime m_leastTime m_countUnit_1 m_flagUnit_1 m_worst_71 m_best_71 (upd m_stack_71 (Int32.toNatClampNeg v2_71) r_84)) := hD
                    refine lv_iinc (v := (v2_71 + 1)) (lv' := [(2, .int (v2_71 + 1)), (3, .int r_84), (0, .ref (a 0))]) hx hb dX4_findWays_99 hl (k := 2) rfl rfl (by decide) rfl (fun ls hl => ?_)
                    refine lv_goto (tgt := 120) hx hb dX4_findWays_102 (by decide) ?_
                    refine lv_goto (tgt := 71) hx hb dX4_findWays_120 (by decide) ?_
                    exact ih71 (v2_71 + 1) m_worst_71 m_best_71 (upd m_stack_71 (Int32.toNatClampNeg v2_71) r_84) h _ _ hP hD hS _ (lv_sub hl [2, 0] rfl)
            obtain ⟨k9, h⟩ := h
            exact LP71 k9 1 m_worst_42 m_best (upd m_stack (Int32.toNatClampNeg 0) 0) h _ _ hP hD hS _ (lv_sub hl [1, 0] rfl)
          · replace h := h.2 hc
            refine lv_aload_n hx hb dX4_findWays_47 rfl (lv_at hl 0 rfl) ?_
            refine va_get (D := D) (ci := 4) (v := .ref (a 20)) (C := RX4) (T := TX4) (N := 32) hx hb hts hinX4 hown hK hP 0 rfl rfl 29 (by decide) (hts (.fieldLink RX4 70 "WorstPathsModel" "worst" "[J") (by decide +kernel)) (fun _ h9 => h9) rfl dX4_findWays_48 ?_
            refine lv_iload_n hx hb dX4_findWays_51 rfl (lv_at hl 2 rfl) ?_
            refine lv_ldc2 (v := (-2)) hx hb hown (hts (.constantLong RX4 152 ((-2))) (by decide +kernel)) dX4_findWays_52 ?_
            obtain ⟨hq, h⟩ := h
            refine va_last (D := D) hx hb hK hP hD hS 20 2 rfl rfl hq dX4_findWays_55 (fun H locs hP hD hS => ?_)
            have hP : va_P D vwCl (wM a cI cZ cJ m_thrown m_sets m_ways m_penalty m_blocks m_edges m_pairs m_lines m_isFresh 0 m_time m_touchMany m_touch m_line m_from m_to m_bound m_pairA m_pairB m_comeTo m_greatest m_least m_nowGreatest m_nowLeast m_does m_mostTime m_leastTime m_countUnit_1 m_flagUnit_1 (vp_updL m_worst_42 (Int32.toNatClampNeg v2_42) (-2)) m_best m_stack) H := hP
            have hD : va_D A (wM a cI cZ cJ m_thrown m_sets m_ways m_penalty m_blocks m_edges m_pairs m_lines m_isFresh 0 m_time m_touchMany m_touch m_line m_from m_to m_bound m_pairA m_pairB m_comeTo m_greatest m_least m_nowGreatest m_nowLeast m_does m_mostTime m_leastTime m_countUnit_1 m_flagUnit_1 (vp_updL m_worst_42 (Int32.toNatClampNeg v2_42) (-2)) m_best m_stack) := hD
            refine lv_iinc (v := (v2_42 + 1)) (lv' := [(2, .int (v2_42 + 1)), (0, .ref (a 0)), (1, .int r_1)]) hx hb dX4_findWays_56 hl (k := 2) rfl rfl (by decide) rfl (fun ls hl => ?_)
            refine lv_goto (tgt := 42) hx hb dX4_findWays_59 (by decide) ?_
            exact ih42 (v2_42 + 1) (vp_updL m_worst_42 (Int32.toNatClampNeg v2_42) (-2)) h _ _ hP hD hS _ (lv_sub hl [1, 2, 0] rfl)
      obtain ⟨k9, h⟩ := h
      exact LP42 k9 0 m_worst h _ _ hP hD hS _ (lv_sub hl [2, 1, 0] rfl)
    · replace h := h.2 hc
      refine wz_mono hQz ?_
      exact W.vret hx hb hr (fun t ht hW => ⟨⟨(0, m_countUnit_1, m_flagUnit_1, m_worst, m_best, m_stack), rfl, h, by rw [ht]; exact hP, va_K.moved hW.alike hK, hD⟩, hS.F ht⟩) hS.2.2 dX4_findWays_39
  · replace h := h.2 hc
    refine lv_iload_n hx hb dX4_findWays_13 rfl (lv_at hl 0 rfl) ?_
    refine lv_if_le (tgt := 28) hx hb dX4_findWays_14 (by decide) (fun hc => ?_) (fun hc => ?_)
    · replace h := h.1 hc
      refine lv_iconst (v := 0) hx hb dX4_findWays_28 (by decide) ?_
      refine va_put (D := D) (ci := 4) (v := .int 0) (ty := .boolean) (C := RX4) (T := TX4) (N := 32) hx hb hts hinX4 tyX4 tyX4_ok nmX4 hown hK hP hD hS 0 rfl rfl 26 (by decide) (hts (.fieldLink RX4 167 "WorstPathsModel" "isAnswer" "Z") (by decide +kernel)) (fun _ h9 => h9) rfl (by decide +kernel) rfl rfl (Nat.le_of_ble_eq_true rfl) dX4_findWays_29 (fun H locs hP hD hS => ?_)
      have hP : va_P D vwCl (wM a cI cZ cJ m_thrown m_sets m_ways m_penalty m_blocks m_edges m_pairs m_lines m_isFresh 0 m_time m_touchMany m_touch m_line m_from m_to m_bound m_pairA m_pairB m_comeTo m_greatest m_least m_nowGreatest m_nowLeast m_does m_mostTime m_leastTime m_countUnit_1 m_flagUnit_1 m_worst m_best m_stack) H := hP
      have hD : va_D A (wM a cI cZ cJ m_thrown m_sets m_ways m_penalty m_blocks m_edges m_pairs m_lines m_isFresh 0 m_time m_touchMany m_touch m_line m_from m_to m_bound m_pairA m_pairB m_comeTo m_greatest m_least m_nowGreatest m_nowLeast m_does m_mostTime m_leastTime m_countUnit_1 m_flagUnit_1 m_worst m_best m_stack) := hD
      refine lv_aload_n hx hb dX4_findWays_32 rfl (lv_at hl 1 rfl) ?_
      refine va_get (D := D) (ci := 4) (v := .int 0) (C := RX4) (T := TX4) (N := 32) hx hb hts hinX4 hown hK hP 0 rfl rfl 26 (by decide) (hts (.fieldLink RX4 167 "WorstPathsModel" "isAnswer" "Z") (by decide +kernel)) (fun _ h9 => h9) rfl dX4_findWays_33 ?_
      refine lv_if_ne (tgt := 40) hx hb dX4_findWays_36 (by decide) (fun hc => ?_) (fun hc => ?_)
      · replace h := h.1 hc
        refine lv_iconst (v := 0) hx hb dX4_findWays_40 (by decide) ?_
        refine lv_istore_n (lv' := [(2, .int 0), (1, .int r_1), (0, .ref (a 0))]) hx hb dX4_findWays_41 rfl hl (by decide) rfl (fun ls hl => ?_)
        have LP42 : ∀ (n42 : Nat) (v2_42 : Int32) (m_worst_42 : Nat → Int64), lp_X4_findWays_42 r_1 m_blocks m_edges m_pairs 0 m_from m_to m_bound m_pairA m_pairB m_comeTo m_mostTime m_leastTime m_countUnit_1 m_flagUnit_1 m_best m_stack Q n42 v2_42 m_worst_42 → ∀ (H : Heap) (locs : List Loc), va_P D vwCl (wM a cI cZ cJ m_thrown m_sets m_ways m_penalty m_blocks m_edges m_pairs m_lines m_isFresh 0 m_time m_touchMany m_touch m_line m_from m_to m_bound m_pairA m_pairB m_comeTo m_greatest m_least m_nowGreatest m_nowLeast m_does m_mostTime m_leastTime m_countUnit_1 m_flagUnit_1 m_worst_42 m_best m_stack) H → va_D A (wM a cI cZ cJ m_thrown m_sets m_ways m_penalty m_blocks m_edges m_pairs m_lines m_isFresh 0 m_time m_touchMany m_touch m_line m_from m_to m_bound m_pairA m_pairB m_comeTo m_greatest m_least m_nowGreatest m_nowLeast m_does m_mostTime m_leastTime m_countUnit_1 m_flagUnit_1 m_worst_42 m_best m_stack) → va_S A s.heap H locs → ∀ (ls : Array Slot), lv_has ls 4 [(0, .ref (a 0)), (1, .int r_1), (2, .int v2_42)] → W p l e (headSpec wsX4_findWays rm_X4_findWays).room s m ([Value.ref (a 0)] : List Value).toArray below meth c H locs 0 0 Qz (F0 m 42 ls []) := by
          intro n42
          induction n42 with
          | zero => intro v2_42 m_worst_42 h; exact h.elim
          | succ n42 ih42 =>
            intro v2_42 m_worst_42 h H locs hP hD hS ls hl
            unfold lp_X4_findWays_42 at h
            refine lv_iload_n hx hb dX4_findWays_42 rfl (lv_at hl 2 rfl) ?_
            refine lv_iload_n hx hb dX4_findWays_43 rfl (lv_at hl 1 rfl) ?_
            refine lv_icmp_ge (tgt := 62) hx hb dX4_findWays_44 (by decide) (fun hc => ?_) (fun hc => ?_)
            · replace h := h.1 hc
              refine lv_iconst (v := 1) hx hb dX4_findWays_62 (by decide) ?_
              refine lv_istore_n (lv' := [(2, .int 1), (0, .ref (a 0)), (1, .int r_1)]) hx hb dX4_findWays_63 rfl hl (by decide) rfl (fun ls hl => ?_)
              refine lv_aload_n hx hb dX4_findWays_64 rfl (lv_at hl 1 rfl) ?_
              refine va_get (D := D) (ci := 4) (v := .ref (a 22)) (C := RX4) (T := TX4) (N := 32) hx hb hts hinX4 hown hK hP 0 rfl rfl 31 (by decide) (hts (.fieldLink RX4 77 "WorstPathsModel" "stack" "[I") (by decide +kernel)) (fun _ h9 => h9) rfl dX4_findWays_65 ?_
              refine lv_iconst (v := 0) hx hb dX4_findWays_68 (by decide) ?_
              refine lv_iconst (v := 0) hx hb dX4_findWays_69 (by decide) ?_
              obtain ⟨hq, h⟩ := h
              refine va_iast (D := D) hx hb hK hP hD hS 22 0 rfl rfl hq dX4_findWays_70 (fun H locs hP hD hS => ?_)
              have hP : va_P D vwCl (wM a cI cZ cJ m_thrown m_sets m_ways m_penalty m_blocks m_edges m_pairs m_lines m_isFresh 0 m_time m_touchMany m_touch m_line m_from m_to m_bound m_pairA m_pairB m_comeTo m_greatest m_least m_nowGreatest m_nowLeast m_does m_mostTime m_leastTime m_countUnit_1 m_flagUnit_1 m_worst_42 m_best (upd m_stack (Int32.toNatClampNeg 0) 0)) H := hP
              have hD : va_D A (wM a cI cZ cJ m_thrown m_sets m_ways m_penalty m_blocks m_edges m_pairs m_lines m_isFresh 0 m_time m_touchMany m_touch m_line m_from m_to m_bound m_pairA m_pairB m_comeTo m_greatest m_least m_nowGreatest m_nowLeast m_does m_mostTime m_leastTime m_countUnit_1 m_flagUnit_1 m_worst_42 m_best (upd m_stack (Int32.toNatClampNeg 0) 0)) := hD
              have LP71 : ∀ (n71 : Nat) (v2_71 : Int32) (m_worst_71 : Nat → Int64) (m_best_71 : Nat → Int64) (m_stack_71 : Nat → Int32), lp_X4_findWays_71 m_blocks m_edges m_pairs 0 m_from m_to m_bound m_pairA m_pairB m_comeTo m_mostTime m_leastTime m_countUnit_1 m_flagUnit_1 Q n71 v2_71 m_worst_71 m_best_71 m_stack_71 → ∀ (H : Heap) (locs : List Loc), va_P D vwCl (wM a cI cZ cJ m_thrown m_sets m_ways m_penalty m_blocks m_edges m_pairs m_lines m_isFresh 0 m_time m_touchMany m_touch m_line m_from m_to m_bound m_pairA m_pairB m_comeTo m_greatest m_least m_nowGreatest m_nowLeast m_does m_mostTime m_leastTime m_countUnit_1 m_flagUnit_1 m_worst_71 m_best_71 m_stack_71) H → va_D A (wM a cI cZ cJ m_thrown m_sets m_ways m_penalty m_blocks m_edges m_pairs m_lines m_isFresh 0 m_time m_touchMany m_touch m_line m_from m_to m_bound m_pairA m_pairB m_comeTo m_greatest m_least m_nowGreatest m_nowLeast m_does m_mostTime m_leastTime m_countUnit_1 m_flagUnit_1 m_worst_71 m_best_71 m_stack_71) → va_S A s.heap H locs → ∀ (ls : Array Slot), lv_has ls 4 [(0, .ref (a 0)), (2, .int v2_71)] → W p l e (headSpec wsX4_findWays rm_X4_findWays).room s m ([Value.ref (a 0)] : List Value).toArray below meth c H locs 0 0 Qz (F0 m 71 ls []) := by
                intro n71
                induction n71 with
                | zero => intro v2_71 m_worst_71 m_best_71 m_stack_71 h; exact h.elim
                | succ n71 ih71 =>
                  intro v2_71 m_worst_71 m_best_71 m_stack_71 h H locs hP hD hS ls hl
                  unfold lp_X4_findWays_71 at h
                  refine lv_iload_n hx hb dX4_findWays_71 rfl (lv_at hl 1 rfl) ?_
                  refine lv_if_le (tgt := 123) hx hb dX4_findWays_72 (by decide) (fun hc => ?_) (fun hc => ?_)
                  · replace h := h.1 hc
                    refine lv_aload_n hx hb dX4_findWays_123 rfl (lv_at hl 0 rfl) ?_
                    refine lv_aload_n hx hb dX4_findWays_124 rfl (lv_at hl 0 rfl) ?_
                    refine va_get (D := D) (ci := 4) (v := .ref (a 20)) (C := RX4) (T := TX4) (N := 32) hx hb hts hinX4 hown hK hP 0 rfl rfl 29 (by decide) (hts (.fieldLink RX4 70 "WorstPathsModel" "worst" "[J") (by decide +kernel)) (fun _ h9 => h9) rfl dX4_findWays_125 ?_
                    refine lv_iconst (v := 0) hx hb dX4_findWays_128 (by decide) ?_
                    obtain ⟨hq, h⟩ := h
                    refine va_lald (D := D) hx hb hK hP 20 2 rfl rfl hq dX4_findWays_129 ?_
                    refine lv_lconst (v := 0) hx hb dX4_findWays_130 (by decide) ?_
                    refine W.lcmp hx hb dX4_findWays_131 ?_
                    refine lv_if_lt (tgt := 139) hx hb dX4_findWays_132 (by decide) (fun hc => ?_) (fun hc => ?_)
                    · replace h := h.1 hc
                      refine lv_iconst (v := 0) hx hb dX4_findWays_139 (by decide) ?_
                      refine va_put (D := D) (ci := 4) (v := .int 0) (ty := .boolean) (C := RX4) (T := TX4) (N := 32) hx hb hts hinX4 tyX4 tyX4_ok nmX4 hown hK hP hD hS 0 rfl rfl 26 (by decide) (hts (.fieldLink RX4 167 "WorstPathsModel" "isAnswer" "Z") (by decide +kernel)) (fun _ h9 => h9) rfl (by decide +kernel) rfl rfl (Nat.le_of_ble_eq_true rfl) dX4_findWays_140 (fun H locs hP hD hS => ?_)
                      have hP : va_P D vwCl (wM a cI cZ cJ m_thrown m_sets m_ways m_penalty m_blocks m_edges m_pairs m_lines m_isFresh 0 m_time m_touchMany m_touch m_line m_from m_to m_bound m_pairA m_pairB m_comeTo m_greatest m_least m_nowGreatest m_nowLeast m_does m_mostTime m_leastTime m_countUnit_1 m_flagUnit_1 m_worst_71 m_best_71 m_stack_71) H := hP
                      have hD : va_D A (wM a cI cZ cJ m_thrown m_sets m_ways m_penalty m_blocks m_edges m_pairs m_lines m_isFresh 0 m_time m_touchMany m_touch m_line m_from m_to m_bound m_pairA m_pairB m_comeTo m_greatest m_least m_nowGreatest m_nowLeast m_does m_mostTime m_leastTime m_countUnit_1 m_flagUnit_1 m_worst_71 m_best_71 m_stack_71) := hD
                      refine wz_mono hQz ?_
                      exact W.vret hx hb hr (fun t ht hW => ⟨⟨(0, m_countUnit_1, m_flagUnit_1, m_worst_71, m_best_71, m_stack_71), rfl, h, by rw [ht]; exact hP, va_K.moved hW.alike hK, hD⟩, hS.F ht⟩) hS.2.2 dX4_findWays_143
                    · replace h := h.2 hc
                      refine lv_iconst (v := 1) hx hb dX4_findWays_135 (by decide) ?_
                      refine lv_goto (tgt := 140) hx hb dX4_findWays_136 (by decide) ?_
                      refine va_put (D := D) (ci := 4) (v := .int 1) (ty := .boolean) (C := RX4) (T := TX4) (N := 32) hx hb hts hinX4 tyX4 tyX4_ok nmX4 hown hK hP hD hS 0 rfl rfl 26 (by decide) (hts (.fieldLink RX4 167 "WorstPathsModel" "isAnswer" "Z") (by decide +kernel)) (fun _ h9 => h9) rfl (by decide +kernel) rfl rfl (Nat.le_of_ble_eq_true rfl) dX4_findWays_140 (fun H locs hP hD hS => ?_)
                      have hP : va_P D vwCl (wM a cI cZ cJ m_thrown m_sets m_ways m_penalty m_blocks m_edges m_pairs m_lines m_isFresh 1 m_time m_touchMany m_touch m_line m_from m_to m_bound m_pairA m_pairB m_comeTo m_greatest m_least m_nowGreatest m_nowLeast m_does m_mostTime m_leastTime m_countUnit_1 m_flagUnit_1 m_worst_71 m_best_71 m_stack_71) H := hP
                      have hD : va_D A (wM a cI cZ cJ m_thrown m_sets m_ways m_penalty m_blocks m_edges m_pairs m_lines m_isFresh 1 m_time m_touchMany m_touch m_line m_from m_to m_bound m_pairA m_pairB m_comeTo m_greatest m_least m_nowGreatest m_nowLeast m_does m_mostTime m_leastTime m_countUnit_1 m_flagUnit_1 m_worst_71 m_best_71 m_stack_71) := hD
                      refine wz_mono hQz ?_
                      exact W.vret hx hb hr (fun t ht hW => ⟨⟨(1, m_countUnit_1, m_flagUnit_1, m_worst_71, m_best_71, m_stack_71), rfl, h, by rw [ht]; exact hP, va_K.moved hW.alike hK, hD⟩, hS.F ht⟩) hS.2.2 dX4_findWays_143
                  · replace h := h.2 hc
                    refine lv_aload_n hx hb dX4_findWays_75 rfl (lv_at hl 0 rfl) ?_
                    refine lv_aload_n hx hb dX4_findWays_76 rfl (lv_at hl 0 rfl) ?_
                    refine va_get (D := D) (ci := 4) (v := .ref (a 22)) (C := RX4) (T := TX4) (N := 32) hx hb hts hinX4 hown hK hP 0 rfl rfl 31 (by decide) (hts (.fieldLink RX4 77 "WorstPathsModel" "stack" "[I") (by decide +kernel)) (fun _ h9 => h9) rfl dX4_findWays_77 ?_
                    refine lv_iload_n hx hb dX4_findWays_80 rfl (lv_at hl 1 rfl) ?_
                    refine lv_iconst (v := 1) hx hb dX4_findWays_81 (by decide) ?_
                    refine lv_isub hx hb dX4_findWays_82 ?_
                    obtain ⟨hq, h⟩ := h
                    refine va_iald (D := D) hx hb hK hP 22 0 rfl rfl hq dX4_findWays_83 ?_
                    have hF := wz_free hD hS hA
                    refine va_calli (va_runV (As := [.int (m_stack_71 (Int32.toNatClampNeg (v2_71 - 1)))]) (rest := []) ⟨hx, hb, hml, hown, hts⟩ (c_X4_firstUnknown l D a cI cZ cJ _ m_thrown m_sets m_ways m_penalty m_blocks m_edges m_pairs m_lines m_isFresh 0 m_time m_touchMany m_touch m_line m_from m_to m_bound m_pairA m_pairB m_comeTo m_greatest m_least m_nowGreatest m_nowLeast m_does m_mostTime m_leastTime m_countUnit_1 m_flagUnit_1 m_worst_71 m_best_71 m_stack_71 (m_stack_71 (Int32.toNatClampNeg (v2_71 - 1))) _ h) (cwV 1 hts gX4_findWays_X4_firstUnknown rfl rfl rfl (by decide +kernel) ⟨Nat.le_of_ble_eq_true rfl, Nat.le_of_ble_eq_true rfl⟩) ⟨wz_blind, va_recv hK hP (ci := 4) (q0 := 0) rfl rfl, fun U hU hW => wz_at hU hW hP hK hD⟩ rfl rfl hl.1 rfl (lv_room (Nat.le_of_ble_eq_true rfl)) dX4_findWays_84 ⟨Nat.zero_le _, Nat.zero_le _⟩) hS (fun q _ hq => hF q hq) hF (fun r_84 u t H locs ht hvm h hB hz1 hk1 hS => ?_)
                    obtain ⟨hP, -, hD⟩ := wz_back ht hF hB
                    have hP : va_P D vwCl (wM a cI cZ cJ m_thrown m_sets m_ways m_penalty m_blocks m_edges m_pairs m_lines m_isFresh 0 m_time m_touchMany m_touch m_line m_from m_to m_bound m_pairA m_pairB m_comeTo m_greatest m_least m_nowGreatest m_nowLeast m_does m_mostTime m_leastTime m_countUnit_1 m_flagUnit_1 m_worst_71 m_best_71 m_stack_71) H := hP
                    have hD : va_D A (wM a cI cZ cJ m_thrown m_sets m_ways m_penalty m_blocks m_edges m_pairs m_lines m_isFresh 0 m_time m_touchMany m_touch m_line m_from m_to m_bound m_pairA m_pairB m_comeTo m_greatest m_least m_nowGreatest m_nowLeast m_does m_mostTime m_leastTime m_countUnit_1 m_flagUnit_1 m_worst_71 m_best_71 m_stack_71) := hD
                    refine lv_istore_n (lv' := [(3, .int r_84), (0, .ref (a 0)), (2, .int v2_71)]) hx hb dX4_findWays_87 rfl hl (by decide) rfl (fun ls hl => ?_)
                    refine lv_iload_n hx hb dX4_findWays_88 rfl (lv_at hl 0 rfl) ?_
                    refine lv_if_lt (tgt := 105) hx hb dX4_findWays_89 (by decide) (fun hc => ?_) (fun hc => ?_)
                    · replace h := h.1 hc
                      refine lv_aload_n hx hb dX4_findWays_105 rfl (lv_at hl 1 rfl) ?_
                      refine lv_aload_n hx hb dX4_findWays_106 rfl (lv_at hl 1 rfl) ?_
                      refine va_get (D := D) (ci := 4) (v := .ref (a 22)) (C := RX4) (T := TX4) (N := 32) hx hb hts hinX4 hown hK hP 0 rfl rfl 31 (by decide) (hts (.fieldLink RX4 77 "WorstPathsModel" "stack" "[I") (by decide +kernel)) (fun _ h9 => h9) rfl dX4_findWays_107 ?_
                      refine lv_iload_n hx hb dX4_findWays_110 rfl (lv_at hl 2 rfl) ?_
                      refine lv_iconst (v := 1) hx hb dX4_findWays_111 (by decide) ?_
                      refine lv_isub hx hb dX4_findWays_112 ?_
                      obtain ⟨hq, h⟩ := h
                      refine va_iald (D := D) hx hb hK hP 22 0 rfl rfl hq dX4_findWays_113 ?_
                      have hF := wz_free hD hS hA
                      refine va_callv (va_runV (As := [.int (m_stack_71 (Int32.toNatClampNeg (v2_71 - 1)))]) (rest := []) ⟨hx, hb, hml, hown, hts⟩ (c_X4_workOut l D a cI cZ cJ _ m_thrown m_sets m_ways m_penalty m_blocks m_edges m_pairs m_lines m_isFresh 0 m_time m_touchMany m_touch m_line m_from m_to m_bound m_pairA m_pairB m_comeTo m_greatest m_least m_nowGreatest m_nowLeast m_does m_mostTime m_leastTime m_countUnit_1 m_flagUnit_1 m_worst_71 m_best_71 m_stack_71 (m_stack_71 (Int32.toNatClampNeg (v2_71 - 1))) _ h) (cwV 1 hts gX4_findWays_X4_workOut rfl rfl rfl (by decide +kernel) ⟨Nat.le_of_ble_eq_true rfl, Nat.le_of_ble_eq_true rfl⟩) ⟨wz_blind, va_recv hK hP (ci := 4) (q0 := 0) rfl rfl, fun U hU hW => wz_at hU hW hP hK hD⟩ rfl rfl hl.1 rfl (lv_room (Nat.le_of_ble_eq_true rfl)) dX4_findWays_114 ⟨Nat.zero_le _, Nat.zero_le _⟩) hS (fun q _ hq => hF q hq) hF (fun u t H locs ht hvm h hB hz1 hk1 hS => ?_)
                      obtain ⟨m_worst_114, m_best_114⟩ := u
                      dsimp only at h hB
                      obtain ⟨hP, -, hD⟩ := wz_back ht hF hB
                      have hP : va_P D vwCl (wM a cI cZ cJ m_thrown m_sets m_ways m_penalty m_blocks m_edges m_pairs m_lines m_isFresh 0 m_time m_touchMany m_touch m_line m_from m_to m_bound m_pairA m_pairB m_comeTo m_greatest m_least m_nowGreatest m_nowLeast m_does m_mostTime m_leastTime m_countUnit_1 m_flagUnit_1 m_worst_114 m_best_114 m_stack_71) H := hP
                      have hD : va_D A (wM a cI cZ cJ m_thrown m_sets m_ways m_penalty m_blocks m_edges m_pairs m_lines m_isFresh 0 m_time m_touchMany m_touch m_line m_from m_to m_bound m_pairA m_pairB m_comeTo m_greatest m_least m_nowGreatest m_nowLeast m_does m_mostTime m_leastTime m_countUnit_1 m_flagUnit_1 m_worst_114 m_best_114 m_stack_71) := hD
                      refine lv_iinc (v := (v2_71 + (-1))) (lv' := [(2, .int (v2_71 + (-1))), (3, .int r_84), (0, .ref (a 0))]) hx hb dX4_findWays_117 hl (k := 2) rfl rfl (by decide) rfl (fun ls hl => ?_)
                      refine lv_goto (tgt := 71) hx hb dX4_findWays_120 (by decide) ?_
                      exact ih71 (v2_71 + (-1)) m_worst_114 m_best_114 m_stack_71 h _ _ hP hD hS _ (lv_sub hl [2, 0] rfl)
                    · replace h := h.2 hc
                      refine lv_aload_n hx hb dX4_findWays_92 rfl (lv_at hl 1 rfl) ?_
                      refine va_get (D := D) (ci := 4) (v := .ref (a 22)) (C := RX4) (T := TX4) (N := 32) hx hb hts hinX4 hown hK hP 0 rfl rfl 31 (by decide) (hts (.fieldLink RX4 77 "WorstPathsModel" "stack" "[I") (by decide +kernel)) (fun _ h9 => h9) rfl dX4_findWays_93 ?_
                      refine lv_iload_n hx hb dX4_findWays_96 rfl (lv_at hl 2 rfl) ?_
                      refine lv_iload_n hx hb dX4_findWays_97 rfl (lv_at hl 0 rfl) ?_
                      obtain ⟨hq, h⟩ := h
                      refine va_iast (D := D) hx hb hK hP hD hS 22 0 rfl rfl hq dX4_findWays_98 (fun H locs hP hD hS => ?_)
                      have hP : va_P D vwCl (wM a cI cZ cJ m_thrown m_sets m_ways m_penalty m_blocks m_edges m_pairs m_lines m_isFresh 0 m_time m_touchMany m_touch m_line m_from m_to m_bound m_pairA m_pairB m_comeTo m_greatest m_least m_nowGreatest m_nowLeast m_does m_mostTime m_leastTime m_countUnit_1 m_flagUnit_1 m_worst_71 m_best_71 (upd m_stack_71 (Int32.toNatClampNeg v2_71) r_84)) H := hP
                      have hD : va_D A (wM a cI cZ cJ m_thrown m_sets m_ways m_penalty m_blocks m_edges m_pairs m_lines m_isFresh 0 m_time m_touchMany m_touch m_line m_from m_to m_bound m_pairA m_pairB m_comeTo m_greatest m_least m_nowGreatest m_nowLeast m_does m_mostTime m_leastTime m_countUnit_1 m_flagUnit_1 m_worst_71 m_best_71 (upd m_stack_71 (Int32.toNatClampNeg v2_71) r_84)) := hD
                      refine lv_iinc (v := (v2_71 + 1)) (lv' := [(2, .int (v2_71 + 1)), (3, .int r_84), (0, .ref (a 0))]) hx hb dX4_findWays_99 hl (k := 2) rfl rfl (by decide) rfl (fun ls hl => ?_)
                      refine lv_goto (tgt := 120) hx hb dX4_findWays_102 (by decide) ?_
                      refine lv_goto (tgt := 71) hx hb dX4_findWays_120 (by decide) ?_
                      exact ih71 (v2_71 + 1) m_worst_71 m_best_71 (upd m_stack_71 (Int32.toNatClampNeg v2_71) r_84) h _ _ hP hD hS _ (lv_sub hl [2, 0] rfl)
              obtain ⟨k9, h⟩ := h
              exact LP71 k9 1 m_worst_42 m_best (upd m_stack (Int32.toNatClampNeg 0) 0) h _ _ hP hD hS _ (lv_sub hl [1, 0] rfl)
            · replace h := h.2 hc
              refine lv_aload_n hx hb dX4_findWays_47 rfl (lv_at hl 0 rfl) ?_
              refine va_get (D := D) (ci := 4) (v := .ref (a 20)) (C := RX4) (T := TX4) (N := 32) hx hb hts hinX4 hown hK hP 0 rfl rfl 29 (by decide) (hts (.fieldLink RX4 70 "WorstPathsModel" "worst" "[J") (by decide +kernel)) (fun _ h9 => h9) rfl dX4_findWays_48 ?_
              refine lv_iload_n hx hb dX4_findWays_51 rfl (lv_at hl 2 rfl) ?_
              refine lv_ldc2 (v := (-2)) hx hb hown (hts (.constantLong RX4 152 ((-2))) (by decide +kernel)) dX4_findWays_52 ?_
              obtain ⟨hq, h⟩ := h
              refine va_last (D := D) hx hb hK hP hD hS 20 2 rfl rfl hq dX4_findWays_55 (fun H locs hP hD hS => ?_)
              have hP : va_P D vwCl (wM a cI cZ cJ m_thrown m_sets m_ways m_penalty m_blocks m_edges m_pairs m_lines m_isFresh 0 m_time m_touchMany m_touch m_line m_from m_to m_bound m_pairA m_pairB m_comeTo m_greatest m_least m_nowGreatest m_nowLeast m_does m_mostTime m_leastTime m_countUnit_1 m_flagUnit_1 (vp_updL m_worst_42 (Int32.toNatClampNeg v2_42) (-2)) m_best m_stack) H := hP
              have hD : va_D A (wM a cI cZ cJ m_thrown m_sets m_ways m_penalty m_blocks m_edges m_pairs m_lines m_isFresh 0 m_time m_touchMany m_touch m_line m_from m_to m_bound m_pairA m_pairB m_comeTo m_greatest m_least m_nowGreatest m_nowLeast m_does m_mostTime m_leastTime m_countUnit_1 m_flagUnit_1 (vp_updL m_worst_42 (Int32.toNatClampNeg v2_42) (-2)) m_best m_stack) := hD
              refine lv_iinc (v := (v2_42 + 1)) (lv' := [(2, .int (v2_42 + 1)), (0, .ref (a 0)), (1, .int r_1)]) hx hb dX4_findWays_56 hl (k := 2) rfl rfl (by decide) rfl (fun ls hl => ?_)
              refine lv_goto (tgt := 42) hx hb dX4_findWays_59 (by decide) ?_
              exact ih42 (v2_42 + 1) (vp_updL m_worst_42 (Int32.toNatClampNeg v2_42) (-2)) h _ _ hP hD hS _ (lv_sub hl [1, 2, 0] rfl)
        obtain ⟨k9, h⟩ := h
        exact LP42 k9 0 m_worst h _ _ hP hD hS _ (lv_sub hl [2, 1, 0] rfl)
      · replace h := h.2 hc
        refine wz_mono hQz ?_
        exact W.vret hx hb hr (fun t ht hW => ⟨⟨(0, m_countUnit_1, m_flagUnit_1, m_worst, m_best, m_stack), rfl, h, by rw [ht]; exact hP, va_K.moved hW.alike hK, hD⟩, hS.F ht⟩) hS.2.2 dX4_findWays_39
    · replace h := h.2 hc
      refine lv_aload_n hx hb dX4_findWays_17 rfl (lv_at hl 1 rfl) ?_
      have hF := wz_free hD hS hA
      refine va_calli (va_runV (As := []) (rest := [.ref (a 0)]) ⟨hx, hb, hml, hown, hts⟩ (c_X4_isRound l D a cI cZ cJ _ m_thrown m_sets m_ways m_penalty m_blocks m_edges m_pairs m_lines m_isFresh m_isAnswer m_time m_touchMany m_touch m_line m_from m_to m_bound m_pairA m_pairB m_comeTo m_greatest m_least m_nowGreatest m_nowLeast m_does m_mostTime m_leastTime m_countUnit_1 m_flagUnit_1 m_worst m_best m_stack _ h) (cwV 0 hts gX4_findWays_X4_isRound rfl rfl rfl (by decide +kernel) ⟨Nat.le_of_ble_eq_true rfl, Nat.le_of_ble_eq_true rfl⟩) ⟨wz_blind, va_recv hK hP (ci := 4) (q0 := 0) rfl rfl, fun U hU hW => wz_at hU hW hP hK hD⟩ rfl rfl hl.1 rfl (lv_room (Nat.le_of_ble_eq_true rfl)) dX4_findWays_18 ⟨Nat.zero_le _, Nat.zero_le _⟩) hS (fun q _ hq => hF q hq) hF (fun r_18 u t H locs ht hvm h hB hz1 hk1 hS => ?_)
      obtain ⟨m_stack_18, rfl⟩ : ∃ z, z = u := ⟨_, rfl⟩
      obtain ⟨hP, -, hD⟩ := wz_back ht hF hB
      have hP : va_P D vwCl (wM a cI cZ cJ m_thrown m_sets m_ways m_penalty m_blocks m_edges m_pairs m_lines m_isFresh m_isAnswer m_time m_touchMany m_touch m_line m_from m_to m_bound m_pairA m_pairB m_comeTo m_greatest m_least m_nowGreatest m_nowLeast m_does m_mostTime m_leastTime m_countUnit_1 m_flagUnit_1 m_worst m_best m_stack_18) H := hP
      have hD : va_D A (wM a cI cZ cJ m_thrown m_sets m_ways m_penalty m_blocks m_edges m_pairs m_lines m_isFresh m_isAnswer m_time m_touchMany m_touch m_line m_from m_to m_bound m_pairA m_pairB m_comeTo m_greatest m_least m_nowGreatest m_nowLeast m_does m_mostTime m_leastTime m_countUnit_1 m_flagUnit_1 m_worst m_best m_stack_18) := hD
      refine lv_if_ne (tgt := 28) hx hb dX4_findWays_21 (by decide) (fun hc => ?_) (fun hc => ?_)
      · replace h := h.1 hc
        refine lv_iconst (v := 0) hx hb dX4_findWays_28 (by decide) ?_
        refine va_put (D := D) (ci := 4) (v := .int 0) (ty := .boolean) (C := RX4) (T := TX4) (N := 32) hx hb hts hinX4 tyX4 tyX4_ok nmX4 hown hK hP hD hS 0 rfl rfl 26 (by decide) (hts (.fieldLink RX4 167 "WorstPathsModel" "isAnswer" "Z") (by decide +kernel)) (fun _ h9 => h9) rfl (by decide +kernel) rfl rfl (Nat.le_of_ble_eq_true rfl) dX4_findWays_29 (fun H locs hP hD hS => ?_)
        have hP : va_P D vwCl (wM a cI cZ cJ m_thrown m_sets m_ways m_penalty m_blocks m_edges m_pairs m_lines m_isFresh 0 m_time m_touchMany m_touch m_line m_from m_to m_bound m_pairA m_pairB m_comeTo m_greatest m_least m_nowGreatest m_nowLeast m_does m_mostTime m_leastTime m_countUnit_1 m_flagUnit_1 m_worst m_best m_stack_18) H := hP
        have hD : va_D A (wM a cI cZ cJ m_thrown m_sets m_ways m_penalty m_blocks m_edges m_pairs m_lines m_isFresh 0 m_time m_touchMany m_touch m_line m_from m_to m_bound m_pairA m_pairB m_comeTo m_greatest m_least m_nowGreatest m_nowLeast m_does m_mostTime m_leastTime m_countUnit_1 m_flagUnit_1 m_worst m_best m_stack_18) := hD
        refine lv_aload_n hx hb dX4_findWays_32 rfl (lv_at hl 1 rfl) ?_
        refine va_get (D := D) (ci := 4) (v := .int 0) (C := RX4) (T := TX4) (N := 32) hx hb hts hinX4 hown hK hP 0 rfl rfl 26 (by decide) (hts (.fieldLink RX4 167 "WorstPathsModel" "isAnswer" "Z") (by decide +kernel)) (fun _ h9 => h9) rfl dX4_findWays_33 ?_
        refine lv_if_ne (tgt := 40) hx hb dX4_findWays_36 (by decide) (fun hc => ?_) (fun hc => ?_)
        · replace h := h.1 hc
          refine lv_iconst (v := 0) hx hb dX4_findWays_40 (by decide) ?_
          refine lv_istore_n (lv' := [(2, .int 0), (1, .int r_1), (0, .ref (a 0))]) hx hb dX4_findWays_41 rfl hl (by decide) rfl (fun ls hl => ?_)
          have LP42 : ∀ (n42 : Nat) (v2_42 : Int32) (m_worst_42 : Nat → Int64), lp_X4_findWays_42 r_1 m_blocks m_edges m_pairs 0 m_from m_to m_bound m_pairA m_pairB m_comeTo m_mostTime m_leastTime m_countUnit_1 m_flagUnit_1 m_best m_stack_18 Q n42 v2_42 m_worst_42 → ∀ (H : Heap) (locs : List Loc), va_P D vwCl (wM a cI cZ cJ m_thrown m_sets m_ways m_penalty m_blocks m_edges m_pairs m_lines m_isFresh 0 m_time m_touchMany m_touch m_line m_from m_to m_bound m_pairA m_pairB m_comeTo m_greatest m_least m_nowGreatest m_nowLeast m_does m_mostTime m_leastTime m_countUnit_1 m_flagUnit_1 m_worst_42 m_best m_stack_18) H → va_D A (wM a cI cZ cJ m_thrown m_sets m_ways m_penalty m_blocks m_edges m_pairs m_lines m_isFresh 0 m_time m_touchMany m_touch m_line m_from m_to m_bound m_pairA m_pairB m_comeTo m_greatest m_least m_nowGreatest m_nowLeast m_does m_mostTime m_leastTime m_countUnit_1 m_flagUnit_1 m_worst_42 m_best m_stack_18) → va_S A s.heap H locs → ∀ (ls : Array Slot), lv_has ls 4 [(0, .ref (a 0)), (1, .int r_1), (2, .int v2_42)] → W p l e (headSpec wsX4_findWays rm_X4_findWays).room s m ([Value.ref (a 0)] : List Value).toArray below meth c H locs 0 0 Qz (F0 m 42 ls []) := by
            intro n42
            induction n42 with
            | zero => intro v2_42 m_worst_42 h; exact h.elim
            | succ n42 ih42 =>
              intro v2_42 m_worst_42 h H locs hP hD hS ls hl
              unfold lp_X4_findWays_42 at h
              refine lv_iload_n hx hb dX4_findWays_42 rfl (lv_at hl 2 rfl) ?_
              refine lv_iload_n hx hb dX4_findWays_43 rfl (lv_at hl 1 rfl) ?_
              refine lv_icmp_ge (tgt := 62) hx hb dX4_findWays_44 (by decide) (fun hc => ?_) (fun hc => ?_)
              · replace h := h.1 hc
                refine lv_iconst (v := 1) hx hb dX4_findWays_62 (by decide) ?_
                refine lv_istore_n (lv' := [(2, .int 1), (0, .ref (a 0)), (1, .int r_1)]) hx hb dX4_findWays_63 rfl hl (by decide) rfl (fun ls hl => ?_)
                refine lv_aload_n hx hb dX4_findWays_64 rfl (lv_at hl 1 rfl) ?_
                refine va_get (D := D) (ci := 4) (v := .ref (a 22)) (C := RX4) (T := TX4) (N := 32) hx hb hts hinX4 hown hK hP 0 rfl rfl 31 (by decide) (hts (.fieldLink RX4 77 "WorstPathsModel" "stack" "[I") (by decide +kernel)) (fun _ h9 => h9) rfl dX4_findWays_65 ?_
                refine lv_iconst (v := 0) hx hb dX4_findWays_68 (by decide) ?_
                refine lv_iconst (v := 0) hx hb dX4_findWays_69 (by decide) ?_
                obtain ⟨hq, h⟩ := h
                refine va_iast (D := D) hx hb hK hP hD hS 22 0 rfl rfl hq dX4_findWays_70 (fun H locs hP hD hS => ?_)
                have hP : va_P D vwCl (wM a cI cZ cJ m_thrown m_sets m_ways m_penalty m_blocks m_edges m_pairs m_lines m_isFresh 0 m_time m_touchMany m_touch m_line m_from m_to m_bound m_pairA m_pairB m_comeTo m_greatest m_least m_nowGreatest m_nowLeast m_does m_mostTime m_leastTime m_countUnit_1 m_flagUnit_1 m_worst_42 m_best (upd m_stack_18 (Int32.toNatClampNeg 0) 0)) H := hP
                have hD : va_D A (wM a cI cZ cJ m_thrown m_sets m_ways m_penalty m_blocks m_edges m_pairs m_lines m_isFresh 0 m_time m_touchMany m_touch m_line m_from m_to m_bound m_pairA m_pairB m_comeTo m_greatest m_least m_nowGreatest m_nowLeast m_does m_mostTime m_leastTime m_countUnit_1 m_flagUnit_1 m_worst_42 m_best (upd m_stack_18 (Int32.toNatClampNeg 0) 0)) := hD
                have LP71 : ∀ (n71 : Nat) (v2_71 : Int32) (m_worst_71 : Nat → Int64) (m_best_71 : Nat → Int64) (m_stack_71 : Nat → Int32), lp_X4_findWays_71 m_blocks m_edges m_pairs 0 m_from m_to m_bound m_pairA m_pairB m_comeTo m_mostTime m_leastTime m_countUnit_1 m_flagUnit_1 Q n71 v2_71 m_worst_71 m_best_71 m_stack_71 → ∀ (H : Heap) (locs : List Loc), va_P D vwCl (wM a cI cZ cJ m_thrown m_sets m_ways m_penalty m_blocks m_edges m_pairs m_lines m_isFresh 0 m_time m_touchMany m_touch m_line m_from m_to m_bound m_pairA m_pairB m_comeTo m_greatest m_least m_nowGreatest m_nowLeast m_does m_mostTime m_leastTime m_countUnit_1 m_flagUnit_1 m_worst_71 m_best_71 m_stack_71) H → va_D A (wM a cI cZ cJ m_thrown m_sets m_ways m_penalty m_blocks m_edges m_pairs m_lines m_isFresh 0 m_time m_touchMany m_touch m_line m_from m_to m_bound m_pairA m_pairB m_comeTo m_greatest m_least m_nowGreatest m_nowLeast m_does m_mostTime m_leastTime m_countUnit_1 m_flagUnit_1 m_worst_71 m_best_71 m_stack_71) → va_S A s.heap H locs → ∀ (ls : Array Slot), lv_has ls 4 [(0, .ref (a 0)), (2, .int v2_71)] → W p l e (headSpec wsX4_findWays rm_X4_findWays).room s m ([Value.ref (a 0)] : List Value).toArray below meth c H locs 0 0 Qz (F0 m 71 ls []) := by
                  intro n71
                  induction n71 with
                  | zero => intro v2_71 m_worst_71 m_best_71 m_stack_71 h; exact h.elim
                  | succ n71 ih71 =>
                    intro v2_71 m_worst_71 m_best_71 m_stack_71 h H locs hP hD hS ls hl
                    unfold lp_X4_findWays_71 at h
                    refine lv_iload_n hx hb dX4_findWays_71 rfl (lv_at hl 1 rfl) ?_
                    refine lv_if_le (tgt := 123) hx hb dX4_findWays_72 (by decide) (fun hc => ?_) (fun hc => ?_)
                    · replace h := h.1 hc
                      refine lv_aload_n hx hb dX4_findWays_123 rfl (lv_at hl 0 rfl) ?_
                      refine lv_aload_n hx hb dX4_findWays_124 rfl (lv_at hl 0 rfl) ?_
                      refine va_get (D := D) (ci := 4) (v := .ref (a 20)) (C := RX4) (T := TX4) (N := 32) hx hb hts hinX4 hown hK hP 0 rfl rfl 29 (by decide) (hts (.fieldLink RX4 70 "WorstPathsModel" "worst" "[J") (by decide +kernel)) (fun _ h9 => h9) rfl dX4_findWays_125 ?_
                      refine lv_iconst (v := 0) hx hb dX4_findWays_128 (by decide) ?_
                      obtain ⟨hq, h⟩ := h
                      refine va_lald (D := D) hx hb hK hP 20 2 rfl rfl hq dX4_findWays_129 ?_
                      refine lv_lconst (v := 0) hx hb dX4_findWays_130 (by decide) ?_
                      refine W.lcmp hx hb dX4_findWays_131 ?_
                      refine lv_if_lt (tgt := 139) hx hb dX4_findWays_132 (by decide) (fun hc => ?_) (fun hc => ?_)
                      · replace h := h.1 hc
                        refine lv_iconst (v := 0) hx hb dX4_findWays_139 (by decide) ?_
                        refine va_put (D := D) (ci := 4) (v := .int 0) (ty := .boolean) (C := RX4) (T := TX4) (N := 32) hx hb hts hinX4 tyX4 tyX4_ok nmX4 hown hK hP hD hS 0 rfl rfl 26 (by decide) (hts (.fieldLink RX4 167 "WorstPathsModel" "isAnswer" "Z") (by decide +kernel)) (fun _ h9 => h9) rfl (by decide +kernel) rfl rfl (Nat.le_of_ble_eq_true rfl) dX4_findWays_140 (fun H locs hP hD hS => ?_)
                        have hP : va_P D vwCl (wM a cI cZ cJ m_thrown m_sets m_ways m_penalty m_blocks m_edges m_pairs m_lines m_isFresh 0 m_time m_touchMany m_touch m_line m_from m_to m_bound m_pairA m_pairB m_comeTo m_greatest m_least m_nowGreatest m_nowLeast m_does m_mostTime m_leastTime m_countUnit_1 m_flagUnit_1 m_worst_71 m_best_71 m_stack_71) H := hP
                        have hD : va_D A (wM a cI cZ cJ m_thrown m_sets m_ways m_penalty m_blocks m_edges m_pairs m_lines m_isFresh 0 m_time m_touchMany m_touch m_line m_from m_to m_bound m_pairA m_pairB m_comeTo m_greatest m_least m_nowGreatest m_nowLeast m_does m_mostTime m_leastTime m_countUnit_1 m_flagUnit_1 m_worst_71 m_best_71 m_stack_71) := hD
                        refine wz_mono hQz ?_
                        exact W.vret hx hb hr (fun t ht hW => ⟨⟨(0, m_countUnit_1, m_flagUnit_1, m_worst_71, m_best_71, m_stack_71), rfl, h, by rw [ht]; exact hP, va_K.moved hW.alike hK, hD⟩, hS.F ht⟩) hS.2.2 dX4_findWays_143
                      · replace h := h.2 hc
                        refine lv_iconst (v := 1) hx hb dX4_findWays_135 (by decide) ?_
                        refine lv_goto (tgt := 140) hx hb dX4_findWays_136 (by decide) ?_
                        refine va_put (D := D) (ci := 4) (v := .int 1) (ty := .boolean) (C := RX4) (T := TX4) (N := 32) hx hb hts hinX4 tyX4 tyX4_ok nmX4 hown hK hP hD hS 0 rfl rfl 26 (by decide) (hts (.fieldLink RX4 167 "WorstPathsModel" "isAnswer" "Z") (by decide +kernel)) (fun _ h9 => h9) rfl (by decide +kernel) rfl rfl (Nat.le_of_ble_eq_true rfl) dX4_findWays_140 (fun H locs hP hD hS => ?_)
                        have hP : va_P D vwCl (wM a cI cZ cJ m_thrown m_sets m_ways m_penalty m_blocks m_edges m_pairs m_lines m_isFresh 1 m_time m_touchMany m_touch m_line m_from m_to m_bound m_pairA m_pairB m_comeTo m_greatest m_least m_nowGreatest m_nowLeast m_does m_mostTime m_leastTime m_countUnit_1 m_flagUnit_1 m_worst_71 m_best_71 m_stack_71) H := hP
                        have hD : va_D A (wM a cI cZ cJ m_thrown m_sets m_ways m_penalty m_blocks m_edges m_pairs m_lines m_isFresh 1 m_time m_touchMany m_touch m_line m_from m_to m_bound m_pairA m_pairB m_comeTo m_greatest m_least m_nowGreatest m_nowLeast m_does m_mostTime m_leastTime m_countUnit_1 m_flagUnit_1 m_worst_71 m_best_71 m_stack_71) := hD
                        refine wz_mono hQz ?_
                        exact W.vret hx hb hr (fun t ht hW => ⟨⟨(1, m_countUnit_1, m_flagUnit_1, m_worst_71, m_best_71, m_stack_71), rfl, h, by rw [ht]; exact hP, va_K.moved hW.alike hK, hD⟩, hS.F ht⟩) hS.2.2 dX4_findWays_143
                    · replace h := h.2 hc
                      refine lv_aload_n hx hb dX4_findWays_75 rfl (lv_at hl 0 rfl) ?_
                      refine lv_aload_n hx hb dX4_findWays_76 rfl (lv_at hl 0 rfl) ?_
                      refine va_get (D := D) (ci := 4) (v := .ref (a 22)) (C := RX4) (T := TX4) (N := 32) hx hb hts hinX4 hown hK hP 0 rfl rfl 31 (by decide) (hts (.fieldLink RX4 77 "WorstPathsModel" "stack" "[I") (by decide +kernel)) (fun _ h9 => h9) rfl dX4_findWays_77 ?_
                      refine lv_iload_n hx hb dX4_findWays_80 rfl (lv_at hl 1 rfl) ?_
                      refine lv_iconst (v := 1) hx hb dX4_findWays_81 (by decide) ?_
                      refine lv_isub hx hb dX4_findWays_82 ?_
                      obtain ⟨hq, h⟩ := h
                      refine va_iald (D := D) hx hb hK hP 22 0 rfl rfl hq dX4_findWays_83 ?_
                      have hF := wz_free hD hS hA
                      refine va_calli (va_runV (As := [.int (m_stack_71 (Int32.toNatClampNeg (v2_71 - 1)))]) (rest := []) ⟨hx, hb, hml, hown, hts⟩ (c_X4_firstUnknown l D a cI cZ cJ _ m_thrown m_sets m_ways m_penalty m_blocks m_edges m_pairs m_lines m_isFresh 0 m_time m_touchMany m_touch m_line m_from m_to m_bound m_pairA m_pairB m_comeTo m_greatest m_least m_nowGreatest m_nowLeast m_does m_mostTime m_leastTime m_countUnit_1 m_flagUnit_1 m_worst_71 m_best_71 m_stack_71 (m_stack_71 (Int32.toNatClampNeg (v2_71 - 1))) _ h) (cwV 1 hts gX4_findWays_X4_firstUnknown rfl rfl rfl (by decide +kernel) ⟨Nat.le_of_ble_eq_true rfl, Nat.le_of_ble_eq_true rfl⟩) ⟨wz_blind, va_recv hK hP (ci := 4) (q0 := 0) rfl rfl, fun U hU hW => wz_at hU hW hP hK hD⟩ rfl rfl hl.1 rfl (lv_room (Nat.le_of_ble_eq_true rfl)) dX4_findWays_84 ⟨Nat.zero_le _, Nat.zero_le _⟩) hS (fun q _ hq => hF q hq) hF (fun r_84 u t H locs ht hvm h hB hz1 hk1 hS => ?_)
                      obtain ⟨hP, -, hD⟩ := wz_back ht hF hB
                      have hP : va_P D vwCl (wM a cI cZ cJ m_thrown m_sets m_ways m_penalty m_blocks m_edges m_pairs m_lines m_isFresh 0 m_time m_touchMany m_touch m_line m_from m_to m_bound m_pairA m_pairB m_comeTo m_greatest m_least m_nowGreatest m_nowLeast m_does m_mostTime m_leastTime m_countUnit_1 m_flagUnit_1 m_worst_71 m_best_71 m_stack_71) H := hP
                      have hD : va_D A (wM a cI cZ cJ m_thrown m_sets m_ways m_penalty m_blocks m_edges m_pairs m_lines m_isFresh 0 m_time m_touchMany m_touch m_line m_from m_to m_bound m_pairA m_pairB m_comeTo m_greatest m_least m_nowGreatest m_nowLeast m_does m_mostTime m_leastTime m_countUnit_1 m_flagUnit_1 m_worst_71 m_best_71 m_stack_71) := hD
                      refine lv_istore_n (lv' := [(3, .int r_84), (0, .ref (a 0)), (2, .int v2_71)]) hx hb dX4_findWays_87 rfl hl (by decide) rfl (fun ls hl => ?_)
                      refine lv_iload_n hx hb dX4_findWays_88 rfl (lv_at hl 0 rfl) ?_
                      refine lv_if_lt (tgt := 105) hx hb dX4_findWays_89 (by decide) (fun hc => ?_) (fun hc => ?_)
                      · replace h := h.1 hc
                        refine lv_aload_n hx hb dX4_findWays_105 rfl (lv_at hl 1 rfl) ?_
                        refine lv_aload_n hx hb dX4_findWays_106 rfl (lv_at hl 1 rfl) ?_
                        refine va_get (D := D) (ci := 4) (v := .ref (a 22)) (C := RX4) (T := TX4) (N := 32) hx hb hts hinX4 hown hK hP 0 rfl rfl 31 (by decide) (hts (.fieldLink RX4 77 "WorstPathsModel" "stack" "[I") (by decide +kernel)) (fun _ h9 => h9) rfl dX4_findWays_107 ?_
                        refine lv_iload_n hx hb dX4_findWays_110 rfl (lv_at hl 2 rfl) ?_
                        refine lv_iconst (v := 1) hx hb dX4_findWays_111 (by decide) ?_
                        refine lv_isub hx hb dX4_findWays_112 ?_
                        obtain ⟨hq, h⟩ := h
                        refine va_iald (D := D) hx hb hK hP 22 0 rfl rfl hq dX4_findWays_113 ?_
                        have hF := wz_free hD hS hA
                        refine va_callv (va_runV (As := [.int (m_stack_71 (Int32.toNatClampNeg (v2_71 - 1)))]) (rest := []) ⟨hx, hb, hml, hown, hts⟩ (c_X4_workOut l D a cI cZ cJ _ m_thrown m_sets m_ways m_penalty m_blocks m_edges m_pairs m_lines m_isFresh 0 m_time m_touchMany m_touch m_line m_from m_to m_bound m_pairA m_pairB m_comeTo m_greatest m_least m_nowGreatest m_nowLeast m_does m_mostTime m_leastTime m_countUnit_1 m_flagUnit_1 m_worst_71 m_best_71 m_stack_71 (m_stack_71 (Int32.toNatClampNeg (v2_71 - 1))) _ h) (cwV 1 hts gX4_findWays_X4_workOut rfl rfl rfl (by decide +kernel) ⟨Nat.le_of_ble_eq_true rfl, Nat.le_of_ble_eq_true rfl⟩) ⟨wz_blind, va_recv hK hP (ci := 4) (q0 := 0) rfl rfl, fun U hU hW => wz_at hU hW hP hK hD⟩ rfl rfl hl.1 rfl (lv_room (Nat.le_of_ble_eq_true rfl)) dX4_findWays_114 ⟨Nat.zero_le _, Nat.zero_le _⟩) hS (fun q _ hq => hF q hq) hF (fun u t H locs ht hvm h hB hz1 hk1 hS => ?_)
                        obtain ⟨m_worst_114, m_best_114⟩ := u
                        dsimp only at h hB
                        obtain ⟨hP, -, hD⟩ := wz_back ht hF hB
                        have hP : va_P D vwCl (wM a cI cZ cJ m_thrown m_sets m_ways m_penalty m_blocks m_edges m_pairs m_lines m_isFresh 0 m_time m_touchMany m_touch m_line m_from m_to m_bound m_pairA m_pairB m_comeTo m_greatest m_least m_nowGreatest m_nowLeast m_does m_mostTime m_leastTime m_countUnit_1 m_flagUnit_1 m_worst_114 m_best_114 m_stack_71) H := hP
                        have hD : va_D A (wM a cI cZ cJ m_thrown m_sets m_ways m_penalty m_blocks m_edges m_pairs m_lines m_isFresh 0 m_time m_touchMany m_touch m_line m_from m_to m_bound m_pairA m_pairB m_comeTo m_greatest m_least m_nowGreatest m_nowLeast m_does m_mostTime m_leastTime m_countUnit_1 m_flagUnit_1 m_worst_114 m_best_114 m_stack_71) := hD
                        refine lv_iinc (v := (v2_71 + (-1))) (lv' := [(2, .int (v2_71 + (-1))), (3, .int r_84), (0, .ref (a 0))]) hx hb dX4_findWays_117 hl (k := 2) rfl rfl (by decide) rfl (fun ls hl => ?_)
                        refine lv_goto (tgt := 71) hx hb dX4_findWays_120 (by decide) ?_
                        exact ih71 (v2_71 + (-1)) m_worst_114 m_best_114 m_stack_71 h _ _ hP hD hS _ (lv_sub hl [2, 0] rfl)
                      · replace h := h.2 hc
                        refine lv_aload_n hx hb dX4_findWays_92 rfl (lv_at hl 1 rfl) ?_
                        refine va_get (D := D) (ci := 4) (v := .ref (a 22)) (C := RX4) (T := TX4) (N := 32) hx hb hts hinX4 hown hK hP 0 rfl rfl 31 (by decide) (hts (.fieldLink RX4 77 "WorstPathsModel" "stack" "[I") (by decide +kernel)) (fun _ h9 => h9) rfl dX4_findWays_93 ?_
                        refine lv_iload_n hx hb dX4_findWays_96 rfl (lv_at hl 2 rfl) ?_
                        refine lv_iload_n hx hb dX4_findWays_97 rfl (lv_at hl 0 rfl) ?_
                        obtain ⟨hq, h⟩ := h
                        refine va_iast (D := D) hx hb hK hP hD hS 22 0 rfl rfl hq dX4_findWays_98 (fun H locs hP hD hS => ?_)
                        have hP : va_P D vwCl (wM a cI cZ cJ m_thrown m_sets m_ways m_penalty m_blocks m_edges m_pairs m_lines m_isFresh 0 m_time m_touchMany m_touch m_line m_from m_to m_bound m_pairA m_pairB m_comeTo m_greatest m_least m_nowGreatest m_nowLeast m_does m_mostTime m_leastTime m_countUnit_1 m_flagUnit_1 m_worst_71 m_best_71 (upd m_stack_71 (Int32.toNatClampNeg v2_71) r_84)) H := hP
                        have hD : va_D A (wM a cI cZ cJ m_thrown m_sets m_ways m_penalty m_blocks m_edges m_pairs m_lines m_isFresh 0 m_time m_touchMany m_touch m_line m_from m_to m_bound m_pairA m_pairB m_comeTo m_greatest m_least m_nowGreatest m_nowLeast m_does m_mostTime m_leastTime m_countUnit_1 m_flagUnit_1 m_worst_71 m_best_71 (upd m_stack_71 (Int32.toNatClampNeg v2_71) r_84)) := hD
                        refine lv_iinc (v := (v2_71 + 1)) (lv' := [(2, .int (v2_71 + 1)), (3, .int r_84), (0, .ref (a 0))]) hx hb dX4_findWays_99 hl (k := 2) rfl rfl (by decide) rfl (fun ls hl => ?_)
                        refine lv_goto (tgt := 120) hx hb dX4_findWays_102 (by decide) ?_
                        refine lv_goto (tgt := 71) hx hb dX4_findWays_120 (by decide) ?_
                        exact ih71 (v2_71 + 1) m_worst_71 m_best_71 (upd m_stack_71 (Int32.toNatClampNeg v2_71) r_84) h _ _ hP hD hS _ (lv_sub hl [2, 0] rfl)
                obtain ⟨k9, h⟩ := h
                exact LP71 k9 1 m_worst_42 m_best (upd m_stack_18 (Int32.toNatClampNeg 0) 0) h _ _ hP hD hS _ (lv_sub hl [1, 0] rfl)
              · replace h := h.2 hc
                refine lv_aload_n hx hb dX4_findWays_47 rfl (lv_at hl 0 rfl) ?_
                refine va_get (D := D) (ci := 4) (v := .ref (a 20)) (C := RX4) (T := TX4) (N := 32) hx hb hts hinX4 hown hK hP 0 rfl rfl 29 (by decide) (hts (.fieldLink RX4 70 "WorstPathsModel" "worst" "[J") (by decide +kernel)) (fun _ h9 => h9) rfl dX4_findWays_48 ?_
                refine lv_iload_n hx hb dX4_findWays_51 rfl (lv_at hl 2 rfl) ?_
                refine lv_ldc2 (v := (-2)) hx hb hown (hts (.constantLong RX4 152 ((-2))) (by decide +kernel)) dX4_findWays_52 ?_
                obtain ⟨hq, h⟩ := h
                refine va_last (D := D) hx hb hK hP hD hS 20 2 rfl rfl hq dX4_findWays_55 (fun H locs hP hD hS => ?_)
                have hP : va_P D vwCl (wM a cI cZ cJ m_thrown m_sets m_ways m_penalty m_blocks m_edges m_pairs m_lines m_isFresh 0 m_time m_touchMany m_touch m_line m_from m_to m_bound m_pairA m_pairB m_comeTo m_greatest m_least m_nowGreatest m_nowLeast m_does m_mostTime m_leastTime m_countUnit_1 m_flagUnit_1 (vp_updL m_worst_42 (Int32.toNatClampNeg v2_42) (-2)) m_best m_stack_18) H := hP
                have hD : va_D A (wM a cI cZ cJ m_thrown m_sets m_ways m_penalty m_blocks m_edges m_pairs m_lines m_isFresh 0 m_time m_touchMany m_touch m_line m_from m_to m_bound m_pairA m_pairB m_comeTo m_greatest m_least m_nowGreatest m_nowLeast m_does m_mostTime m_leastTime m_countUnit_1 m_flagUnit_1 (vp_updL m_worst_42 (Int32.toNatClampNeg v2_42) (-2)) m_best m_stack_18) := hD
                refine lv_iinc (v := (v2_42 + 1)) (lv' := [(2, .int (v2_42 + 1)), (0, .ref (a 0)), (1, .int r_1)]) hx hb dX4_findWays_56 hl (k := 2) rfl rfl (by decide) rfl (fun ls hl => ?_)
                refine lv_goto (tgt := 42) hx hb dX4_findWays_59 (by decide) ?_
                exact ih42 (v2_42 + 1) (vp_updL m_worst_42 (Int32.toNatClampNeg v2_42) (-2)) h _ _ hP hD hS _ (lv_sub hl [1, 2, 0] rfl)
          obtain ⟨k9, h⟩ := h
          exact LP42 k9 0 m_worst h _ _ hP hD hS _ (lv_sub hl [2, 1, 0] rfl)
        · replace h := h.2 hc
          refine wz_mono hQz ?_
          exact W.vret hx hb hr (fun t ht hW => ⟨⟨(0, m_countUnit_1, m_flagUnit_1, m_worst, m_best, m_stack_18), rfl, h, by rw [ht]; exact hP, va_K.moved hW.alike hK, hD⟩, hS.F ht⟩) hS.2.2 dX4_findWays_39
      · replace h := h.2 hc
        refine lv_iconst (v := 1) hx hb dX4_findWays_24 (by decide) ?_
        refine lv_goto (tgt := 29) hx hb dX4_findWays_25 (by decide) ?_
        refine va_put (D := D) (ci := 4) (v := .int 1) (ty := .boolean) (C := RX4) (T := TX4) (N := 32) hx hb hts hinX4 tyX4 tyX4_ok nmX4 hown hK hP hD hS 0 rfl rfl 26 (by decide) (hts (.fieldLink RX4 167 "WorstPathsModel" "isAnswer" "Z") (by decide +kernel)) (fun _ h9 => h9) rfl (by decide +kernel) rfl rfl (Nat.le_of_ble_eq_true rfl) dX4_findWays_29 (fun H locs hP hD hS => ?_)
        have hP : va_P D vwCl (wM a cI cZ cJ m_thrown m_sets m_ways m_penalty m_blocks m_edges m_pairs m_lines m_isFresh 1 m_time m_touchMany m_touch m_line m_from m_to m_bound m_pairA m_pairB m_comeTo m_greatest m_least m_nowGreatest m_nowLeast m_does m_mostTime m_leastTime m_countUnit_1 m_flagUnit_1 m_worst m_best m_stack_18) H := hP
        have hD : va_D A (wM a cI cZ cJ m_thrown m_sets m_ways m_penalty m_blocks m_edges m_pairs m_lines m_isFresh 1 m_time m_touchMany m_touch m_line m_from m_to m_bound m_pairA m_pairB m_comeTo m_greatest m_least m_nowGreatest m_nowLeast m_does m_mostTime m_leastTime m_countUnit_1 m_flagUnit_1 m_worst m_best m_stack_18) := hD
        refine lv_aload_n hx hb dX4_findWays_32 rfl (lv_at hl 1 rfl) ?_
        refine va_get (D := D) (ci := 4) (v := .int 1) (C := RX4) (T := TX4) (N := 32) hx hb hts hinX4 hown hK hP 0 rfl rfl 26 (by decide) (hts (.fieldLink RX4 167 "WorstPathsModel" "isAnswer" "Z") (by decide +kernel)) (fun _ h9 => h9) rfl dX4_findWays_33 ?_
        refine lv_if_ne (tgt := 40) hx hb dX4_findWays_36 (by decide) (fun hc => ?_) (fun hc => ?_)
        · replace h := h.1 hc
          refine lv_iconst (v := 0) hx hb dX4_findWays_40 (by decide) ?_
          refine lv_istore_n (lv' := [(2, .int 0), (1, .int r_1), (0, .ref (a 0))]) hx hb dX4_findWays_41 rfl hl (by decide) rfl (fun ls hl => ?_)
          have LP42 : ∀ (n42 : Nat) (v2_42 : Int32) (m_worst_42 : Nat → Int64), lp_X4_findWays_42 r_1 m_blocks m_edges m_pairs 1 m_from m_to m_bound m_pairA m_pairB m_comeTo m_mostTime m_leastTime m_countUnit_1 m_flagUnit_1 m_best m_stack_18 Q n42 v2_42 m_worst_42 → ∀ (H : Heap) (locs : List Loc), va_P D vwCl (wM a cI cZ cJ m_thrown m_sets m_ways m_penalty m_blocks m_edges m_pairs m_lines m_isFresh 1 m_time m_touchMany m_touch m_line m_from m_to m_bound m_pairA m_pairB m_comeTo m_greatest m_least m_nowGreatest m_nowLeast m_does m_mostTime m_leastTime m_countUnit_1 m_flagUnit_1 m_worst_42 m_best m_stack_18) H → va_D A (wM a cI cZ cJ m_thrown m_sets m_ways m_penalty m_blocks m_edges m_pairs m_lines m_isFresh 1 m_time m_touchMany m_touch m_line m_from m_to m_bound m_pairA m_pairB m_comeTo m_greatest m_least m_nowGreatest m_nowLeast m_does m_mostTime m_leastTime m_countUnit_1 m_flagUnit_1 m_worst_42 m_best m_stack_18) → va_S A s.heap H locs → ∀ (ls : Array Slot), lv_has ls 4 [(0, .ref (a 0)), (1, .int r_1), (2, .int v2_42)] → W p l e (headSpec wsX4_findWays rm_X4_findWays).room s m ([Value.ref (a 0)] : List Value).toArray below meth c H locs 0 0 Qz (F0 m 42 ls []) := by
            intro n42
            induction n42 with
            | zero => intro v2_42 m_worst_42 h; exact h.elim
            | succ n42 ih42 =>
              intro v2_42 m_worst_42 h H locs hP hD hS ls hl
              unfold lp_X4_findWays_42 at h
              refine lv_iload_n hx hb dX4_findWays_42 rfl (lv_at hl 2 rfl) ?_
              refine lv_iload_n hx hb dX4_findWays_43 rfl (lv_at hl 1 rfl) ?_
              refine lv_icmp_ge (tgt := 62) hx hb dX4_findWays_44 (by decide) (fun hc => ?_) (fun hc => ?_)
              · replace h := h.1 hc
                refine lv_iconst (v := 1) hx hb dX4_findWays_62 (by decide) ?_
                refine lv_istore_n (lv' := [(2, .int 1), (0, .ref (a 0)), (1, .int r_1)]) hx hb dX4_findWays_63 rfl hl (by decide) rfl (fun ls hl => ?_)
                refine lv_aload_n hx hb dX4_findWays_64 rfl (lv_at hl 1 rfl) ?_
                refine va_get (D := D) (ci := 4) (v := .ref (a 22)) (C := RX4) (T := TX4) (N := 32) hx hb hts hinX4 hown hK hP 0 rfl rfl 31 (by decide) (hts (.fieldLink RX4 77 "WorstPathsModel" "stack" "[I") (by decide +kernel)) (fun _ h9 => h9) rfl dX4_findWays_65 ?_
                refine lv_iconst (v := 0) hx hb dX4_findWays_68 (by decide) ?_
                refine lv_iconst (v := 0) hx hb dX4_findWays_69 (by decide) ?_
                obtain ⟨hq, h⟩ := h
                refine va_iast (D := D) hx hb hK hP hD hS 22 0 rfl rfl hq dX4_findWays_70 (fun H locs hP hD hS => ?_)
                have hP : va_P D vwCl (wM a cI cZ cJ m_thrown m_sets m_ways m_penalty m_blocks m_edges m_pairs m_lines m_isFresh 1 m_time m_touchMany m_touch m_line m_from m_to m_bound m_pairA m_pairB m_comeTo m_greatest m_least m_nowGreatest m_nowLeast m_does m_mostTime m_leastTime m_countUnit_1 m_flagUnit_1 m_worst_42 m_best (upd m_stack_18 (Int32.toNatClampNeg 0) 0)) H := hP
                have hD : va_D A (wM a cI cZ cJ m_thrown m_sets m_ways m_penalty m_blocks m_edges m_pairs m_lines m_isFresh 1 m_time m_touchMany m_touch m_line m_from m_to m_bound m_pairA m_pairB m_comeTo m_greatest m_least m_nowGreatest m_nowLeast m_does m_mostTime m_leastTime m_countUnit_1 m_flagUnit_1 m_worst_42 m_best (upd m_stack_18 (Int32.toNatClampNeg 0) 0)) := hD
                have LP71 : ∀ (n71 : Nat) (v2_71 : Int32) (m_worst_71 : Nat → Int64) (m_best_71 : Nat → Int64) (m_stack_71 : Nat → Int32), lp_X4_findWays_71 m_blocks m_edges m_pairs 1 m_from m_to m_bound m_pairA m_pairB m_comeTo m_mostTime m_leastTime m_countUnit_1 m_flagUnit_1 Q n71 v2_71 m_worst_71 m_best_71 m_stack_71 → ∀ (H : Heap) (locs : List Loc), va_P D vwCl (wM a cI cZ cJ m_thrown m_sets m_ways m_penalty m_blocks m_edges m_pairs m_lines m_isFresh 1 m_time m_touchMany m_touch m_line m_from m_to m_bound m_pairA m_pairB m_comeTo m_greatest m_least m_nowGreatest m_nowLeast m_does m_mostTime m_leastTime m_countUnit_1 m_flagUnit_1 m_worst_71 m_best_71 m_stack_71) H → va_D A (wM a cI cZ cJ m_thrown m_sets m_ways m_penalty m_blocks m_edges m_pairs m_lines m_isFresh 1 m_time m_touchMany m_touch m_line m_from m_to m_bound m_pairA m_pairB m_comeTo m_greatest m_least m_nowGreatest m_nowLeast m_does m_mostTime m_leastTime m_countUnit_1 m_flagUnit_1 m_worst_71 m_best_71 m_stack_71) → va_S A s.heap H locs → ∀ (ls : Array Slot), lv_has ls 4 [(0, .ref (a 0)), (2, .int v2_71)] → W p l e (headSpec wsX4_findWays rm_X4_findWays).room s m ([Value.ref (a 0)] : List Value).toArray below meth c H locs 0 0 Qz (F0 m 71 ls []) := by
                  intro n71
                  induction n71 with
                  | zero => intro v2_71 m_worst_71 m_best_71 m_stack_71 h; exact h.elim
                  | succ n71 ih71 =>
                    intro v2_71 m_worst_71 m_best_71 m_stack_71 h H locs hP hD hS ls hl
                    unfold lp_X4_findWays_71 at h
                    refine lv_iload_n hx hb dX4_findWays_71 rfl (lv_at hl 1 rfl) ?_
                    refine lv_if_le (tgt := 123) hx hb dX4_findWays_72 (by decide) (fun hc => ?_) (fun hc => ?_)
                    · replace h := h.1 hc
                      refine lv_aload_n hx hb dX4_findWays_123 rfl (lv_at hl 0 rfl) ?_
                      refine lv_aload_n hx hb dX4_findWays_124 rfl (lv_at hl 0 rfl) ?_
                      refine va_get (D := D) (ci := 4) (v := .ref (a 20)) (C := RX4) (T := TX4) (N := 32) hx hb hts hinX4 hown hK hP 0 rfl rfl 29 (by decide) (hts (.fieldLink RX4 70 "WorstPathsModel" "worst" "[J") (by decide +kernel)) (fun _ h9 => h9) rfl dX4_findWays_125 ?_
                      refine lv_iconst (v := 0) hx hb dX4_findWays_128 (by decide) ?_
                      obtain ⟨hq, h⟩ := h
                      refine va_lald (D := D) hx hb hK hP 20 2 rfl rfl hq dX4_findWays_129 ?_
                      refine lv_lconst (v := 0) hx hb dX4_findWays_130 (by decide) ?_
                      refine W.lcmp hx hb dX4_findWays_131 ?_
                      refine lv_if_lt (tgt := 139) hx hb dX4_findWays_132 (by decide) (fun hc => ?_) (fun hc => ?_)
                      · replace h := h.1 hc
                        refine lv_iconst (v := 0) hx hb dX4_findWays_139 (by decide) ?_
                        refine va_put (D := D) (ci := 4) (v := .int 0) (ty := .boolean) (C := RX4) (T := TX4) (N := 32) hx hb hts hinX4 tyX4 tyX4_ok nmX4 hown hK hP hD hS 0 rfl rfl 26 (by decide) (hts (.fieldLink RX4 167 "WorstPathsModel" "isAnswer" "Z") (by decide +kernel)) (fun _ h9 => h9) rfl (by decide +kernel) rfl rfl (Nat.le_of_ble_eq_true rfl) dX4_findWays_140 (fun H locs hP hD hS => ?_)
                        have hP : va_P D vwCl (wM a cI cZ cJ m_thrown m_sets m_ways m_penalty m_blocks m_edges m_pairs m_lines m_isFresh 0 m_time m_touchMany m_touch m_line m_from m_to m_bound m_pairA m_pairB m_comeTo m_greatest m_least m_nowGreatest m_nowLeast m_does m_mostTime m_leastTime m_countUnit_1 m_flagUnit_1 m_worst_71 m_best_71 m_stack_71) H := hP
                        have hD : va_D A (wM a cI cZ cJ m_thrown m_sets m_ways m_penalty m_blocks m_edges m_pairs m_lines m_isFresh 0 m_time m_touchMany m_touch m_line m_from m_to m_bound m_pairA m_pairB m_comeTo m_greatest m_least m_nowGreatest m_nowLeast m_does m_mostTime m_leastTime m_countUnit_1 m_flagUnit_1 m_worst_71 m_best_71 m_stack_71) := hD
                        refine wz_mono hQz ?_
                        exact W.vret hx hb hr (fun t ht hW => ⟨⟨(0, m_countUnit_1, m_flagUnit_1, m_worst_71, m_best_71, m_stack_71), rfl, h, by rw [ht]; exact hP, va_K.moved hW.alike hK, hD⟩, hS.F ht⟩) hS.2.2 dX4_findWays_143
                      · replace h := h.2 hc
                        refine lv_iconst (v := 1) hx hb dX4_findWays_135 (by decide) ?_
                        refine lv_goto (tgt := 140) hx hb dX4_findWays_136 (by decide) ?_
                        refine va_put (D := D) (ci := 4) (v := .int 1) (ty := .boolean) (C := RX4) (T := TX4) (N := 32) hx hb hts hinX4 tyX4 tyX4_ok nmX4 hown hK hP hD hS 0 rfl rfl 26 (by decide) (hts (.fieldLink RX4 167 "WorstPathsModel" "isAnswer" "Z") (by decide +kernel)) (fun _ h9 => h9) rfl (by decide +kernel) rfl rfl (Nat.le_of_ble_eq_true rfl) dX4_findWays_140 (fun H locs hP hD hS => ?_)
                        have hP : va_P D vwCl (wM a cI cZ cJ m_thrown m_sets m_ways m_penalty m_blocks m_edges m_pairs m_lines m_isFresh 1 m_time m_touchMany m_touch m_line m_from m_to m_bound m_pairA m_pairB m_comeTo m_greatest m_least m_nowGreatest m_nowLeast m_does m_mostTime m_leastTime m_countUnit_1 m_flagUnit_1 m_worst_71 m_best_71 m_stack_71) H := hP
                        have hD : va_D A (wM a cI cZ cJ m_thrown m_sets m_ways m_penalty m_blocks m_edges m_pairs m_lines m_isFresh 1 m_time m_touchMany m_touch m_line m_from m_to m_bound m_pairA m_pairB m_comeTo m_greatest m_least m_nowGreatest m_nowLeast m_does m_mostTime m_leastTime m_countUnit_1 m_flagUnit_1 m_worst_71 m_best_71 m_stack_71) := hD
                        refine wz_mono hQz ?_
                        exact W.vret hx hb hr (fun t ht hW => ⟨⟨(1, m_countUnit_1, m_flagUnit_1, m_worst_71, m_best_71, m_stack_71), rfl, h, by rw [ht]; exact hP, va_K.moved hW.alike hK, hD⟩, hS.F ht⟩) hS.2.2 dX4_findWays_143
                    · replace h := h.2 hc
                      refine lv_aload_n hx hb dX4_findWays_75 rfl (lv_at hl 0 rfl) ?_
                      refine lv_aload_n hx hb dX4_findWays_76 rfl (lv_at hl 0 rfl) ?_
                      refine va_get (D := D) (ci := 4) (v := .ref (a 22)) (C := RX4) (T := TX4) (N := 32) hx hb hts hinX4 hown hK hP 0 rfl rfl 31 (by decide) (hts (.fieldLink RX4 77 "WorstPathsModel" "stack" "[I") (by decide +kernel)) (fun _ h9 => h9) rfl dX4_findWays_77 ?_
                      refine lv_iload_n hx hb dX4_findWays_80 rfl (lv_at hl 1 rfl) ?_
                      refine lv_iconst (v := 1) hx hb dX4_findWays_81 (by decide) ?_
                      refine lv_isub hx hb dX4_findWays_82 ?_
                      obtain ⟨hq, h⟩ := h
                      refine va_iald (D := D) hx hb hK hP 22 0 rfl rfl hq dX4_findWays_83 ?_
                      have hF := wz_free hD hS hA
                      refine va_calli (va_runV (As := [.int (m_stack_71 (Int32.toNatClampNeg (v2_71 - 1)))]) (rest := []) ⟨hx, hb, hml, hown, hts⟩ (c_X4_firstUnknown l D a cI cZ cJ _ m_thrown m_sets m_ways m_penalty m_blocks m_edges m_pairs m_lines m_isFresh 1 m_time m_touchMany m_touch m_line m_from m_to m_bound m_pairA m_pairB m_comeTo m_greatest m_least m_nowGreatest m_nowLeast m_does m_mostTime m_leastTime m_countUnit_1 m_flagUnit_1 m_worst_71 m_best_71 m_stack_71 (m_stack_71 (Int32.toNatClampNeg (v2_71 - 1))) _ h) (cwV 1 hts gX4_findWays_X4_firstUnknown rfl rfl rfl (by decide +kernel) ⟨Nat.le_of_ble_eq_true rfl, Nat.le_of_ble_eq_true rfl⟩) ⟨wz_blind, va_recv hK hP (ci := 4) (q0 := 0) rfl rfl, fun U hU hW => wz_at hU hW hP hK hD⟩ rfl rfl hl.1 rfl (lv_room (Nat.le_of_ble_eq_true rfl)) dX4_findWays_84 ⟨Nat.zero_le _, Nat.zero_le _⟩) hS (fun q _ hq => hF q hq) hF (fun r_84 u t H locs ht hvm h hB hz1 hk1 hS => ?_)
                      obtain ⟨hP, -, hD⟩ := wz_back ht hF hB
                      have hP : va_P D vwCl (wM a cI cZ cJ m_thrown m_sets m_ways m_penalty m_blocks m_edges m_pairs m_lines m_isFresh 1 m_time m_touchMany m_touch m_line m_from m_to m_bound m_pairA m_pairB m_comeTo m_greatest m_least m_nowGreatest m_nowLeast m_does m_mostTime m_leastTime m_countUnit_1 m_flagUnit_1 m_worst_71 m_best_71 m_stack_71) H := hP
                      have hD : va_D A (wM a cI cZ cJ m_thrown m_sets m_ways m_penalty m_blocks m_edges m_pairs m_lines m_isFresh 1 m_time m_touchMany m_touch m_line m_from m_to m_bound m_pairA m_pairB m_comeTo m_greatest m_least m_nowGreatest m_nowLeast m_does m_mostTime m_leastTime m_countUnit_1 m_flagUnit_1 m_worst_71 m_best_71 m_stack_71) := hD
                      refine lv_istore_n (lv' := [(3, .int r_84), (0, .ref (a 0)), (2, .int v2_71)]) hx hb dX4_findWays_87 rfl hl (by decide) rfl (fun ls hl => ?_)
                      refine lv_iload_n hx hb dX4_findWays_88 rfl (lv_at hl 0 rfl) ?_
                      refine lv_if_lt (tgt := 105) hx hb dX4_findWays_89 (by decide) (fun hc => ?_) (fun hc => ?_)
                      · replace h := h.1 hc
                        refine lv_aload_n hx hb dX4_findWays_105 rfl (lv_at hl 1 rfl) ?_
                        refine lv_aload_n hx hb dX4_findWays_106 rfl (lv_at hl 1 rfl) ?_
                        refine va_get (D := D) (ci := 4) (v := .ref (a 22)) (C := RX4) (T := TX4) (N := 32) hx hb hts hinX4 hown hK hP 0 rfl rfl 31 (by decide) (hts (.fieldLink RX4 77 "WorstPathsModel" "stack" "[I") (by decide +kernel)) (fun _ h9 => h9) rfl dX4_findWays_107 ?_
                        refine lv_iload_n hx hb dX4_findWays_110 rfl (lv_at hl 2 rfl) ?_
                        refine lv_iconst (v := 1) hx hb dX4_findWays_111 (by decide) ?_
                        refine lv_isub hx hb dX4_findWays_112 ?_
                        obtain ⟨hq, h⟩ := h
                        refine va_iald (D := D) hx hb hK hP 22 0 rfl rfl hq dX4_findWays_113 ?_
                        have hF := wz_free hD hS hA
                        refine va_callv (va_runV (As := [.int (m_stack_71 (Int32.toNatClampNeg (v2_71 - 1)))]) (rest := []) ⟨hx, hb, hml, hown, hts⟩ (c_X4_workOut l D a cI cZ cJ _ m_thrown m_sets m_ways m_penalty m_blocks m_edges m_pairs m_lines m_isFresh 1 m_time m_touchMany m_touch m_line m_from m_to m_bound m_pairA m_pairB m_comeTo m_greatest m_least m_nowGreatest m_nowLeast m_does m_mostTime m_leastTime m_countUnit_1 m_flagUnit_1 m_worst_71 m_best_71 m_stack_71 (m_stack_71 (Int32.toNatClampNeg (v2_71 - 1))) _ h) (cwV 1 hts gX4_findWays_X4_workOut rfl rfl rfl (by decide +kernel) ⟨Nat.le_of_ble_eq_true rfl, Nat.le_of_ble_eq_true rfl⟩) ⟨wz_blind, va_recv hK hP (ci := 4) (q0 := 0) rfl rfl, fun U hU hW => wz_at hU hW hP hK hD⟩ rfl rfl hl.1 rfl (lv_room (Nat.le_of_ble_eq_true rfl)) dX4_findWays_114 ⟨Nat.zero_le _, Nat.zero_le _⟩) hS (fun q _ hq => hF q hq) hF (fun u t H locs ht hvm h hB hz1 hk1 hS => ?_)
                        obtain ⟨m_worst_114, m_best_114⟩ := u
                        dsimp only at h hB
                        obtain ⟨hP, -, hD⟩ := wz_back ht hF hB
                        have hP : va_P D vwCl (wM a cI cZ cJ m_thrown m_sets m_ways m_penalty m_blocks m_edges m_pairs m_lines m_isFresh 1 m_time m_touchMany m_touch m_line m_from m_to m_bound m_pairA m_pairB m_comeTo m_greatest m_least m_nowGreatest m_nowLeast m_does m_mostTime m_leastTime m_countUnit_1 m_flagUnit_1 m_worst_114 m_best_114 m_stack_71) H := hP
                        have hD : va_D A (wM a cI cZ cJ m_thrown m_sets m_ways m_penalty m_blocks m_edges m_pairs m_lines m_isFresh 1 m_time m_touchMany m_touch m_line m_from m_to m_bound m_pairA m_pairB m_comeTo m_greatest m_least m_nowGreatest m_nowLeast m_does m_mostTime m_leastTime m_countUnit_1 m_flagUnit_1 m_worst_114 m_best_114 m_stack_71) := hD
                        refine lv_iinc (v := (v2_71 + (-1))) (lv' := [(2, .int (v2_71 + (-1))), (3, .int r_84), (0, .ref (a 0))]) hx hb dX4_findWays_117 hl (k := 2) rfl rfl (by decide) rfl (fun ls hl => ?_)
                        refine lv_goto (tgt := 71) hx hb dX4_findWays_120 (by decide) ?_
                        exact ih71 (v2_71 + (-1)) m_worst_114 m_best_114 m_stack_71 h _ _ hP hD hS _ (lv_sub hl [2, 0] rfl)
                      · replace h := h.2 hc
                        refine lv_aload_n hx hb dX4_findWays_92 rfl (lv_at hl 1 rfl) ?_
                        refine va_get (D := D) (ci := 4) (v := .ref (a 22)) (C := RX4) (T := TX4) (N := 32) hx hb hts hinX4 hown hK hP 0 rfl rfl 31 (by decide) (hts (.fieldLink RX4 77 "WorstPathsModel" "stack" "[I") (by decide +kernel)) (fun _ h9 => h9) rfl dX4_findWays_93 ?_
                        refine lv_iload_n hx hb dX4_findWays_96 rfl (lv_at hl 2 rfl) ?_
                        refine lv_iload_n hx hb dX4_findWays_97 rfl (lv_at hl 0 rfl) ?_
                        obtain ⟨hq, h⟩ := h
                        refine va_iast (D := D) hx hb hK hP hD hS 22 0 rfl rfl hq dX4_findWays_98 (fun H locs hP hD hS => ?_)
                        have hP : va_P D vwCl (wM a cI cZ cJ m_thrown m_sets m_ways m_penalty m_blocks m_edges m_pairs m_lines m_isFresh 1 m_time m_touchMany m_touch m_line m_from m_to m_bound m_pairA m_pairB m_comeTo m_greatest m_least m_nowGreatest m_nowLeast m_does m_mostTime m_leastTime m_countUnit_1 m_flagUnit_1 m_worst_71 m_best_71 (upd m_stack_71 (Int32.toNatClampNeg v2_71) r_84)) H := hP
                        have hD : va_D A (wM a cI cZ cJ m_thrown m_sets m_ways m_penalty m_blocks m_edges m_pairs m_lines m_isFresh 1 m_time m_touchMany m_touch m_line m_from m_to m_bound m_pairA m_pairB m_comeTo m_greatest m_least m_nowGreatest m_nowLeast m_does m_mostTime m_leastTime m_countUnit_1 m_flagUnit_1 m_worst_71 m_best_71 (upd m_stack_71 (Int32.toNatClampNeg v2_71) r_84)) := hD
                        refine lv_iinc (v := (v2_71 + 1)) (lv' := [(2, .int (v2_71 + 1)), (3, .int r_84), (0, .ref (a 0))]) hx hb dX4_findWays_99 hl (k := 2) rfl rfl (by decide) rfl (fun ls hl => ?_)
                        refine lv_goto (tgt := 120) hx hb dX4_findWays_102 (by decide) ?_
                        refine lv_goto (tgt := 71) hx hb dX4_findWays_120 (by decide) ?_
                        exact ih71 (v2_71 + 1) m_worst_71 m_best_71 (upd m_stack_71 (Int32.toNatClampNeg v2_71) r_84) h _ _ hP hD hS _ (lv_sub hl [2, 0] rfl)
                obtain ⟨k9, h⟩ := h
                exact LP71 k9 1 m_worst_42 m_best (upd m_stack_18 (Int32.toNatClampNeg 0) 0) h _ _ hP hD hS _ (lv_sub hl [1, 0] rfl)
              · replace h := h.2 hc
                refine lv_aload_n hx hb dX4_findWays_47 rfl (lv_at hl 0 rfl) ?_
                refine va_get (D := D) (ci := 4) (v := .ref (a 20)) (C := RX4) (T := TX4) (N := 32) hx hb hts hinX4 hown hK hP 0 rfl rfl 29 (by decide) (hts (.fieldLink RX4 70 "WorstPathsModel" "worst" "[J") (by decide +kernel)) (fun _ h9 => h9) rfl dX4_findWays_48 ?_
                refine lv_iload_n hx hb dX4_findWays_51 rfl (lv_at hl 2 rfl) ?_
                refine lv_ldc2 (v := (-2)) hx hb hown (hts (.constantLong RX4 152 ((-2))) (by decide +kernel)) dX4_findWays_52 ?_
                obtain ⟨hq, h⟩ := h
                refine va_last (D := D) hx hb hK hP hD hS 20 2 rfl rfl hq dX4_findWays_55 (fun H locs hP hD hS => ?_)
                have hP : va_P D vwCl (wM a cI cZ cJ m_thrown m_sets m_ways m_penalty m_blocks m_edges m_pairs m_lines m_isFresh 1 m_time m_touchMany m_touch m_line m_from m_to m_bound m_pairA m_pairB m_comeTo m_greatest m_least m_nowGreatest m_nowLeast m_does m_mostTime m_leastTime m_countUnit_1 m_flagUnit_1 (vp_updL m_worst_42 (Int32.toNatClampNeg v2_42) (-2)) m_best m_stack_18) H := hP
                have hD : va_D A (wM a cI cZ cJ m_thrown m_sets m_ways m_penalty m_blocks m_edges m_pairs m_lines m_isFresh 1 m_time m_touchMany m_touch m_line m_from m_to m_bound m_pairA m_pairB m_comeTo m_greatest m_least m_nowGreatest m_nowLeast m_does m_mostTime m_leastTime m_countUnit_1 m_flagUnit_1 (vp_updL m_worst_42 (Int32.toNatClampNeg v2_42) (-2)) m_best m_stack_18) := hD
                refine lv_iinc (v := (v2_42 + 1)) (lv' := [(2, .int (v2_42 + 1)), (0, .ref (a 0)), (1, .int r_1)]) hx hb dX4_findWays_56 hl (k := 2) rfl rfl (by decide) rfl (fun ls hl => ?_)
                refine lv_goto (tgt := 42) hx hb dX4_findWays_59 (by decide) ?_
                exact ih42 (v2_42 + 1) (vp_updL m_worst_42 (Int32.toNatClampNeg v2_42) (-2)) h _ _ hP hD hS _ (lv_sub hl [1, 2, 0] rfl)
          obtain ⟨k9, h⟩ := h
          exact LP42 k9 0 m_worst h _ _ hP hD hS _ (lv_sub hl [2, 1, 0] rfl)
        · replace h := h.2 hc
          refine wz_mono hQz ?_
          exact W.vret hx hb hr (fun t ht hW => ⟨⟨(1, m_countUnit_1, m_flagUnit_1, m_worst, m_best, m_stack_18), rfl, h, by rw [ht]; exact hP, va_K.moved hW.alike hK, hD⟩, hS.F ht⟩) hS.2.2 dX4_findWays_39
def wp_X4_work (m_sets : Int32) (m_ways : Int32) (m_penalty : Int32) (m_blocks : Int32) (m_edges : Int32) (m_pairs : Int32) (m_lines : Int32) (m_isFresh : Int32) (m_isAnswer : Int32) (m_time : Nat → Int32) (m_touchMany : Nat → Int32) (m_touch : Nat → Int32) (m_line : Nat → Int32) (m_from : Nat → Int32) (m_to : Nat → Int32) (m_bound : Nat → Int32) (m_pairA : Nat → Int32) (m_pairB : Nat → Int32) (m_comeTo : Nat → Int32) (m_greatest : Nat → Int32) (m_least : Nat → Int32) (m_nowGreatest : Nat → Int32) (m_nowLeast : Nat → Int32) (m_does : Nat → Int32) (m_mostTime : Nat → Int64) (m_leastTime : Nat → Int64) (m_countUnit : Nat → Int32) (m_flagUnit : Nat → Int32) (m_worst : Nat → Int64) (m_best : Nat → Int64) (m_stack : Nat → Int32) (Q : Int32 → Int32 → (Nat → Int32) → (Nat → Int32) → (Nat → Int32) → (Nat → Int32) → (Nat → Int32) → (Nat → Int32) → (Nat → Int64) → (Nat → Int64) → (Nat → Int32) → (Nat → Int32) → (Nat → Int64) → (Nat → Int64) → (Nat → Int32) → Prop) : Prop := (m_isFresh = 0 → wp_X4_findAges m_sets m_ways m_penalty m_blocks m_edges m_lines m_time m_touchMany m_touch m_line m_from m_to m_comeTo m_greatest m_least m_nowGreatest m_nowLeast m_does m_mostTime m_leastTime (fun m_comeTo_9 m_greatest_9 m_least_9 m_nowGreatest_9 m_nowLeast_9 m_does_9 m_mostTime_9 m_leastTime_9 => wp_X4_findWays m_blocks m_edges m_pairs m_isAnswer m_from m_to m_bound m_pairA m_pairB m_comeTo_9 m_mostTime_9 m_leastTime_9 m_countUnit m_flagUnit m_worst m_best m_stack (fun m_isAnswer_13 m_countUnit_13 m_flagUnit_13 m_worst_13 m_best_13 m_stack_13 => Q 1 m_isAnswer_13 m_comeTo_9 m_greatest_9 m_least_9 m_nowGreatest_9 m_nowLeast_9 m_does_9 m_mostTime_9 m_leastTime_9 m_countUnit_13 m_flagUnit_13 m_worst_13 m_best_13 m_stack_13))) ∧ (¬ m_isFresh = 0 → Q m_isFresh m_isAnswer m_comeTo m_greatest m_least m_nowGreatest m_nowLeast m_does m_mostTime m_leastTime m_countUnit m_flagUnit m_worst m_best m_stack)
abbrev rm_X4_work : Room := { frames := 4, cells := 0, slots := 0, locals := 97 }
set_option maxHeartbeats 4000000 in
set_option maxRecDepth 100000 in
theorem c_X4_work (l : Launch) (D : va_G) (a : Nat → Nat) (cI : ClassId) (cZ : ClassId) (cJ : ClassId) (sz : Nat) (m_thrown : Int32) (m_sets : Int32) (m_ways : Int32) (m_penalty : Int32) (m_blocks : Int32) (m_edges : Int32) (m_pairs : Int32) (m_lines : Int32) (m_isFresh : Int32) (m_isAnswer : Int32) (m_time : Nat → Int32) (m_touchMany : Nat → Int32) (m_touch : Nat → Int32) (m_line : Nat → Int32) (m_from : Nat → Int32) (m_to : Nat → Int32) (m_bound : Nat → Int32) (m_pairA : Nat → Int32) (m_pairB : Nat → Int32) (m_comeTo : Nat → Int32) (m_greatest : Nat → Int32) (m_least : Nat → Int32) (m_nowGreatest : Nat → Int32) (m_nowLeast : Nat → Int32) (m_does : Nat → Int32) (m_mostTime : Nat → Int64) (m_leastTime : Nat → Int64) (m_countUnit : Nat → Int32) (m_flagUnit : Nat → Int32) (m_worst : Nat → Int64) (m_best : Nat → Int64) (m_stack : Nat → Int32) (Q : Int32 → Int32 → (Nat → Int32) → (Nat → Int32) → (Nat → Int32) → (Nat → Int32) → (Nat → Int32) → (Nat → Int32) → (Nat → Int64) → (Nat → Int64) → (Nat → Int32) → (Nat → Int32) → (Nat → Int64) → (Nat → Int64) → (Nat → Int32) → Prop) (h : wp_X4_work m_sets m_ways m_penalty m_blocks m_edges m_pairs m_lines m_isFresh m_isAnswer m_time m_touchMany m_touch m_line m_from m_to m_bound m_pairA m_pairB m_comeTo m_greatest m_least m_nowGreatest m_nowLeast m_does m_mostTime m_leastTime m_countUnit m_flagUnit m_worst m_best m_stack Q) : Met l yX4_work wsX4_work rm_X4_work (va_Pc [.ref (a 0)] (inW D cI cZ cJ sz (wM a cI cZ cJ m_thrown m_sets m_ways m_penalty m_blocks m_edges m_pairs m_lines m_isFresh m_isAnswer m_time m_touchMany m_touch m_line m_from m_to m_bound m_pairA m_pairB m_comeTo m_greatest m_least m_nowGreatest m_nowLeast m_does m_mostTime m_leastTime m_countUnit m_flagUnit m_worst m_best m_stack))) (va_Qv (fun (u : Int32 × Int32 × (Nat → Int32) × (Nat → Int32) × (Nat → Int32) × (Nat → Int32) × (Nat → Int32) × (Nat → Int32) × (Nat → Int64) × (Nat → Int64) × (Nat → Int32) × (Nat → Int32) × (Nat → Int64) × (Nat → Int64) × (Nat → Int32)) => Q u.1 u.2.1 u.2.2.1 u.2.2.2.1 u.2.2.2.2.1 u.2.2.2.2.2.1 u.2.2.2.2.2.2.1 u.2.2.2.2.2.2.2.1 u.2.2.2.2.2.2.2.2.1 u.2.2.2.2.2.2.2.2.2.1 u.2.2.2.2.2.2.2.2.2.2.1 u.2.2.2.2.2.2.2.2.2.2.2.1 u.2.2.2.2.2.2.2.2.2.2.2.2.1 u.2.2.2.2.2.2.2.2.2.2.2.2.2.1 u.2.2.2.2.2.2.2.2.2.2.2.2.2.2) (fun (u : Int32 × Int32 × (Nat → Int32) × (Nat → Int32) × (Nat → Int32) × (Nat → Int32) × (Nat → Int32) × (Nat → Int32) × (Nat → Int64) × (Nat → Int64) × (Nat → Int32) × (Nat → Int32) × (Nat → Int64) × (Nat → Int64) × (Nat → Int32)) => outW D cI cZ cJ (va_A (wM a cI cZ cJ m_thrown m_sets m_ways m_penalty m_blocks m_edges m_pairs m_lines m_isFresh m_isAnswer m_time m_touchMany m_touch m_line m_from m_to m_bound m_pairA m_pairB m_comeTo m_greatest m_least m_nowGreatest m_nowLeast m_does m_mostTime m_leastTime m_countUnit m_flagUnit m_worst m_best m_stack) sz) (wM a cI cZ cJ m_thrown m_sets m_ways m_penalty m_blocks m_edges m_pairs m_lines u.1 u.2.1 m_time m_touchMany m_touch m_line m_from m_to m_bound m_pairA m_pairB u.2.2.1 u.2.2.2.1 u.2.2.2.2.1 u.2.2.2.2.2.1 u.2.2.2.2.2.2.1 u.2.2.2.2.2.2.2.1 u.2.2.2.2.2.2.2.2.1 u.2.2.2.2.2.2.2.2.2.1 u.2.2.2.2.2.2.2.2.2.2.1 u.2.2.2.2.2.2.2.2.2.2.2.1 u.2.2.2.2.2.2.2.2.2.2.2.2.1 u.2.2.2.2.2.2.2.2.2.2.2.2.2.1 u.2.2.2.2.2.2.2.2.2.2.2.2.2.2)) (va_A (wM a cI cZ cJ m_thrown m_sets m_ways m_penalty m_blocks m_edges m_pairs m_lines m_isFresh m_isAnswer m_time m_touchMany m_touch m_line m_from m_to m_bound m_pairA m_pairB m_comeTo m_greatest m_least m_nowGreatest m_nowLeast m_does m_mostTime m_leastTime m_countUnit m_flagUnit m_worst m_best m_stack) sz)) 0 0 (va_A (wM a cI cZ cJ m_thrown m_sets m_ways m_penalty m_blocks m_edges m_pairs m_lines m_isFresh m_isAnswer m_time m_touchMany m_touch m_line m_from m_to m_bound m_pairA m_pairB m_comeTo m_greatest m_least m_nowGreatest m_nowLeast m_does m_mostTime m_leastTime m_countUnit m_flagUnit m_worst m_best m_stack) sz) := by
  refine Met.ofW (cc := cX4_work) (maxL := 1) (ret := none) (by decide +kernel) rfl ?_
  intro p e s m args below meth c s₁ B hml hv
  obtain ⟨rfl, hsz, hP, hK, hD0⟩ := hv
  have hx := B.exec
  have hb := B.bytes
  have hr := B.returns
  have hts := atoms_spec (ws := wsX4_work) B.pre
  have hown : s.vm.findClass RX4 = some m.cls := findClass_of_methodNamed B.named
  have hlocks := B.notSynchronized
  have hinX4 : ∀ w ∈ wsX40, w ∈ wsX4_work := by decide +kernel
  subst hsz
  have hD := hD0.self (sz := s.heap.size)
  generalize hAe : va_A (wM a cI cZ cJ m_thrown m_sets m_ways m_penalty m_blocks m_edges m_pairs m_lines m_isFresh m_isAnswer m_time m_touchMany m_touch m_line m_from m_to m_bound m_pairA m_pairB m_comeTo m_greatest m_least m_nowGreatest m_nowLeast m_does m_mostTime m_leastTime m_countUnit m_flagUnit m_worst m_best m_stack) s.heap.size = A at hD ⊢
  have hA : ∀ q : Nat, s.heap.size ≤ q → A q := fun q h => by rw [← hAe]; exact Or.inr h
  have hS : va_S A s.heap s.heap [] := va_S.rf
  have hP : va_P D vwCl (wM a cI cZ cJ m_thrown m_sets m_ways m_penalty m_blocks m_edges m_pairs m_lines m_isFresh m_isAnswer m_time m_touchMany m_touch m_line m_from m_to m_bound m_pairA m_pairB m_comeTo m_greatest m_least m_nowGreatest m_nowLeast m_does m_mostTime m_leastTime m_countUnit m_flagUnit m_worst m_best m_stack) s.heap := hP
  have hl := lv_entry ([.ref (a 0)]) (n := 1) (Nat.le_of_ble_eq_true rfl)
  rw [lg_entry_eq]
  generalize (lg_sl ([.ref (a 0)]) ++ List.replicate (1 - (lg_sl ([.ref (a 0)])).length) Slot.unset).toArray = ls at hl ⊢
  have hl : lv_has ls 1 [(0, .ref (a 0))] := hl
  refine wz_abs (fun Qz hQz => ?_)
  unfold wp_X4_work at h
  refine lv_aload_n hx hb dX4_work_0 rfl (lv_at hl 0 rfl) ?_
  refine va_get (D := D) (ci := 4) (v := .int m_isFresh) (C := RX4) (T := TX4) (N := 32) hx hb hts hinX4 hown hK hP 0 rfl rfl 17 (by decide) (hts (.fieldLink RX4 109 "WorstPathsModel" "isFresh" "Z") (by decide +kernel)) (fun _ h9 => h9) rfl dX4_work_1 ?_
  refine lv_if_eq (tgt := 8) hx hb dX4_work_4 (by decide) (fun hc => ?_) (fun hc => ?_)
  · replace h := h.1 hc
    refine lv_aload_n hx hb dX4_work_8 rfl (lv_at hl 0 rfl) ?_
    have hF := wz_free hD hS hA
    refine va_callv (va_runV (As := []) (rest := []) ⟨hx, hb, hml, hown, hts⟩ (c_X4_findAges l D a cI cZ cJ _ m_thrown m_sets m_ways m_penalty m_blocks m_edges m_pairs m_lines m_isFresh m_isAnswer m_time m_touchMany m_touch m_line m_from m_to m_bound m_pairA m_pairB m_comeTo m_greatest m_least m_nowGreatest m_nowLeast m_does m_mostTime m_leastTime m_countUnit m_flagUnit m_worst m_best m_stack _ h) (cwV 0 hts gX4_work_X4_findAges rfl rfl rfl (by decide +kernel) ⟨Nat.le_of_ble_eq_true rfl, Nat.le_of_ble_eq_true rfl⟩) ⟨wz_blind, va_recv hK hP (ci := 4) (q0 := 0) rfl rfl, fun U hU hW => wz_at hU hW hP hK hD⟩ rfl rfl hl.1 rfl (lv_room (Nat.le_of_ble_eq_true rfl)) dX4_work_9 ⟨Nat.zero_le _, Nat.zero_le _⟩) hS (fun q _ hq => hF q hq) hF (fun u t H locs ht hvm h hB hz1 hk1 hS => ?_)
    obtain ⟨m_comeTo_9, m_greatest_9, m_least_9, m_nowGreatest_9, m_nowLeast_9, m_does_9, m_mostTime_9, m_leastTime_9⟩ := u
    dsimp only at h hB
    obtain ⟨hP, -, hD⟩ := wz_back ht hF hB
    have hP : va_P D vwCl (wM a cI cZ cJ m_thrown m_sets m_ways m_penalty m_blocks m_edges m_pairs m_lines m_isFresh m_isAnswer m_time m_touchMany m_touch m_line m_from m_to m_bound m_pairA m_pairB m_comeTo_9 m_greatest_9 m_least_9 m_nowGreatest_9 m_nowLeast_9 m_does_9 m_mostTime_9 m_leastTime_9 m_countUnit m_flagUnit m_worst m_best m_stack) H := hP
    have hD : va_D A (wM a cI cZ cJ m_thrown m_sets m_ways m_penalty m_blocks m_edges m_pairs m_lines m_isFresh m_isAnswer m_time m_touchMany m_touch m_line m_from m_to m_bound m_pairA m_pairB m_comeTo_9 m_greatest_9 m_least_9 m_nowGreatest_9 m_nowLeast_9 m_does_9 m_mostTime_9 m_leastTime_9 m_countUnit m_flagUnit m_worst m_best m_stack) := hD
    refine lv_aload_n hx hb dX4_work_12 rfl (lv_at hl 0 rfl) ?_
    have hF := wz_free hD hS hA
    refine va_callv (va_runV (As := []) (rest := []) ⟨hx, hb, hml, hown, hts⟩ (c_X4_findWays l D a cI cZ cJ _ m_thrown m_sets m_ways m_penalty m_blocks m_edges m_pairs m_lines m_isFresh m_isAnswer m_time m_touchMany m_touch m_line m_from m_to m_bound m_pairA m_pairB m_comeTo_9 m_greatest_9 m_least_9 m_nowGreatest_9 m_nowLeast_9 m_does_9 m_mostTime_9 m_leastTime_9 m_countUnit m_flagUnit m_worst m_best m_stack _ h) (cwV 0 hts gX4_work_X4_findWays rfl rfl rfl (by decide +kernel) ⟨Nat.le_of_ble_eq_true rfl, Nat.le_of_ble_eq_true rfl⟩) ⟨wz_blind, va_recv hK hP (ci := 4) (q0 := 0) rfl rfl, fun U hU hW => wz_at hU hW hP hK hD⟩ rfl rfl hl.1 rfl (lv_room (Nat.le_of_ble_eq_true rfl)) dX4_work_13 ⟨Nat.zero_le _, Nat.zero_le _⟩) hS (fun q _ hq => hF q hq) hF (fun u t H locs ht hvm h hB hz1 hk1 hS => ?_)
    obtain ⟨m_isAnswer_13, m_countUnit_13, m_flagUnit_13, m_worst_13, m_best_13, m_stack_13⟩ := u
    dsimp only at h hB
    obtain ⟨hP, -, hD⟩ := wz_back ht hF hB
    have hP : va_P D vwCl (wM a cI cZ cJ m_thrown m_sets m_ways m_penalty m_blocks m_edges m_pairs m_lines m_isFresh m_isAnswer_13 m_time m_touchMany m_touch m_line m_from m_to m_bound m_pairA m_pairB m_comeTo_9 m_greatest_9 m_least_9 m_nowGreatest_9 m_nowLeast_9 m_does_9 m_mostTime_9 m_leastTime_9 m_countUnit_13 m_flagUnit_13 m_worst_13 m_best_13 m_stack_13) H := hP
    have hD : va_D A (wM a cI cZ cJ m_thrown m_sets m_ways m_penalty m_blocks m_edges m_pairs m_lines m_isFresh m_isAnswer_13 m_time m_touchMany m_touch m_line m_from m_to m_bound m_pairA m_pairB m_comeTo_9 m_greatest_9 m_least_9 m_nowGreatest_9 m_nowLeast_9 m_does_9 m_mostTime_9 m_leastTime_9 m_countUnit_13 m_flagUnit_13 m_worst_13 m_best_13 m_stack_13) := hD
    refine lv_aload_n hx hb dX4_work_16 rfl (lv_at hl 0 rfl) ?_
    refine lv_iconst (v := 1) hx hb dX4_work_17 (by decide) ?_
    refine va_put (D := D) (ci := 4) (v := .int 1) (ty := .boolean) (C := RX4) (T := TX4) (N := 32) hx hb hts hinX4 tyX4 tyX4_ok nmX4 hown hK hP hD hS 0 rfl rfl 17 (by decide) (hts (.fieldLink RX4 109 "WorstPathsModel" "isFresh" "Z") (by decide +kernel)) (fun _ h9 => h9) rfl (by decide +kernel) rfl rfl (Nat.le_of_ble_eq_true rfl) dX4_work_18 (fun H locs hP hD hS => ?_)
    have hP : va_P D vwCl (wM a cI cZ cJ m_thrown m_sets m_ways m_penalty m_blocks m_edges m_pairs m_lines 1 m_isAnswer_13 m_time m_touchMany m_touch m_line m_from m_to m_bound m_pairA m_pairB m_comeTo_9 m_greatest_9 m_least_9 m_nowGreatest_9 m_nowLeast_9 m_does_9 m_mostTime_9 m_leastTime_9 m_countUnit_13 m_flagUnit_13 m_worst_13 m_best_13 m_stack_13) H := hP
    have hD : va_D A (wM a cI cZ cJ m_thrown m_sets m_ways m_penalty m_blocks m_edges m_pairs m_lines 1 m_isAnswer_13 m_time m_touchMany m_touch m_line m_from m_to m_bound m_pairA m_pairB m_comeTo_9 m_greatest_9 m_least_9 m_nowGreatest_9 m_nowLeast_9 m_does_9 m_mostTime_9 m_leastTime_9 m_countUnit_13 m_flagUnit_13 m_worst_13 m_best_13 m_stack_13) := hD
    refine wz_mono hQz ?_
    exact W.vret hx hb hr (fun t ht hW => ⟨⟨(1, m_isAnswer_13, m_comeTo_9, m_greatest_9, m_least_9, m_nowGreatest_9, m_nowLeast_9, m_does_9, m_mostTime_9, m_leastTime_9, m_countUnit_13, m_flagUnit_13, m_worst_13, m_best_13, m_stack_13), rfl, h, by rw [ht]; exact hP, va_K.moved hW.alike hK, hD⟩, hS.F ht⟩) hS.2.2 dX4_work_21
  · replace h := h.2 hc
    refine wz_mono hQz ?_
    exact W.vret hx hb hr (fun t ht hW => ⟨⟨(m_isFresh, m_isAnswer, m_comeTo, m_greatest, m_least, m_nowGreatest, m_nowLeast, m_does, m_mostTime, m_leastTime, m_countUnit, m_flagUnit, m_worst, m_best, m_stack), rfl, h, by rw [ht]; exact hP, va_K.moved hW.alike hK, hD⟩, hS.F ht⟩) hS.2.2 dX4_work_7
def wp_X4_hasAnswer (m_thrown : Int32) (m_sets : Int32) (m_ways : Int32) (m_penalty : Int32) (m_blocks : Int32) (m_edges : Int32) (m_pairs : Int32) (m_lines : Int32) (m_isFresh : Int32) (m_isAnswer : Int32) (m_time : Nat → Int32) (m_touchMany : Nat → Int32) (m_touch : Nat → Int32) (m_line : Nat → Int32) (m_from : Nat → Int32) (m_to : Nat → Int32) (m_bound : Nat → Int32) (m_pairA : Nat → Int32) (m_pairB : Nat → Int32) (m_comeTo : Nat → Int32) (m_greatest : Nat → Int32) (m_least : Nat → Int32) (m_nowGreatest : Nat → Int32) (m_nowLeast : Nat → Int32) (m_does : Nat → Int32) (m_mostTime : Nat → Int64) (m_leastTime : Nat → Int64) (m_countUnit : Nat → Int32) (m_flagUnit : Nat → Int32) (m_worst : Nat → Int64) (m_best : Nat → Int64) (m_stack : Nat → Int32) (Q : Int32 → Int32 → Int32 → Int32 → (Nat → Int32) → (Nat → Int32) → (Nat → Int32) → (Nat → Int32) → (Nat → Int32) → (Nat → Int32) → (Nat → Int64) → (Nat → Int64) → (Nat → Int32) → (Nat → Int32) → (Nat → Int64) → (Nat → Int64) → (Nat → Int32) → Prop) : Prop := wp_X4_work m_sets m_ways m_penalty m_blocks m_edges m_pairs m_lines m_isFresh m_isAnswer m_time m_touchMany m_touch m_line m_from m_to m_bound m_pairA m_pairB m_comeTo m_greatest m_least m_nowGreatest m_nowLeast m_does m_mostTime m_leastTime m_countUnit m_flagUnit m_worst m_best m_stack (fun m_isFresh_1 m_isAnswer_1 m_comeTo_1 m_greatest_1 m_least_1 m_nowGreatest_1 m_nowLeast_1 m_does_1 m_mostTime_1 m_leastTime_1 m_countUnit_1 m_flagUnit_1 m_worst_1 m_best_1 m_stack_1 => (m_isAnswer_1 = 0 → (narrow .boolean (.int m_isAnswer_1) = .int m_isAnswer_1) ∧ Q m_isAnswer_1 1 m_isFresh_1 m_isAnswer_1 m_comeTo_1 m_greatest_1 m_least_1 m_nowGreatest_1 m_nowLeast_1 m_does_1 m_mostTime_1 m_leastTime_1 m_countUnit_1 m_flagUnit_1 m_worst_1 m_best_1 m_stack_1) ∧ (¬ m_isAnswer_1 = 0 → (narrow .boolean (.int m_isAnswer_1) = .int m_isAnswer_1) ∧ Q m_isAnswer_1 0 m_isFresh_1 m_isAnswer_1 m_comeTo_1 m_greatest_1 m_least_1 m_nowGreatest_1 m_nowLeast_1 m_does_1 m_mostTime_1 m_leastTime_1 m_countUnit_1 m_flagUnit_1 m_worst_1 m_best_1 m_stack_1))
abbrev rm_X4_hasAnswer : Room := { frames := 5, cells := 0, slots := 0, locals := 117 }
set_option maxHeartbeats 4000000 in
set_option maxRecDepth 100000 in
theorem c_X4_hasAnswer (l : Launch) (D : va_G) (a : Nat → Nat) (cI : ClassId) (cZ : ClassId) (cJ : ClassId) (sz : Nat) (m_thrown : Int32) (m_sets : Int32) (m_ways : Int32) (m_penalty : Int32) (m_blocks : Int32) (m_edges : Int32) (m_pairs : Int32) (m_lines : Int32) (m_isFresh : Int32) (m_isAnswer : Int32) (m_time : Nat → Int32) (m_touchMany : Nat → Int32) (m_touch : Nat → Int32) (m_line : Nat → Int32) (m_from : Nat → Int32) (m_to : Nat → Int32) (m_bound : Nat → Int32) (m_pairA : Nat → Int32) (m_pairB : Nat → Int32) (m_comeTo : Nat → Int32) (m_greatest : Nat → Int32) (m_least : Nat → Int32) (m_nowGreatest : Nat → Int32) (m_nowLeast : Nat → Int32) (m_does : Nat → Int32) (m_mostTime : Nat → Int64) (m_leastTime : Nat → Int64) (m_countUnit : Nat → Int32) (m_flagUnit : Nat → Int32) (m_worst : Nat → Int64) (m_best : Nat → Int64) (m_stack : Nat → Int32) (Q : Int32 → Int32 → Int32 → Int32 → (Nat → Int32) → (Nat → Int32) → (Nat → Int32) → (Nat → Int32) → (Nat → Int32) → (Nat → Int32) → (Nat → Int64) → (Nat → Int64) → (Nat → Int32) → (Nat → Int32) → (Nat → Int64) → (Nat → Int64) → (Nat → Int32) → Prop) (h : wp_X4_hasAnswer m_thrown m_sets m_ways m_penalty m_blocks m_edges m_pairs m_lines m_isFresh m_isAnswer m_time m_touchMany m_touch m_line m_from m_to m_bound m_pairA m_pairB m_comeTo m_greatest m_least m_nowGreatest m_nowLeast m_does m_mostTime m_leastTime m_countUnit m_flagUnit m_worst m_best m_stack Q) : Met l yX4_hasAnswer wsX4_hasAnswer rm_X4_hasAnswer (va_Pc [.ref (a 0)] (inW D cI cZ cJ sz (wM a cI cZ cJ m_thrown m_sets m_ways m_penalty m_blocks m_edges m_pairs m_lines m_isFresh m_isAnswer m_time m_touchMany m_touch m_line m_from m_to m_bound m_pairA m_pairB m_comeTo m_greatest m_least m_nowGreatest m_nowLeast m_does m_mostTime m_leastTime m_countUnit m_flagUnit m_worst m_best m_stack))) (va_Qi (fun (r : Int32) (u : Int32 × Int32 × Int32 × (Nat → Int32) × (Nat → Int32) × (Nat → Int32) × (Nat → Int32) × (Nat → Int32) × (Nat → Int32) × (Nat → Int64) × (Nat → Int64) × (Nat → Int32) × (Nat → Int32) × (Nat → Int64) × (Nat → Int64) × (Nat → Int32)) => Q r u.1 u.2.1 u.2.2.1 u.2.2.2.1 u.2.2.2.2.1 u.2.2.2.2.2.1 u.2.2.2.2.2.2.1 u.2.2.2.2.2.2.2.1 u.2.2.2.2.2.2.2.2.1 u.2.2.2.2.2.2.2.2.2.1 u.2.2.2.2.2.2.2.2.2.2.1 u.2.2.2.2.2.2.2.2.2.2.2.1 u.2.2.2.2.2.2.2.2.2.2.2.2.1 u.2.2.2.2.2.2.2.2.2.2.2.2.2.1 u.2.2.2.2.2.2.2.2.2.2.2.2.2.2.1 u.2.2.2.2.2.2.2.2.2.2.2.2.2.2.2) (fun (u : Int32 × Int32 × Int32 × (Nat → Int32) × (Nat → Int32) × (Nat → Int32) × (Nat → Int32) × (Nat → Int32) × (Nat → Int32) × (Nat → Int64) × (Nat → Int64) × (Nat → Int32) × (Nat → Int32) × (Nat → Int64) × (Nat → Int64) × (Nat → Int32)) => outW D cI cZ cJ (va_A (wM a cI cZ cJ m_thrown m_sets m_ways m_penalty m_blocks m_edges m_pairs m_lines m_isFresh m_isAnswer m_time m_touchMany m_touch m_line m_from m_to m_bound m_pairA m_pairB m_comeTo m_greatest m_least m_nowGreatest m_nowLeast m_does m_mostTime m_leastTime m_countUnit m_flagUnit m_worst m_best m_stack) sz) (wM a cI cZ cJ u.1 m_sets m_ways m_penalty m_blocks m_edges m_pairs m_lines u.2.1 u.2.2.1 m_time m_touchMany m_touch m_line m_from m_to m_bound m_pairA m_pairB u.2.2.2.1 u.2.2.2.2.1 u.2.2.2.2.2.1 u.2.2.2.2.2.2.1 u.2.2.2.2.2.2.2.1 u.2.2.2.2.2.2.2.2.1 u.2.2.2.2.2.2.2.2.2.1 u.2.2.2.2.2.2.2.2.2.2.1 u.2.2.2.2.2.2.2.2.2.2.2.1 u.2.2.2.2.2.2.2.2.2.2.2.2.1 u.2.2.2.2.2.2.2.2.2.2.2.2.2.1 u.2.2.2.2.2.2.2.2.2.2.2.2.2.2.1 u.2.2.2.2.2.2.2.2.2.2.2.2.2.2.2)) (va_A (wM a cI cZ cJ m_thrown m_sets m_ways m_penalty m_blocks m_edges m_pairs m_lines m_isFresh m_isAnswer m_time m_touchMany m_touch m_line m_from m_to m_bound m_pairA m_pairB m_comeTo m_greatest m_least m_nowGreatest m_nowLeast m_does m_mostTime m_leastTime m_countUnit m_flagUnit m_worst m_best m_stack) sz)) 0 0 (va_A (wM a cI cZ cJ m_thrown m_sets m_ways m_penalty m_blocks m_edges m_pairs m_lines m_isFresh m_isAnswer m_time m_touchMany m_touch m_line m_from m_to m_bound m_pairA m_pairB m_comeTo m_greatest m_least m_nowGreatest m_nowLeast m_does m_mostTime m_leastTime m_countUnit m_flagUnit m_worst m_best m_stack) sz) := by
  refine Met.ofW (cc := cX4_hasAnswer) (maxL := 1) (ret := (some .boolean)) (by decide +kernel) rfl ?_
  intro p e s m args below meth c s₁ B hml hv
  obtain ⟨rfl, hsz, hP, hK, hD0⟩ := hv
  have hx := B.exec
  have hb := B.bytes
  have hr := B.returns
  have hts := atoms_spec (ws := wsX4_hasAnswer) B.pre
  have hown : s.vm.findClass RX4 = some m.cls := findClass_of_methodNamed B.named
  have hlocks := B.notSynchronized
  have hinX4 : ∀ w ∈ wsX40, w ∈ wsX4_hasAnswer := by decide +kernel
  subst hsz
  have hD := hD0.self (sz := s.heap.size)
  generalize hAe : va_A (wM a cI cZ cJ m_thrown m_sets m_ways m_penalty m_blocks m_edges m_pairs m_lines m_isFresh m_isAnswer m_time m_touchMany m_touch m_line m_from m_to m_bound m_pairA m_pairB m_comeTo m_greatest m_least m_nowGreatest m_nowLeast m_does m_mostTime m_leastTime m_countUnit m_flagUnit m_worst m_best m_stack) s.heap.size = A at hD ⊢
  have hA : ∀ q : Nat, s.heap.size ≤ q → A q := fun q h => by rw [← hAe]; exact Or.inr h
  have hS : va_S A s.heap s.heap [] := va_S.rf
  have hP : va_P D vwCl (wM a cI cZ cJ m_thrown m_sets m_ways m_penalty m_blocks m_edges m_pairs m_lines m_isFresh m_isAnswer m_time m_touchMany m_touch m_line m_from m_to m_bound m_pairA m_pairB m_comeTo m_greatest m_least m_nowGreatest m_nowLeast m_does m_mostTime m_leastTime m_countUnit m_flagUnit m_worst m_best m_stack) s.heap := hP
  have hl := lv_entry ([.ref (a 0)]) (n := 1) (Nat.le_of_ble_eq_true rfl)
  rw [lg_entry_eq]
  generalize (lg_sl ([.ref (a 0)]) ++ List.replicate (1 - (lg_sl ([.ref (a 0)])).length) Slot.unset).toArray = ls at hl ⊢
  have hl : lv_has ls 1 [(0, .ref (a 0))] := hl
  refine wz_abs (fun Qz hQz => ?_)
  unfold wp_X4_hasAnswer at h
  refine lv_aload_n hx hb dX4_hasAnswer_0 rfl (lv_at hl 0 rfl) ?_
  have hF := wz_free hD hS hA
  refine va_callv (va_runV (As := []) (rest := []) ⟨hx, hb, hml, hown, hts⟩ (c_X4_work l D a cI cZ cJ _ m_thrown m_sets m_ways m_penalty m_blocks m_edges m_pairs m_lines m_isFresh m_isAnswer m_time m_touchMany m_touch m_line m_from m_to m_bound m_pairA m_pairB m_comeTo m_greatest m_least m_nowGreatest m_nowLeast m_does m_mostTime m_leastTime m_countUnit m_flagUnit m_worst m_best m_stack _ h) (cwV 0 hts gX4_hasAnswer_X4_work rfl rfl rfl (by decide +kernel) ⟨Nat.le_of_ble_eq_true rfl, Nat.le_of_ble_eq_true rfl⟩) ⟨wz_blind, va_recv hK hP (ci := 4) (q0 := 0) rfl rfl, fun U hU hW => wz_at hU hW hP hK hD⟩ rfl rfl hl.1 rfl (lv_room (Nat.le_of_ble_eq_true rfl)) dX4_hasAnswer_1 ⟨Nat.zero_le _, Nat.zero_le _⟩) hS (fun q _ hq => hF q hq) hF (fun u t H locs ht hvm h hB hz1 hk1 hS => ?_)
  obtain ⟨m_isFresh_1, m_isAnswer_1, m_comeTo_1, m_greatest_1, m_least_1, m_nowGreatest_1, m_nowLeast_1, m_does_1, m_mostTime_1, m_leastTime_1, m_countUnit_1, m_flagUnit_1, m_worst_1, m_best_1, m_stack_1⟩ := u
  dsimp only at h hB
  obtain ⟨hP, -, hD⟩ := wz_back ht hF hB
  have hP : va_P D vwCl (wM a cI cZ cJ m_thrown m_sets m_ways m_penalty m_blocks m_edges m_pairs m_lines m_isFresh_1 m_isAnswer_1 m_time m_touchMany m_touch m_line m_from m_to m_bound m_pairA m_pairB m_comeTo_1 m_greatest_1 m_least_1 m_nowGreatest_1 m_nowLeast_1 m_does_1 m_mostTime_1 m_leastTime_1 m_countUnit_1 m_flagUnit_1 m_worst_1 m_best_1 m_stack_1) H := hP
  have hD : va_D A (wM a cI cZ cJ m_thrown m_sets m_ways m_penalty m_blocks m_edges m_pairs m_lines m_isFresh_1 m_isAnswer_1 m_time m_touchMany m_touch m_line m_from m_to m_bound m_pairA m_pairB m_comeTo_1 m_greatest_1 m_least_1 m_nowGreatest_1 m_nowLeast_1 m_does_1 m_mostTime_1 m_leastTime_1 m_countUnit_1 m_flagUnit_1 m_worst_1 m_best_1 m_stack_1) := hD
  refine lv_aload_n hx hb dX4_hasAnswer_4 rfl (lv_at hl 0 rfl) ?_
  refine lv_aload_n hx hb dX4_hasAnswer_5 rfl (lv_at hl 0 rfl) ?_
  refine va_get (D := D) (ci := 4) (v := .int m_isAnswer_1) (C := RX4) (T := TX4) (N := 32) hx hb hts hinX4 hown hK hP 0 rfl rfl 26 (by decide) (hts (.fieldLink RX4 167 "WorstPathsModel" "isAnswer" "Z") (by decide +kernel)) (fun _ h9 => h9) rfl dX4_hasAnswer_6 ?_
  refine lv_if_eq (tgt := 16) hx hb dX4_hasAnswer_9 (by decide) (fun hc => ?_) (fun hc => ?_)
  · replace h := h.1 hc
    refine lv_iconst (v := 1) hx hb dX4_hasAnswer_16 (by decide) ?_
    refine va_put (D := D) (ci := 4) (v := .int 1) (ty := .int) (C := RX4) (T := TX4) (N := 32) hx hb hts hinX4 tyX4 tyX4_ok nmX4 hown hK hP hD hS 0 rfl rfl 0 (by decide) (hts (.fieldLink RX4 94 "WorstPathsModel" "thrown" "I") (by decide +kernel)) (fun _ h9 => h9) rfl (by decide +kernel) rfl rfl (Nat.le_of_ble_eq_true rfl) dX4_hasAnswer_17 (fun H locs hP hD hS => ?_)
    have hP : va_P D vwCl (wM a cI cZ cJ 1 m_sets m_ways m_penalty m_blocks m_edges m_pairs m_lines m_isFresh_1 m_isAnswer_1 m_time m_touchMany m_touch m_line m_from m_to m_bound m_pairA m_pairB m_comeTo_1 m_greatest_1 m_least_1 m_nowGreatest_1 m_nowLeast_1 m_does_1 m_mostTime_1 m_leastTime_1 m_countUnit_1 m_flagUnit_1 m_worst_1 m_best_1 m_stack_1) H := hP
    have hD : va_D A (wM a cI cZ cJ 1 m_sets m_ways m_penalty m_blocks m_edges m_pairs m_lines m_isFresh_1 m_isAnswer_1 m_time m_touchMany m_touch m_line m_from m_to m_bound m_pairA m_pairB m_comeTo_1 m_greatest_1 m_least_1 m_nowGreatest_1 m_nowLeast_1 m_does_1 m_mostTime_1 m_leastTime_1 m_countUnit_1 m_flagUnit_1 m_worst_1 m_best_1 m_stack_1) := hD
    refine lv_aload_n hx hb dX4_hasAnswer_20 rfl (lv_at hl 0 rfl) ?_
    refine va_get (D := D) (ci := 4) (v := .int m_isAnswer_1) (C := RX4) (T := TX4) (N := 32) hx hb hts hinX4 hown hK hP 0 rfl rfl 26 (by decide) (hts (.fieldLink RX4 167 "WorstPathsModel" "isAnswer" "Z") (by decide +kernel)) (fun _ h9 => h9) rfl dX4_hasAnswer_21 ?_
    refine wz_mono hQz ?_
    obtain ⟨hn9, h⟩ := h
    exact W.zret (v := m_isAnswer_1) hx hb hr hn9 (fun t ht hW => ⟨⟨m_isAnswer_1, (1, m_isFresh_1, m_isAnswer_1, m_comeTo_1, m_greatest_1, m_least_1, m_nowGreatest_1, m_nowLeast_1, m_does_1, m_mostTime_1, m_leastTime_1, m_countUnit_1, m_flagUnit_1, m_worst_1, m_best_1, m_stack_1), rfl, h, by rw [ht]; exact hP, va_K.moved hW.alike hK, hD⟩, hS.F ht⟩) hS.2.2 dX4_hasAnswer_24
  · replace h := h.2 hc
    refine lv_iconst (v := 0) hx hb dX4_hasAnswer_12 (by decide) ?_
    refine lv_goto (tgt := 17) hx hb dX4_hasAnswer_13 (by decide) ?_
    refine va_put (D := D) (ci := 4) (v := .int 0) (ty := .int) (C := RX4) (T := TX4) (N := 32) hx hb hts hinX4 tyX4 tyX4_ok nmX4 hown hK hP hD hS 0 rfl rfl 0 (by decide) (hts (.fieldLink RX4 94 "WorstPathsModel" "thrown" "I") (by decide +kernel)) (fun _ h9 => h9) rfl (by decide +kernel) rfl rfl (Nat.le_of_ble_eq_true rfl) dX4_hasAnswer_17 (fun H locs hP hD hS => ?_)
    have hP : va_P D vwCl (wM a cI cZ cJ 0 m_sets m_ways m_penalty m_blocks m_edges m_pairs m_lines m_isFresh_1 m_isAnswer_1 m_time m_touchMany m_touch m_line m_from m_to m_bound m_pairA m_pairB m_comeTo_1 m_greatest_1 m_least_1 m_nowGreatest_1 m_nowLeast_1 m_does_1 m_mostTime_1 m_leastTime_1 m_countUnit_1 m_flagUnit_1 m_worst_1 m_best_1 m_stack_1) H := hP
    have hD : va_D A (wM a cI cZ cJ 0 m_sets m_ways m_penalty m_blocks m_edges m_pairs m_lines m_isFresh_1 m_isAnswer_1 m_time m_touchMany m_touch m_line m_from m_to m_bound m_pairA m_pairB m_comeTo_1 m_greatest_1 m_least_1 m_nowGreatest_1 m_nowLeast_1 m_does_1 m_mostTime_1 m_leastTime_1 m_countUnit_1 m_flagUnit_1 m_worst_1 m_best_1 m_stack_1) := hD
    refine lv_aload_n hx hb dX4_hasAnswer_20 rfl (lv_at hl 0 rfl) ?_
    refine va_get (D := D) (ci := 4) (v := .int m_isAnswer_1) (C := RX4) (T := TX4) (N := 32) hx hb hts hinX4 hown hK hP 0 rfl rfl 26 (by decide) (hts (.fieldLink RX4 167 "WorstPathsModel" "isAnswer" "Z") (by decide +kernel)) (fun _ h9 => h9) rfl dX4_hasAnswer_21 ?_
    refine wz_mono hQz ?_
    obtain ⟨hn9, h⟩ := h
    exact W.zret (v := m_isAnswer_1) hx hb hr hn9 (fun t ht hW => ⟨⟨m_isAnswer_1, (0, m_isFresh_1, m_isAnswer_1, m_comeTo_1, m_greatest_1, m_least_1, m_nowGreatest_1, m_nowLeast_1, m_does_1, m_mostTime_1, m_leastTime_1, m_countUnit_1, m_flagUnit_1, m_worst_1, m_best_1, m_stack_1), rfl, h, by rw [ht]; exact hP, va_K.moved hW.alike hK, hD⟩, hS.F ht⟩) hS.2.2 dX4_hasAnswer_24
def wp_X4_worst (m_thrown : Int32) (m_sets : Int32) (m_ways : Int32) (m_penalty : Int32) (m_blocks : Int32) (m_edges : Int32) (m_pairs : Int32) (m_lines : Int32) (m_isFresh : Int32) (m_isAnswer : Int32) (m_time : Nat → Int32) (m_touchMany : Nat → Int32) (m_touch : Nat → Int32) (m_line : Nat → Int32) (m_from : Nat → Int32) (m_to : Nat → Int32) (m_bound : Nat → Int32) (m_pairA : Nat → Int32) (m_pairB : Nat → Int32) (m_comeTo : Nat → Int32) (m_greatest : Nat → Int32) (m_least : Nat → Int32) (m_nowGreatest : Nat → Int32) (m_nowLeast : Nat → Int32) (m_does : Nat → Int32) (m_mostTime : Nat → Int64) (m_leastTime : Nat → Int64) (m_countUnit : Nat → Int32) (m_flagUnit : Nat → Int32) (m_worst : Nat → Int64) (m_best : Nat → Int64) (m_stack : Nat → Int32) (Q : Int64 → Int32 → Int32 → Int32 → (Nat → Int32) → (Nat → Int32) → (Nat → Int32) → (Nat → Int32) → (Nat → Int32) → (Nat → Int32) → (Nat → Int64) → (Nat → Int64) → (Nat → Int32) → (Nat → Int32) → (Nat → Int64) → (Nat → Int64) → (Nat → Int32) → Prop) : Prop := wp_X4_hasAnswer m_thrown m_sets m_ways m_penalty m_blocks m_edges m_pairs m_lines m_isFresh m_isAnswer m_time m_touchMany m_touch m_line m_from m_to m_bound m_pairA m_pairB m_comeTo m_greatest m_least m_nowGreatest m_nowLeast m_does m_mostTime m_leastTime m_countUnit m_flagUnit m_worst m_best m_stack (fun r_1 m_thrown_1 m_isFresh_1 m_isAnswer_1 m_comeTo_1 m_greatest_1 m_least_1 m_nowGreatest_1 m_nowLeast_1 m_does_1 m_mostTime_1 m_leastTime_1 m_countUnit_1 m_flagUnit_1 m_worst_1 m_best_1 m_stack_1 => (r_1 = 0 → Q 0 m_thrown_1 m_isFresh_1 m_isAnswer_1 m_comeTo_1 m_greatest_1 m_least_1 m_nowGreatest_1 m_nowLeast_1 m_does_1 m_mostTime_1 m_leastTime_1 m_countUnit_1 m_flagUnit_1 m_worst_1 m_best_1 m_stack_1) ∧ (¬ r_1 = 0 → vp_in 0 40000 ∧ (Q (m_worst_1 (Int32.toNatClampNeg 0)) m_thrown_1 m_isFresh_1 m_isAnswer_1 m_comeTo_1 m_greatest_1 m_least_1 m_nowGreatest_1 m_nowLeast_1 m_does_1 m_mostTime_1 m_leastTime_1 m_countUnit_1 m_flagUnit_1 m_worst_1 m_best_1 m_stack_1)))
abbrev rm_X4_worst : Room := { frames := 6, cells := 0, slots := 0, locals := 137 }
set_option maxHeartbeats 4000000 in
set_option maxRecDepth 100000 in
theorem c_X4_worst (l : Launch) (D : va_G) (a : Nat → Nat) (cI : ClassId) (cZ : ClassId) (cJ : ClassId) (sz : Nat) (m_thrown : Int32) (m_sets : Int32) (m_ways : Int32) (m_penalty : Int32) (m_blocks : Int32) (m_edges : Int32) (m_pairs : Int32) (m_lines : Int32) (m_isFresh : Int32) (m_isAnswer : Int32) (m_time : Nat → Int32) (m_touchMany : Nat → Int32) (m_touch : Nat → Int32) (m_line : Nat → Int32) (m_from : Nat → Int32) (m_to : Nat → Int32) (m_bound : Nat → Int32) (m_pairA : Nat → Int32) (m_pairB : Nat → Int32) (m_comeTo : Nat → Int32) (m_greatest : Nat → Int32) (m_least : Nat → Int32) (m_nowGreatest : Nat → Int32) (m_nowLeast : Nat → Int32) (m_does : Nat → Int32) (m_mostTime : Nat → Int64) (m_leastTime : Nat → Int64) (m_countUnit : Nat → Int32) (m_flagUnit : Nat → Int32) (m_worst : Nat → Int64) (m_best : Nat → Int64) (m_stack : Nat → Int32) (Q : Int64 → Int32 → Int32 → Int32 → (Nat → Int32) → (Nat → Int32) → (Nat → Int32) → (Nat → Int32) → (Nat → Int32) → (Nat → Int32) → (Nat → Int64) → (Nat → Int64) → (Nat → Int32) → (Nat → Int32) → (Nat → Int64) → (Nat → Int64) → (Nat → Int32) → Prop) (h : wp_X4_worst m_thrown m_sets m_ways m_penalty m_blocks m_edges m_pairs m_lines m_isFresh m_isAnswer m_time m_touchMany m_touch m_line m_from m_to m_bound m_pairA m_pairB m_comeTo m_greatest m_least m_nowGreatest m_nowLeast m_does m_mostTime m_leastTime m_countUnit m_flagUnit m_worst m_best m_stack Q) : Met l yX4_worst wsX4_worst rm_X4_worst (va_Pc [.ref (a 0)] (inW D cI cZ cJ sz (wM a cI cZ cJ m_thrown m_sets m_ways m_penalty m_blocks m_edges m_pairs m_lines m_isFresh m_isAnswer m_time m_touchMany m_touch m_line m_from m_to m_bound m_pairA m_pairB m_comeTo m_greatest m_least m_nowGreatest m_nowLeast m_does m_mostTime m_leastTime m_countUnit m_flagUnit m_worst m_best m_stack))) (va_Ql (fun (r : Int64) (u : Int32 × Int32 × Int32 × (Nat → Int32) × (Nat → Int32) × (Nat → Int32) × (Nat → Int32) × (Nat → Int32) × (Nat → Int32) × (Nat → Int64) × (Nat → Int64) × (Nat → Int32) × (Nat → Int32) × (Nat → Int64) × (Nat → Int64) × (Nat → Int32)) => Q r u.1 u.2.1 u.2.2.1 u.2.2.2.1 u.2.2.2.2.1 u.2.2.2.2.2.1 u.2.2.2.2.2.2.1 u.2.2.2.2.2.2.2.1 u.2.2.2.2.2.2.2.2.1 u.2.2.2.2.2.2.2.2.2.1 u.2.2.2.2.2.2.2.2.2.2.1 u.2.2.2.2.2.2.2.2.2.2.2.1 u.2.2.2.2.2.2.2.2.2.2.2.2.1 u.2.2.2.2.2.2.2.2.2.2.2.2.2.1 u.2.2.2.2.2.2.2.2.2.2.2.2.2.2.1 u.2.2.2.2.2.2.2.2.2.2.2.2.2.2.2) (fun (u : Int32 × Int32 × Int32 × (Nat → Int32) × (Nat → Int32) × (Nat → Int32) × (Nat → Int32) × (Nat → Int32) × (Nat → Int32) × (Nat → Int64) × (Nat → Int64) × (Nat → Int32) × (Nat → Int32) × (Nat → Int64) × (Nat → Int64) × (Nat → Int32)) => outW D cI cZ cJ (va_A (wM a cI cZ cJ m_thrown m_sets m_ways m_penalty m_blocks m_edges m_pairs m_lines m_isFresh m_isAnswer m_time m_touchMany m_touch m_line m_from m_to m_bound m_pairA m_pairB m_comeTo m_greatest m_least m_nowGreatest m_nowLeast m_does m_mostTime m_leastTime m_countUnit m_flagUnit m_worst m_best m_stack) sz) (wM a cI cZ cJ u.1 m_sets m_ways m_penalty m_blocks m_edges m_pairs m_lines u.2.1 u.2.2.1 m_time m_touchMany m_touch m_line m_from m_to m_bound m_pairA m_pairB u.2.2.2.1 u.2.2.2.2.1 u.2.2.2.2.2.1 u.2.2.2.2.2.2.1 u.2.2.2.2.2.2.2.1 u.2.2.2.2.2.2.2.2.1 u.2.2.2.2.2.2.2.2.2.1 u.2.2.2.2.2.2.2.2.2.2.1 u.2.2.2.2.2.2.2.2.2.2.2.1 u.2.2.2.2.2.2.2.2.2.2.2.2.1 u.2.2.2.2.2.2.2.2.2.2.2.2.2.1 u.2.2.2.2.2.2.2.2.2.2.2.2.2.2.1 u.2.2.2.2.2.2.2.2.2.2.2.2.2.2.2)) (va_A (wM a cI cZ cJ m_thrown m_sets m_ways m_penalty m_blocks m_edges m_pairs m_lines m_isFresh m_isAnswer m_time m_touchMany m_touch m_line m_from m_to m_bound m_pairA m_pairB m_comeTo m_greatest m_least m_nowGreatest m_nowLeast m_does m_mostTime m_leastTime m_countUnit m_flagUnit m_worst m_best m_stack) sz)) 0 0 (va_A (wM a cI cZ cJ m_thrown m_sets m_ways m_penalty m_blocks m_edges m_pairs m_lines m_isFresh m_isAnswer m_time m_touchMany m_touch m_line m_from m_to m_bound m_pairA m_pairB m_comeTo m_greatest m_least m_nowGreatest m_nowLeast m_does m_mostTime m_leastTime m_countUnit m_flagUnit m_worst m_best m_stack) sz) := by
  refine Met.ofW (cc := cX4_worst) (maxL := 1) (ret := (some .long)) (by decide +kernel) rfl ?_
  intro p e s m args below meth c s₁ B hml hv
  obtain ⟨rfl, hsz, hP, hK, hD0⟩ := hv
  have hx := B.exec
  have hb := B.bytes
  have hr := B.returns
  have hts := atoms_spec (ws := wsX4_worst) B.pre
  have hown : s.vm.findClass RX4 = some m.cls := findClass_of_methodNamed B.named
  have hlocks := B.notSynchronized
  have hinX4 : ∀ w ∈ wsX40, w ∈ wsX4_worst := by decide +kernel
  subst hsz
  have hD := hD0.self (sz := s.heap.size)
  generalize hAe : va_A (wM a cI cZ cJ m_thrown m_sets m_ways m_penalty m_blocks m_edges m_pairs m_lines m_isFresh m_isAnswer m_time m_touchMany m_touch m_line m_from m_to m_bound m_pairA m_pairB m_comeTo m_greatest m_least m_nowGreatest m_nowLeast m_does m_mostTime m_leastTime m_countUnit m_flagUnit m_worst m_best m_stack) s.heap.size = A at hD ⊢
  have hA : ∀ q : Nat, s.heap.size ≤ q → A q := fun q h => by rw [← hAe]; exact Or.inr h
  have hS : va_S A s.heap s.heap [] := va_S.rf
  have hP : va_P D vwCl (wM a cI cZ cJ m_thrown m_sets m_ways m_penalty m_blocks m_edges m_pairs m_lines m_isFresh m_isAnswer m_time m_touchMany m_touch m_line m_from m_to m_bound m_pairA m_pairB m_comeTo m_greatest m_least m_nowGreatest m_nowLeast m_does m_mostTime m_leastTime m_countUnit m_flagUnit m_worst m_best m_stack) s.heap := hP
  have hl := lv_entry ([.ref (a 0)]) (n := 1) (Nat.le_of_ble_eq_true rfl)
  rw [lg_entry_eq]
  generalize (lg_sl ([.ref (a 0)]) ++ List.replicate (1 - (lg_sl ([.ref (a 0)])).length) Slot.unset).toArray = ls at hl ⊢
  have hl : lv_has ls 1 [(0, .ref (a 0))] := hl
  refine wz_abs (fun Qz hQz => ?_)
  unfold wp_X4_worst at h
  refine lv_aload_n hx hb dX4_worst_0 rfl (lv_at hl 0 rfl) ?_
  have hF := wz_free hD hS hA
  refine va_calli (va_runV (As := []) (rest := []) ⟨hx, hb, hml, hown, hts⟩ (c_X4_hasAnswer l D a cI cZ cJ _ m_thrown m_sets m_ways m_penalty m_blocks m_edges m_pairs m_lines m_isFresh m_isAnswer m_time m_touchMany m_touch m_line m_from m_to m_bound m_pairA m_pairB m_comeTo m_greatest m_least m_nowGreatest m_nowLeast m_does m_mostTime m_leastTime m_countUnit m_flagUnit m_worst m_best m_stack _ h) (cwV 0 hts gX4_worst_X4_hasAnswer rfl rfl rfl (by decide +kernel) ⟨Nat.le_of_ble_eq_true rfl, Nat.le_of_ble_eq_true rfl⟩) ⟨wz_blind, va_recv hK hP (ci := 4) (q0 := 0) rfl rfl, fun U hU hW => wz_at hU hW hP hK hD⟩ rfl rfl hl.1 rfl (lv_room (Nat.le_of_ble_eq_true rfl)) dX4_worst_1 ⟨Nat.zero_le _, Nat.zero_le _⟩) hS (fun q _ hq => hF q hq) hF (fun r_1 u t H locs ht hvm h hB hz1 hk1 hS => ?_)
  obtain ⟨m_thrown_1, m_isFresh_1, m_isAnswer_1, m_comeTo_1, m_greatest_1, m_least_1, m_nowGreatest_1, m_nowLeast_1, m_does_1, m_mostTime_1, m_leastTime_1, m_countUnit_1, m_flagUnit_1, m_worst_1, m_best_1, m_stack_1⟩ := u
  dsimp only at h hB
  obtain ⟨hP, -, hD⟩ := wz_back ht hF hB
  have hP : va_P D vwCl (wM a cI cZ cJ m_thrown_1 m_sets m_ways m_penalty m_blocks m_edges m_pairs m_lines m_isFresh_1 m_isAnswer_1 m_time m_touchMany m_touch m_line m_from m_to m_bound m_pairA m_pairB m_comeTo_1 m_greatest_1 m_least_1 m_nowGreatest_1 m_nowLeast_1 m_does_1 m_mostTime_1 m_leastTime_1 m_countUnit_1 m_flagUnit_1 m_worst_1 m_best_1 m_stack_1) H := hP
  have hD : va_D A (wM a cI cZ cJ m_thrown_1 m_sets m_ways m_penalty m_blocks m_edges m_pairs m_lines m_isFresh_1 m_isAnswer_1 m_time m_touchMany m_touch m_line m_from m_to m_bound m_pairA m_pairB m_comeTo_1 m_greatest_1 m_least_1 m_nowGreatest_1 m_nowLeast_1 m_does_1 m_mostTime_1 m_leastTime_1 m_countUnit_1 m_flagUnit_1 m_worst_1 m_best_1 m_stack_1) := hD
  refine lv_if_eq (tgt := 16) hx hb dX4_worst_4 (by decide) (fun hc => ?_) (fun hc => ?_)
  · replace h := h.1 hc
    refine lv_lconst (v := 0) hx hb dX4_worst_16 (by decide) ?_
    refine wz_mono hQz ?_
    exact W.lret (v := 0) hx hb hr (fun t ht hW => ⟨⟨0, (m_thrown_1, m_isFresh_1, m_isAnswer_1, m_comeTo_1, m_greatest_1, m_least_1, m_nowGreatest_1, m_nowLeast_1, m_does_1, m_mostTime_1, m_leastTime_1, m_countUnit_1, m_flagUnit_1, m_worst_1, m_best_1, m_stack_1), rfl, h, by rw [ht]; exact hP, va_K.moved hW.alike hK, hD⟩, hS.F ht⟩) hS.2.2 dX4_worst_17
  · replace h := h.2 hc
    refine lv_aload_n hx hb dX4_worst_7 rfl (lv_at hl 0 rfl) ?_
    refine va_get (D := D) (ci := 4) (v := .ref (a 20)) (C := RX4) (T := TX4) (N := 32) hx hb hts hinX4 hown hK hP 0 rfl rfl 29 (by decide) (hts (.fieldLink RX4 70 "WorstPathsModel" "worst" "[J") (by decide +kernel)) (fun _ h9 => h9) rfl dX4_worst_8 ?_
    refine lv_iconst (v := 0) hx hb dX4_worst_11 (by decide) ?_
    obtain ⟨hq, h⟩ := h
    refine va_lald (D := D) hx hb hK hP 20 2 rfl rfl hq dX4_worst_12 ?_
    refine lv_goto (tgt := 17) hx hb dX4_worst_13 (by decide) ?_
    refine wz_mono hQz ?_
    exact W.lret (v := (m_worst_1 (Int32.toNatClampNeg 0))) hx hb hr (fun t ht hW => ⟨⟨(m_worst_1 (Int32.toNatClampNeg 0)), (m_thrown_1, m_isFresh_1, m_isAnswer_1, m_comeTo_1, m_greatest_1, m_least_1, m_nowGreatest_1, m_nowLeast_1, m_does_1, m_mostTime_1, m_leastTime_1, m_countUnit_1, m_flagUnit_1, m_worst_1, m_best_1, m_stack_1), rfl, h, by rw [ht]; exact hP, va_K.moved hW.alike hK, hD⟩, hS.F ht⟩) hS.2.2 dX4_worst_17
def wp_X4_best (m_thrown : Int32) (m_sets : Int32) (m_ways : Int32) (m_penalty : Int32) (m_blocks : Int32) (m_edges : Int32) (m_pairs : Int32) (m_lines : Int32) (m_isFresh : Int32) (m_isAnswer : Int32) (m_time : Nat → Int32) (m_touchMany : Nat → Int32) (m_touch : Nat → Int32) (m_line : Nat → Int32) (m_from : Nat → Int32) (m_to : Nat → Int32) (m_bound : Nat → Int32) (m_pairA : Nat → Int32) (m_pairB : Nat → Int32) (m_comeTo : Nat → Int32) (m_greatest : Nat → Int32) (m_least : Nat → Int32) (m_nowGreatest : Nat → Int32) (m_nowLeast : Nat → Int32) (m_does : Nat → Int32) (m_mostTime : Nat → Int64) (m_leastTime : Nat → Int64) (m_countUnit : Nat → Int32) (m_flagUnit : Nat → Int32) (m_worst : Nat → Int64) (m_best : Nat → Int64) (m_stack : Nat → Int32) (Q : Int64 → Int32 → Int32 → Int32 → (Nat → Int32) → (Nat → Int32) → (Nat → Int32) → (Nat → Int32) → (Nat → Int32) → (Nat → Int32) → (Nat → Int64) → (Nat → Int64) → (Nat → Int32) → (Nat → Int32) → (Nat → Int64) → (Nat → Int64) → (Nat → Int32) → Prop) : Prop := wp_X4_hasAnswer m_thrown m_sets m_ways m_penalty m_blocks m_edges m_pairs m_lines m_isFresh m_isAnswer m_time m_touchMany m_touch m_line m_from m_to m_bound m_pairA m_pairB m_comeTo m_greatest m_least m_nowGreatest m_nowLeast m_does m_mostTime m_leastTime m_countUnit m_flagUnit m_worst m_best m_stack (fun r_1 m_thrown_1 m_isFresh_1 m_isAnswer_1 m_comeTo_1 m_greatest_1 m_least_1 m_nowGreatest_1 m_nowLeast_1 m_does_1 m_mostTime_1 m_leastTime_1 m_countUnit_1 m_flagUnit_1 m_worst_1 m_best_1 m_stack_1 => (r_1 = 0 → Q 0 m_thrown_1 m_isFresh_1 m_isAnswer_1 m_comeTo_1 m_greatest_1 m_least_1 m_nowGreatest_1 m_nowLeast_1 m_does_1 m_mostTime_1 m_leastTime_1 m_countUnit_1 m_flagUnit_1 m_worst_1 m_best_1 m_stack_1) ∧ (¬ r_1 = 0 → vp_in 0 40000 ∧ (Q (m_best_1 (Int32.toNatClampNeg 0)) m_thrown_1 m_isFresh_1 m_isAnswer_1 m_comeTo_1 m_greatest_1 m_least_1 m_nowGreatest_1 m_nowLeast_1 m_does_1 m_mostTime_1 m_leastTime_1 m_countUnit_1 m_flagUnit_1 m_worst_1 m_best_1 m_stack_1)))
abbrev rm_X4_best : Room := { frames := 6, cells := 0, slots := 0, locals := 137 }
set_option maxHeartbeats 4000000 in
set_option maxRecDepth 100000 in
theorem c_X4_best (l : Launch) (D : va_G) (a : Nat → Nat) (cI : ClassId) (cZ : ClassId) (cJ : ClassId) (sz : Nat) (m_thrown : Int32) (m_sets : Int32) (m_ways : Int32) (m_penalty : Int32) (m_blocks : Int32) (m_edges : Int32) (m_pairs : Int32) (m_lines : Int32) (m_isFresh : Int32) (m_isAnswer : Int32) (m_time : Nat → Int32) (m_touchMany : Nat → Int32) (m_touch : Nat → Int32) (m_line : Nat → Int32) (m_from : Nat → Int32) (m_to : Nat → Int32) (m_bound : Nat → Int32) (m_pairA : Nat → Int32) (m_pairB : Nat → Int32) (m_comeTo : Nat → Int32) (m_greatest : Nat → Int32) (m_least : Nat → Int32) (m_nowGreatest : Nat → Int32) (m_nowLeast : Nat → Int32) (m_does : Nat → Int32) (m_mostTime : Nat → Int64) (m_leastTime : Nat → Int64) (m_countUnit : Nat → Int32) (m_flagUnit : Nat → Int32) (m_worst : Nat → Int64) (m_best : Nat → Int64) (m_stack : Nat → Int32) (Q : Int64 → Int32 → Int32 → Int32 → (Nat → Int32) → (Nat → Int32) → (Nat → Int32) → (Nat → Int32) → (Nat → Int32) → (Nat → Int32) → (Nat → Int64) → (Nat → Int64) → (Nat → Int32) → (Nat → Int32) → (Nat → Int64) → (Nat → Int64) → (Nat → Int32) → Prop) (h : wp_X4_best m_thrown m_sets m_ways m_penalty m_blocks m_edges m_pairs m_lines m_isFresh m_isAnswer m_time m_touchMany m_touch m_line m_from m_to m_bound m_pairA m_pairB m_comeTo m_greatest m_least m_nowGreatest m_nowLeast m_does m_mostTime m_leastTime m_countUnit m_flagUnit m_worst m_best m_stack Q) : Met l yX4_best wsX4_best rm_X4_best (va_Pc [.ref (a 0)] (inW D cI cZ cJ sz (wM a cI cZ cJ m_thrown m_sets m_ways m_penalty m_blocks m_edges m_pairs m_lines m_isFresh m_isAnswer m_time m_touchMany m_touch m_line m_from m_to m_bound m_pairA m_pairB m_comeTo m_greatest m_least m_nowGreatest m_nowLeast m_does m_mostTime m_leastTime m_countUnit m_flagUnit m_worst m_best m_stack))) (va_Ql (fun (r : Int64) (u : Int32 × Int32 × Int32 × (Nat → Int32) × (Nat → Int32) × (Nat → Int32) × (Nat → Int32) × (Nat → Int32) × (Nat → Int32) × (Nat → Int64) × (Nat → Int64) × (Nat → Int32) × (Nat → Int32) × (Nat → Int64) × (Nat → Int64) × (Nat → Int32)) => Q r u.1 u.2.1 u.2.2.1 u.2.2.2.1 u.2.2.2.2.1 u.2.2.2.2.2.1 u.2.2.2.2.2.2.1 u.2.2.2.2.2.2.2.1 u.2.2.2.2.2.2.2.2.1 u.2.2.2.2.2.2.2.2.2.1 u.2.2.2.2.2.2.2.2.2.2.1 u.2.2.2.2.2.2.2.2.2.2.2.1 u.2.2.2.2.2.2.2.2.2.2.2.2.1 u.2.2.2.2.2.2.2.2.2.2.2.2.2.1 u.2.2.2.2.2.2.2.2.2.2.2.2.2.2.1 u.2.2.2.2.2.2.2.2.2.2.2.2.2.2.2) (fun (u : Int32 × Int32 × Int32 × (Nat → Int32) × (Nat → Int32) × (Nat → Int32) × (Nat → Int32) × (Nat → Int32) × (Nat → Int32) × (Nat → Int64) × (Nat → Int64) × (Nat → Int32) × (Nat → Int32) × (Nat → Int64) × (Nat → Int64) × (Nat → Int32)) => outW D cI cZ cJ (va_A (wM a cI cZ cJ m_thrown m_sets m_ways m_penalty m_blocks m_edges m_pairs m_lines m_isFresh m_isAnswer m_time m_touchMany m_touch m_line m_from m_to m_bound m_pairA m_pairB m_comeTo m_greatest m_least m_nowGreatest m_nowLeast m_does m_mostTime m_leastTime m_countUnit m_flagUnit m_worst m_best m_stack) sz) (wM a cI cZ cJ u.1 m_sets m_ways m_penalty m_blocks m_edges m_pairs m_lines u.2.1 u.2.2.1 m_time m_touchMany m_touch m_line m_from m_to m_bound m_pairA m_pairB u.2.2.2.1 u.2.2.2.2.1 u.2.2.2.2.2.1 u.2.2.2.2.2.2.1 u.2.2.2.2.2.2.2.1 u.2.2.2.2.2.2.2.2.1 u.2.2.2.2.2.2.2.2.2.1 u.2.2.2.2.2.2.2.2.2.2.1 u.2.2.2.2.2.2.2.2.2.2.2.1 u.2.2.2.2.2.2.2.2.2.2.2.2.1 u.2.2.2.2.2.2.2.2.2.2.2.2.2.1 u.2.2.2.2.2.2.2.2.2.2.2.2.2.2.1 u.2.2.2.2.2.2.2.2.2.2.2.2.2.2.2)) (va_A (wM a cI cZ cJ m_thrown m_sets m_ways m_penalty m_blocks m_edges m_pairs m_lines m_isFresh m_isAnswer m_time m_touchMany m_touch m_line m_from m_to m_bound m_pairA m_pairB m_comeTo m_greatest m_least m_nowGreatest m_nowLeast m_does m_mostTime m_leastTime m_countUnit m_flagUnit m_worst m_best m_stack) sz)) 0 0 (va_A (wM a cI cZ cJ m_thrown m_sets m_ways m_penalty m_blocks m_edges m_pairs m_lines m_isFresh m_isAnswer m_time m_touchMany m_touch m_line m_from m_to m_bound m_pairA m_pairB m_comeTo m_greatest m_least m_nowGreatest m_nowLeast m_does m_mostTime m_leastTime m_countUnit m_flagUnit m_worst m_best m_stack) sz) := by
  refine Met.ofW (cc := cX4_best) (maxL := 1) (ret := (some .long)) (by decide +kernel) rfl ?_
  intro p e s m args below meth c s₁ B hml hv
  obtain ⟨rfl, hsz, hP, hK, hD0⟩ := hv
  have hx := B.exec
  have hb := B.bytes
  have hr := B.returns
  have hts := atoms_spec (ws := wsX4_best) B.pre
  have hown : s.vm.findClass RX4 = some m.cls := findClass_of_methodNamed B.named
  have hlocks := B.notSynchronized
  have hinX4 : ∀ w ∈ wsX40, w ∈ wsX4_best := by decide +kernel
  subst hsz
  have hD := hD0.self (sz := s.heap.size)
  generalize hAe : va_A (wM a cI cZ cJ m_thrown m_sets m_ways m_penalty m_blocks m_edges m_pairs m_lines m_isFresh m_isAnswer m_time m_touchMany m_touch m_line m_from m_to m_bound m_pairA m_pairB m_comeTo m_greatest m_least m_nowGreatest m_nowLeast m_does m_mostTime m_leastTime m_countUnit m_flagUnit m_worst m_best m_stack) s.heap.size = A at hD ⊢
  have hA : ∀ q : Nat, s.heap.size ≤ q → A q := fun q h => by rw [← hAe]; exact Or.inr h
  have hS : va_S A s.heap s.heap [] := va_S.rf
  have hP : va_P D vwCl (wM a cI cZ cJ m_thrown m_sets m_ways m_penalty m_blocks m_edges m_pairs m_lines m_isFresh m_isAnswer m_time m_touchMany m_touch m_line m_from m_to m_bound m_pairA m_pairB m_comeTo m_greatest m_least m_nowGreatest m_nowLeast m_does m_mostTime m_leastTime m_countUnit m_flagUnit m_worst m_best m_stack) s.heap := hP
  have hl := lv_entry ([.ref (a 0)]) (n := 1) (Nat.le_of_ble_eq_true rfl)
  rw [lg_entry_eq]
  generalize (lg_sl ([.ref (a 0)]) ++ List.replicate (1 - (lg_sl ([.ref (a 0)])).length) Slot.unset).toArray = ls at hl ⊢
  have hl : lv_has ls 1 [(0, .ref (a 0))] := hl
  refine wz_abs (fun Qz hQz => ?_)
  unfold wp_X4_best at h
  refine lv_aload_n hx hb dX4_best_0 rfl (lv_at hl 0 rfl) ?_
  have hF := wz_free hD hS hA
  refine va_calli (va_runV (As := []) (rest := []) ⟨hx, hb, hml, hown, hts⟩ (c_X4_hasAnswer l D a cI cZ cJ _ m_thrown m_sets m_ways m_penalty m_blocks m_edges m_pairs m_lines m_isFresh m_isAnswer m_time m_touchMany m_touch m_line m_from m_to m_bound m_pairA m_pairB m_comeTo m_greatest m_least m_nowGreatest m_nowLeast m_does m_mostTime m_leastTime m_countUnit m_flagUnit m_worst m_best m_stack _ h) (cwV 0 hts gX4_best_X4_hasAnswer rfl rfl rfl (by decide +kernel) ⟨Nat.le_of_ble_eq_true rfl, Nat.le_of_ble_eq_true rfl⟩) ⟨wz_blind, va_recv hK hP (ci := 4) (q0 := 0) rfl rfl, fun U hU hW => wz_at hU hW hP hK hD⟩ rfl rfl hl.1 rfl (lv_room (Nat.le_of_ble_eq_true rfl)) dX4_best_1 ⟨Nat.zero_le _, Nat.zero_le _⟩) hS (fun q _ hq => hF q hq) hF (fun r_1 u t H locs ht hvm h hB hz1 hk1 hS => ?_)
  obtain ⟨m_thrown_1, m_isFresh_1, m_isAnswer_1, m_comeTo_1, m_greatest_1, m_least_1, m_nowGreatest_1, m_nowLeast_1, m_does_1, m_mostTime_1, m_leastTime_1, m_countUnit_1, m_flagUnit_1, m_worst_1, m_best_1, m_stack_1⟩ := u
  dsimp only at h hB
  obtain ⟨hP, -, hD⟩ := wz_back ht hF hB
  have hP : va_P D vwCl (wM a cI cZ cJ m_thrown_1 m_sets m_ways m_penalty m_blocks m_edges m_pairs m_lines m_isFresh_1 m_isAnswer_1 m_time m_touchMany m_touch m_line m_from m_to m_bound m_pairA m_pairB m_comeTo_1 m_greatest_1 m_least_1 m_nowGreatest_1 m_nowLeast_1 m_does_1 m_mostTime_1 m_leastTime_1 m_countUnit_1 m_flagUnit_1 m_worst_1 m_best_1 m_stack_1) H := hP
  have hD : va_D A (wM a cI cZ cJ m_thrown_1 m_sets m_ways m_penalty m_blocks m_edges m_pairs m_lines m_isFresh_1 m_isAnswer_1 m_time m_touchMany m_touch m_line m_from m_to m_bound m_pairA m_pairB m_comeTo_1 m_greatest_1 m_least_1 m_nowGreatest_1 m_nowLeast_1 m_does_1 m_mostTime_1 m_leastTime_1 m_countUnit_1 m_flagUnit_1 m_worst_1 m_best_1 m_stack_1) := hD
  refine lv_if_eq (tgt := 16) hx hb dX4_best_4 (by decide) (fun hc => ?_) (fun hc => ?_)
  · replace h := h.1 hc
    refine lv_lconst (v := 0) hx hb dX4_best_16 (by decide) ?_
    refine wz_mono hQz ?_
    exact W.lret (v := 0) hx hb hr (fun t ht hW => ⟨⟨0, (m_thrown_1, m_isFresh_1, m_isAnswer_1, m_comeTo_1, m_greatest_1, m_least_1, m_nowGreatest_1, m_nowLeast_1, m_does_1, m_mostTime_1, m_leastTime_1, m_countUnit_1, m_flagUnit_1, m_worst_1, m_best_1, m_stack_1), rfl, h, by rw [ht]; exact hP, va_K.moved hW.alike hK, hD⟩, hS.F ht⟩) hS.2.2 dX4_best_17
  · replace h := h.2 hc
    refine lv_aload_n hx hb dX4_best_7 rfl (lv_at hl 0 rfl) ?_
    refine va_get (D := D) (ci := 4) (v := .ref (a 21)) (C := RX4) (T := TX4) (N := 32) hx hb hts hinX4 hown hK hP 0 rfl rfl 30 (by decide) (hts (.fieldLink RX4 73 "WorstPathsModel" "best" "[J") (by decide +kernel)) (fun _ h9 => h9) rfl dX4_best_8 ?_
    refine lv_iconst (v := 0) hx hb dX4_best_11 (by decide) ?_
    obtain ⟨hq, h⟩ := h
    refine va_lald (D := D) hx hb hK hP 21 2 rfl rfl hq dX4_best_12 ?_
    refine lv_goto (tgt := 17) hx hb dX4_best_13 (by decide) ?_
    refine wz_mono hQz ?_
    exact W.lret (v := (m_best_1 (Int32.toNatClampNeg 0))) hx hb hr (fun t ht hW => ⟨⟨(m_best_1 (Int32.toNatClampNeg 0)), (m_thrown_1, m_isFresh_1, m_isAnswer_1, m_comeTo_1, m_greatest_1, m_least_1, m_nowGreatest_1, m_nowLeast_1, m_does_1, m_mostTime_1, m_leastTime_1, m_countUnit_1, m_flagUnit_1, m_worst_1, m_best_1, m_stack_1), rfl, h, by rw [ht]; exact hP, va_K.moved hW.alike hK, hD⟩, hS.F ht⟩) hS.2.2 dX4_best_17
def jn_X4_goesOn_92 (v1 : Int32) (v2 : Int32) (v3 : Int32) (v4 : Int32) (v5 : Int32) (m_blocks : Int32) (m_edges : Int32) (m_pairs : Int32) (m_from : Nat → Int32) (m_to : Nat → Int32) (m_bound : Nat → Int32) (m_pairA : Nat → Int32) (m_pairB : Nat → Int32) (m_mostTime : Nat → Int64) (m_leastTime : Nat → Int64) (m_countUnit : Nat → Int32) (m_flagUnit : Nat → Int32) (m_worst : Nat → Int64) (m_best : Nat → Int64) (K10 : Int32 → Prop) (Q : Int32 → Prop) : Prop := (¬ v2 = 1 → K10 (v4 + 1)) ∧ (v2 = 1 → vp_in v5 40000 ∧ (((lg_cmp (m_best (Int32.toNatClampNeg v5)) 0) < 0 → K10 (v4 + 1)) ∧ (¬ (lg_cmp (m_best (Int32.toNatClampNeg v5)) 0) < 0 → vp_in v5 40000 ∧ (vp_in v3 40 ∧ (vp_in v1 40000 ∧ ((¬ (lg_cmp ((m_best (Int32.toNatClampNeg v5)) + (m_leastTime (Int32.toNatClampNeg v3))) (m_best (Int32.toNatClampNeg v1))) = 0 → K10 (v4 + 1)) ∧ ((lg_cmp ((m_best (Int32.toNatClampNeg v5)) + (m_leastTime (Int32.toNatClampNeg v3))) (m_best (Int32.toNatClampNeg v1))) = 0 → Q v4)))))))
def lp_X4_goesOn_10 (v1 : Int32) (v2 : Int32) (v3 : Int32) (m_blocks : Int32) (m_edges : Int32) (m_pairs : Int32) (m_from : Nat → Int32) (m_to : Nat → Int32) (m_bound : Nat → Int32) (m_pairA : Nat → Int32) (m_pairB : Nat → Int32) (m_mostTime : Nat → Int64) (m_leastTime : Nat → Int64) (m_countUnit : Nat → Int32) (m_flagUnit : Nat → Int32) (m_worst : Nat → Int64) (m_best : Nat → Int64) (Q : Int32 → Prop) : Nat → Int32 → Prop
  | 0, _ => False
  | n + 1, v4 => (m_edges ≤ v4 → Q (-1)) ∧ (¬ m_edges ≤ v4 → vp_in v4 80 ∧ ((¬ (m_from (Int32.toNatClampNeg v4)) = v3 → (lp_X4_goesOn_10 v1 v2 v3 m_blocks m_edges m_pairs m_from m_to m_bound m_pairA m_pairB m_mostTime m_leastTime m_countUnit m_flagUnit m_worst m_best Q n) (v4 + 1)) ∧ ((m_from (Int32.toNatClampNeg v4)) = v3 → wp_X4_allows v1 v4 m_pairs m_bound m_pairA m_pairB m_countUnit m_flagUnit (fun r_34 => (r_34 = 0 → (lp_X4_goesOn_10 v1 v2 v3 m_blocks m_edges m_pairs m_from m_to m_bound m_pairA m_pairB m_mostTime m_leastTime m_countUnit m_flagUnit m_worst m_best Q n) (v4 + 1)) ∧ (¬ r_34 = 0 → wp_X4_behind v1 v4 m_from m_to m_bound m_countUnit m_flagUnit (fun r_44 => (¬ v2 = 0 → jn_X4_goesOn_92 v1 v2 v3 v4 r_44 m_blocks m_edges m_pairs m_from m_to m_bound m_pairA m_pairB m_mostTime m_leastTime m_countUnit m_flagUnit m_worst m_best (lp_X4_goesOn_10 v1 v2 v3 m_blocks m_edges m_pairs m_from m_to m_bound m_pairA m_pairB m_mostTime m_leastTime m_countUnit m_flagUnit m_worst m_best Q n) Q) ∧ (v2 = 0 → vp_in r_44 40000 ∧ (((lg_cmp (m_worst (Int32.toNatClampNeg r_44)) 0) < 0 → jn_X4_goesOn_92 v1 v2 v3 v4 r_44 m_blocks m_edges m_pairs m_from m_to m_bound m_pairA m_pairB m_mostTime m_leastTime m_countUnit m_flagUnit m_worst m_best (lp_X4_goesOn_10 v1 v2 v3 m_blocks m_edges m_pairs m_from m_to m_bound m_pairA m_pairB m_mostTime m_leastTime m_countUnit m_flagUnit m_worst m_best Q n) Q) ∧ (¬ (lg_cmp (m_worst (Int32.toNatClampNeg r_44)) 0) < 0 → vp_in r_44 40000 ∧ (vp_in v3 40 ∧ (vp_in v1 40000 ∧ ((¬ (lg_cmp ((m_worst (Int32.toNatClampNeg r_44)) + (m_mostTime (Int32.toNatClampNeg v3))) (m_worst (Int32.toNatClampNeg v1))) = 0 → jn_X4_goesOn_92 v1 v2 v3 v4 r_44 m_blocks m_edges m_pairs m_from m_to m_bound m_pairA m_pairB m_mostTime m_leastTime m_countUnit m_flagUnit m_worst m_best (lp_X4_goesOn_10 v1 v2 v3 m_blocks m_edges m_pairs m_from m_to m_bound m_pairA m_pairB m_mostTime m_leastTime m_countUnit m_flagUnit m_worst m_best Q n) Q) ∧ ((lg_cmp ((m_worst (Int32.toNatClampNeg r_44)) + (m_mostTime (Int32.toNatClampNeg v3))) (m_worst (Int32.toNatClampNeg v1))) = 0 → Q v4)))))))))))))
def wp_X4_goesOn (v1 : Int32) (v2 : Int32) (m_blocks : Int32) (m_edges : Int32) (m_pairs : Int32) (m_from : Nat → Int32) (m_to : Nat → Int32) (m_bound : Nat → Int32) (m_pairA : Nat → Int32) (m_pairB : Nat → Int32) (m_mostTime : Nat → Int64) (m_leastTime : Nat → Int64) (m_countUnit : Nat → Int32) (m_flagUnit : Nat → Int32) (m_worst : Nat → Int64) (m_best : Nat → Int64) (Q : Int32 → Prop) : Prop := (¬ (m_blocks : Int32) = 0) ∧ (∃ k10, lp_X4_goesOn_10 v1 v2 (v1 - v1 / m_blocks * m_blocks) m_blocks m_edges m_pairs m_from m_to m_bound m_pairA m_pairB m_mostTime m_leastTime m_countUnit m_flagUnit m_worst m_best Q k10 0)
abbrev rm_X4_goesOn : Room := { frames := 2, cells := 0, slots := 0, locals := 46 }
set_option maxHeartbeats 4000000 in
set_option maxRecDepth 100000 in
theorem c_X4_goesOn (l : Launch) (D : va_G) (a : Nat → Nat) (cI : ClassId) (cZ : ClassId) (cJ : ClassId) (sz : Nat) (m_thrown : Int32) (m_sets : Int32) (m_ways : Int32) (m_penalty : Int32) (m_blocks : Int32) (m_edges : Int32) (m_pairs : Int32) (m_lines : Int32) (m_isFresh : Int32) (m_isAnswer : Int32) (m_time : Nat → Int32) (m_touchMany : Nat → Int32) (m_touch : Nat → Int32) (m_line : Nat → Int32) (m_from : Nat → Int32) (m_to : Nat → Int32) (m_bound : Nat → Int32) (m_pairA : Nat → Int32) (m_pairB : Nat → Int32) (m_comeTo : Nat → Int32) (m_greatest : Nat → Int32) (m_least : Nat → Int32) (m_nowGreatest : Nat → Int32) (m_nowLeast : Nat → Int32) (m_does : Nat → Int32) (m_mostTime : Nat → Int64) (m_leastTime : Nat → Int64) (m_countUnit : Nat → Int32) (m_flagUnit : Nat → Int32) (m_worst : Nat → Int64) (m_best : Nat → Int64) (m_stack : Nat → Int32) (v1 : Int32) (v2 : Int32) (Q : Int32 → Prop) (h : wp_X4_goesOn v1 v2 m_blocks m_edges m_pairs m_from m_to m_bound m_pairA m_pairB m_mostTime m_leastTime m_countUnit m_flagUnit m_worst m_best Q) : Met l yX4_goesOn wsX4_goesOn rm_X4_goesOn (va_Pc [.ref (a 0), .int v1, .int v2] (inW D cI cZ cJ sz (wM a cI cZ cJ m_thrown m_sets m_ways m_penalty m_blocks m_edges m_pairs m_lines m_isFresh m_isAnswer m_time m_touchMany m_touch m_line m_from m_to m_bound m_pairA m_pairB m_comeTo m_greatest m_least m_nowGreatest m_nowLeast m_does m_mostTime m_leastTime m_countUnit m_flagUnit m_worst m_best m_stack))) (va_Qi (fun (r : Int32) (u : Unit) => Q r) (fun (u : Unit) => outW D cI cZ cJ (va_A (wM a cI cZ cJ m_thrown m_sets m_ways m_penalty m_blocks m_edges m_pairs m_lines m_isFresh m_isAnswer m_time m_touchMany m_touch m_line m_from m_to m_bound m_pairA m_pairB m_comeTo m_greatest m_least m_nowGreatest m_nowLeast m_does m_mostTime m_leastTime m_countUnit m_flagUnit m_worst m_best m_stack) sz) (wM a cI cZ cJ m_thrown m_sets m_ways m_penalty m_blocks m_edges m_pairs m_lines m_isFresh m_isAnswer m_time m_touchMany m_touch m_line m_from m_to m_bound m_pairA m_pairB m_comeTo m_greatest m_least m_nowGreatest m_nowLeast m_does m_mostTime m_leastTime m_countUnit m_flagUnit m_worst m_best m_stack)) (va_A (wM a cI cZ cJ m_thrown m_sets m_ways m_penalty m_blocks m_edges m_pairs m_lines m_isFresh m_isAnswer m_time m_touchMany m_touch m_line m_from m_to m_bound m_pairA m_pairB m_comeTo m_greatest m_least m_nowGreatest m_nowLeast m_does m_mostTime m_leastTime m_countUnit m_flagUnit m_worst m_best m_stack) sz)) 0 0 (va_A (wM a cI cZ cJ m_thrown m_sets m_ways m_penalty m_blocks m_edges m_pairs m_lines m_isFresh m_isAnswer m_time m_touchMany m_touch m_line m_from m_to m_bound m_pairA m_pairB m_comeTo m_greatest m_least m_nowGreatest m_nowLeast m_does m_mostTime m_leastTime m_countUnit m_flagUnit m_worst m_best m_stack) sz) := by
  refine Met.ofW (cc := cX4_goesOn) (maxL := 6) (ret := (some .int)) (by decide +kernel) rfl ?_
  intro p e s m args below meth c s₁ B hml hv
  obtain ⟨rfl, hsz, hP, hK, hD0⟩ := hv
  have hx := B.exec
  have hb := B.bytes
  have hr := B.returns
  have hts := atoms_spec (ws := wsX4_goesOn) B.pre
  have hown : s.vm.findClass RX4 = some m.cls := findClass_of_methodNamed B.named
  have hlocks := B.notSynchronized
  have hinX4 : ∀ w ∈ wsX40, w ∈ wsX4_goesOn := by decide +kernel
  subst hsz
  have hD := hD0.self (sz := s.heap.size)
  generalize hAe : va_A (wM a cI cZ cJ m_thrown m_sets m_ways m_penalty m_blocks m_edges m_pairs m_lines m_isFresh m_isAnswer m_time m_touchMany m_touch m_line m_from m_to m_bound m_pairA m_pairB m_comeTo m_greatest m_least m_nowGreatest m_nowLeast m_does m_mostTime m_leastTime m_countUnit m_flagUnit m_worst m_best m_stack) s.heap.size = A at hD ⊢
  have hA : ∀ q : Nat, s.heap.size ≤ q → A q := fun q h => by rw [← hAe]; exact Or.inr h
  have hS : va_S A s.heap s.heap [] := va_S.rf
  have hP : va_P D vwCl (wM a cI cZ cJ m_thrown m_sets m_ways m_penalty m_blocks m_edges m_pairs m_lines m_isFresh m_isAnswer m_time m_touchMany m_touch m_line m_from m_to m_bound m_pairA m_pairB m_comeTo m_greatest m_least m_nowGreatest m_nowLeast m_does m_mostTime m_leastTime m_countUnit m_flagUnit m_worst m_best m_stack) s.heap := hP
  have hl := lv_entry ([.ref (a 0), .int v1, .int v2]) (n := 6) (Nat.le_of_ble_eq_true rfl)
  rw [lg_entry_eq]
  generalize (lg_sl ([.ref (a 0), .int v1, .int v2]) ++ List.replicate (6 - (lg_sl ([.ref (a 0), .int v1, .int v2])).length) Slot.unset).toArray = ls at hl ⊢
  have hl : lv_has ls 6 [(0, .ref (a 0)), (1, .int v1), (2, .int v2)] := hl
  refine wz_abs (fun Qz hQz => ?_)
  unfold wp_X4_goesOn at h
  refine lv_iload_n hx hb dX4_goesOn_0 rfl (lv_at hl 1 rfl) ?_
  refine lv_aload_n hx hb dX4_goesOn_1 rfl (lv_at hl 0 rfl) ?_
  refine va_get (D := D) (ci := 4) (v := .int m_blocks) (C := RX4) (T := TX4) (N := 32) hx hb hts hinX4 hown hK hP 0 rfl rfl 4 (by decide) (hts (.fieldLink RX4 106 "WorstPathsModel" "blocks" "I") (by decide +kernel)) (fun _ h9 => h9) rfl dX4_goesOn_2 ?_
  obtain ⟨hq, h⟩ := h
  refine lv_irem hx hb dX4_goesOn_5 hq ?_
  refine lv_istore_n (lv' := [(3, .int (v1 - v1 / m_blocks * m_blocks)), (0, .ref (a 0)), (1, .int v1), (2, .int v2)]) hx hb dX4_goesOn_6 rfl hl (by decide) rfl (fun ls hl => ?_)
  refine lv_iconst (v := 0) hx hb dX4_goesOn_7 (by decide) ?_
  refine lv_istore (lv' := [(4, .int 0), (3, .int (v1 - v1 / m_blocks * m_blocks)), (0, .ref (a 0)), (1, .int v1), (2, .int v2)]) hx hb dX4_goesOn_8 hl (by decide) rfl (fun ls hl => ?_)
  have LP10 : ∀ (n10 : Nat) (v4_10 : Int32), lp_X4_goesOn_10 v1 v2 (v1 - v1 / m_blocks * m_blocks) m_blocks m_edges m_pairs m_from m_to m_bound m_pairA m_pairB m_mostTime m_leastTime m_countUnit m_flagUnit m_worst m_best Q n10 v4_10 → ∀ (H : Heap) (locs : List Loc), va_P D vwCl (wM a cI cZ cJ m_thrown m_sets m_ways m_penalty m_blocks m_edges m_pairs m_lines m_isFresh m_isAnswer m_time m_touchMany m_touch m_line m_from m_to m_bound m_pairA m_pairB m_comeTo m_greatest m_least m_nowGreatest m_nowLeast m_does m_mostTime m_leastTime m_countUnit m_flagUnit m_worst m_best m_stack) H → va_D A (wM a cI cZ cJ m_thrown m_sets m_ways m_penalty m_blocks m_edges m_pairs m_lines m_isFresh m_isAnswer m_time m_touchMany m_touch m_line m_from m_to m_bound m_pairA m_pairB m_comeTo m_greatest m_least m_nowGreatest m_nowLeast m_does m_mostTime m_leastTime m_countUnit m_flagUnit m_worst m_best m_stack) → va_S A s.heap H locs → ∀ (ls : Array Slot), lv_has ls 6 [(0, .ref (a 0)), (1, .int v1), (2, .int v2), (3, .int (v1 - v1 / m_blocks * m_blocks)), (4, .int v4_10)] → W p l e (headSpec wsX4_goesOn rm_X4_goesOn).room s m ([Value.ref (a 0), Value.int v1, Value.int v2] : List Value).toArray below meth c H locs 0 0 Qz (F0 m 10 ls []) := by
    intro n10
    induction n10 with
    | zero => intro v4_10 h; exact h.elim
    | succ n10 ih10 =>
      intro v4_10 h H locs hP hD hS ls hl
      unfold lp_X4_goesOn_10 at h
      refine lv_iload hx hb dX4_goesOn_10 (lv_at hl 4 rfl) ?_
      refine lv_aload_n hx hb dX4_goesOn_12 rfl (lv_at hl 0 rfl) ?_
      refine va_get (D := D) (ci := 4) (v := .int m_edges) (C := RX4) (T := TX4) (N := 32) hx hb hts hinX4 hown hK hP 0 rfl rfl 5 (by decide) (hts (.fieldLink RX4 119 "WorstPathsModel" "edges" "I") (by decide +kernel)) (fun _ h9 => h9) rfl dX4_goesOn_13 ?_
      refine lv_icmp_ge (tgt := 142) hx hb dX4_goesOn_16 (by decide) (fun hc => ?_) (fun hc => ?_)
      · replace h := h.1 hc
        refine lv_iconst (v := (-1)) hx hb dX4_goesOn_142 (by decide) ?_
        refine wz_mono hQz ?_
        exact W.iret (v := (-1)) hx hb hr (fun t ht hW => ⟨⟨(-1), (), rfl, h, by rw [ht]; exact hP, va_K.moved hW.alike hK, hD⟩, hS.F ht⟩) hS.2.2 dX4_goesOn_143
      · replace h := h.2 hc
        refine lv_aload_n hx hb dX4_goesOn_19 rfl (lv_at hl 0 rfl) ?_
        refine va_get (D := D) (ci := 4) (v := .ref (a 5)) (C := RX4) (T := TX4) (N := 32) hx hb hts hinX4 hown hK hP 0 rfl rfl 12 (by decide) (hts (.fieldLink RX4 22 "WorstPathsModel" "from" "[I") (by decide +kernel)) (fun _ h9 => h9) rfl dX4_goesOn_20 ?_
        refine lv_iload hx hb dX4_goesOn_23 (lv_at hl 4 rfl) ?_
        obtain ⟨hq, h⟩ := h
        refine va_iald (D := D) hx hb hK hP 5 0 rfl rfl hq dX4_goesOn_25 ?_
        refine lv_iload_n hx hb dX4_goesOn_26 rfl (lv_at hl 3 rfl) ?_
        refine lv_icmp_ne (tgt := 136) hx hb dX4_goesOn_27 (by decide) (fun hc => ?_) (fun hc => ?_)
        · replace h := h.1 hc
          refine lv_iinc (v := (v4_10 + 1)) (lv' := [(4, .int (v4_10 + 1)), (0, .ref (a 0)), (1, .int v1), (2, .int v2), (3, .int (v1 - v1 / m_blocks * m_blocks))]) hx hb dX4_goesOn_136 hl (k := 4) rfl rfl (by decide) rfl (fun ls hl => ?_)
          refine lv_goto (tgt := 10) hx hb dX4_goesOn_139 (by decide) ?_
          exact ih10 (v4_10 + 1) h _ _ hP hD hS _ (lv_sub hl [1, 2, 3, 4, 0] rfl)
        · replace h := h.2 hc
          refine lv_aload_n hx hb dX4_goesOn_30 rfl (lv_at hl 0 rfl) ?_
          refine lv_iload_n hx hb dX4_goesOn_31 rfl (lv_at hl 1 rfl) ?_
          refine lv_iload hx hb dX4_goesOn_32 (lv_at hl 4 rfl) ?_
          have hF := wz_free hD hS hA
          refine va_calli (va_runV (As := [.int v1, .int v4_10]) (rest := []) ⟨hx, hb, hml, hown, hts⟩ (c_X4_allows l D a cI cZ cJ _ m_thrown m_sets m_ways m_penalty m_blocks m_edges m_pairs m_lines m_isFresh m_isAnswer m_time m_touchMany m_touch m_line m_from m_to m_bound m_pairA m_pairB m_comeTo m_greatest m_least m_nowGreatest m_nowLeast m_does m_mostTime m_leastTime m_countUnit m_flagUnit m_worst m_best m_stack v1 v4_10 _ h) (cwV 2 hts gX4_goesOn_X4_allows rfl rfl rfl (by decide +kernel) ⟨Nat.le_of_ble_eq_true rfl, Nat.le_of_ble_eq_true rfl⟩) ⟨wz_blind, va_recv hK hP (ci := 4) (q0 := 0) rfl rfl, fun U hU hW => wz_at hU hW hP hK hD⟩ rfl rfl hl.1 rfl (lv_room (Nat.le_of_ble_eq_true rfl)) dX4_goesOn_34 ⟨Nat.zero_le _, Nat.zero_le _⟩) hS (fun q _ hq => hF q hq) hF (fun r_34 u t H locs ht hvm h hB hz1 hk1 hS => ?_)
          obtain ⟨hP, -, hD⟩ := wz_back ht hF hB
          have hP : va_P D vwCl (wM a cI cZ cJ m_thrown m_sets m_ways m_penalty m_blocks m_edges m_pairs m_lines m_isFresh m_isAnswer m_time m_touchMany m_touch m_line m_from m_to m_bound m_pairA m_pairB m_comeTo m_greatest m_least m_nowGreatest m_nowLeast m_does m_mostTime m_leastTime m_countUnit m_flagUnit m_worst m_best m_stack) H := hP
          have hD : va_D A (wM a cI cZ cJ m_thrown m_sets m_ways m_penalty m_blocks m_edges m_pairs m_lines m_isFresh m_isAnswer m_time m_touchMany m_touch m_line m_from m_to m_bound m_pairA m_pairB m_comeTo m_greatest m_least m_nowGreatest m_nowLeast m_does m_mostTime m_leastTime m_countUnit m_flagUnit m_worst m_best m_stack) := hD
          refine lv_if_eq (tgt := 136) hx hb dX4_goesOn_37 (by decide) (fun hc => ?_) (fun hc => ?_)
          · replace h := h.1 hc
            refine lv_iinc (v := (v4_10 + 1)) (lv' := [(4, .int (v4_10 + 1)), (0, .ref (a 0)), (1, .int v1), (2, .int v2), (3, .int (v1 - v1 / m_blocks * m_blocks))]) hx hb dX4_goesOn_136 hl (k := 4) rfl rfl (by decide) rfl (fun ls hl => ?_)
            refine lv_goto (tgt := 10) hx hb dX4_goesOn_139 (by decide) ?_
            exact ih10 (v4_10 + 1) h _ _ hP hD hS _ (lv_sub hl [1, 2, 3, 4, 0] rfl)
          · replace h := h.2 hc
            refine lv_aload_n hx hb dX4_goesOn_40 rfl (lv_at hl 0 rfl) ?_
            refine lv_iload_n hx hb dX4_goesOn_41 rfl (lv_at hl 1 rfl) ?_
            refine lv_iload hx hb dX4_goesOn_42 (lv_at hl 4 rfl) ?_
            have hF := wz_free hD hS hA
            refine va_calli (va_runV (As := [.int v1, .int v4_10]) (rest := []) ⟨hx, hb, hml, hown, hts⟩ (c_X4_behind l D a cI cZ cJ _ m_thrown m_sets m_ways m_penalty m_blocks m_edges m_pairs m_lines m_isFresh m_isAnswer m_time m_touchMany m_touch m_line m_from m_to m_bound m_pairA m_pairB m_comeTo m_greatest m_least m_nowGreatest m_nowLeast m_does m_mostTime m_leastTime m_countUnit m_flagUnit m_worst m_best m_stack v1 v4_10 _ h) (cwV 2 hts gX4_goesOn_X4_behind rfl rfl rfl (by decide +kernel) ⟨Nat.le_of_ble_eq_true rfl, Nat.le_of_ble_eq_true rfl⟩) ⟨wz_blind, va_recv hK hP (ci := 4) (q0 := 0) rfl rfl, fun U hU hW => wz_at hU hW hP hK hD⟩ rfl rfl hl.1 rfl (lv_room (Nat.le_of_ble_eq_true rfl)) dX4_goesOn_44 ⟨Nat.zero_le _, Nat.zero_le _⟩) hS (fun q _ hq => hF q hq) hF (fun r_44 u t H locs ht hvm h hB hz1 hk1 hS => ?_)
            obtain ⟨hP, -, hD⟩ := wz_back ht hF hB
            have hP : va_P D vwCl (wM a cI cZ cJ m_thrown m_sets m_ways m_penalty m_blocks m_edges m_pairs m_lines m_isFresh m_isAnswer m_time m_touchMany m_touch m_line m_from m_to m_bound m_pairA m_pairB m_comeTo m_greatest m_least m_nowGreatest m_nowLeast m_does m_mostTime m_leastTime m_countUnit m_flagUnit m_worst m_best m_stack) H := hP
            have hD : va_D A (wM a cI cZ cJ m_thrown m_sets m_ways m_penalty m_blocks m_edges m_pairs m_lines m_isFresh m_isAnswer m_time m_touchMany m_touch m_line m_from m_to m_bound m_pairA m_pairB m_comeTo m_greatest m_least m_nowGreatest m_nowLeast m_does m_mostTime m_leastTime m_countUnit m_flagUnit m_worst m_best m_stack) := hD
            refine lv_istore (lv' := [(5, .int r_44), (0, .ref (a 0)), (1, .int v1), (2, .int v2), (3, .int (v1 - v1 / m_blocks * m_blocks)), (4, .int v4_10)]) hx hb dX4_goesOn_47 hl (by decide) rfl (fun ls hl => ?_)
            refine lv_iload_n hx hb dX4_goesOn_49 rfl (lv_at hl 3 rfl) ?_
            have JP92 : jn_X4_goesOn_92 v1 v2 (v1 - v1 / m_blocks * m_blocks) v4_10 r_44 m_blocks m_edges m_pairs m_from m_to m_bound m_pairA m_pairB m_mostTime m_leastTime m_countUnit m_flagUnit m_worst m_best (lp_X4_goesOn_10 v1 v2 (v1 - v1 / m_blocks * m_blocks) m_blocks m_edges m_pairs m_from m_to m_bound m_pairA m_pairB m_mostTime m_leastTime m_countUnit m_flagUnit m_worst m_best Q n10) Q → ∀ (H : Heap) (locs : List Loc), va_P D vwCl (wM a cI cZ cJ m_thrown m_sets m_ways m_penalty m_blocks m_edges m_pairs m_lines m_isFresh m_isAnswer m_time m_touchMany m_touch m_line m_from m_to m_bound m_pairA m_pairB m_comeTo m_greatest m_least m_nowGreatest m_nowLeast m_does m_mostTime m_leastTime m_countUnit m_flagUnit m_worst m_best m_stack) H → va_D A (wM a cI cZ cJ m_thrown m_sets m_ways m_penalty m_blocks m_edges m_pairs m_lines m_isFresh m_isAnswer m_time m_touchMany m_touch m_line m_from m_to m_bound m_pairA m_pairB m_comeTo m_greatest m_least m_nowGreatest m_nowLeast m_does m_mostTime m_leastTime m_countUnit m_flagUnit m_worst m_best m_stack) → va_S A s.heap H locs → ∀ (ls : Array Slot), lv_has ls 6 [(0, .ref (a 0)), (1, .int v1), (2, .int v2), (3, .int (v1 - v1 / m_blocks * m_blocks)), (4, .int v4_10), (5, .int r_44)] → W p l e (headSpec wsX4_goesOn rm_X4_goesOn).room s m ([Value.ref (a 0), Value.int v1, Value.int v2] : List Value).toArray below meth c H locs 0 0 Qz (F0 m 92 ls []) := by
              intro  h H locs hP hD hS ls hl
              unfold jn_X4_goesOn_92 at h
              refine lv_iload_n hx hb dX4_goesOn_92 rfl (lv_at hl 2 rfl) ?_
              refine lv_iconst (v := 1) hx hb dX4_goesOn_93 (by decide) ?_
              refine lv_icmp_ne (tgt := 136) hx hb dX4_goesOn_94 (by decide) (fun hc => ?_) (fun hc => ?_)
              · replace h := h.1 hc
                refine lv_iinc (v := (v4_10 + 1)) (lv' := [(4, .int (v4_10 + 1)), (0, .ref (a 0)), (1, .int v1), (2, .int v2), (3, .int (v1 - v1 / m_blocks * m_blocks)), (5, .int r_44)]) hx hb dX4_goesOn_136 hl (k := 4) rfl rfl (by decide) rfl (fun ls hl => ?_)
                refine lv_goto (tgt := 10) hx hb dX4_goesOn_139 (by decide) ?_
                exact ih10 (v4_10 + 1) h _ _ hP hD hS _ (lv_sub hl [1, 2, 3, 4, 0] rfl)
              · replace h := h.2 hc
                refine lv_aload_n hx hb dX4_goesOn_97 rfl (lv_at hl 0 rfl) ?_
                refine va_get (D := D) (ci := 4) (v := .ref (a 21)) (C := RX4) (T := TX4) (N := 32) hx hb hts hinX4 hown hK hP 0 rfl rfl 30 (by decide) (hts (.fieldLink RX4 73 "WorstPathsModel" "best" "[J") (by decide +kernel)) (fun _ h9 => h9) rfl dX4_goesOn_98 ?_
                refine lv_iload hx hb dX4_goesOn_101 (lv_at hl 5 rfl) ?_
                obtain ⟨hq, h⟩ := h
                refine va_lald (D := D) hx hb hK hP 21 2 rfl rfl hq dX4_goesOn_103 ?_
                refine lv_lconst (v := 0) hx hb dX4_goesOn_104 (by decide) ?_
                refine W.lcmp hx hb dX4_goesOn_105 ?_
                refine lv_if_lt (tgt := 136) hx hb dX4_goesOn_106 (by decide) (fun hc => ?_) (fun hc => ?_)
                · replace h := h.1 hc
                  refine lv_iinc (v := (v4_10 + 1)) (lv' := [(4, .int (v4_10 + 1)), (0, .ref (a 0)), (1, .int v1), (2, .int v2), (3, .int (v1 - v1 / m_blocks * m_blocks)), (5, .int r_44)]) hx hb dX4_goesOn_136 hl (k := 4) rfl rfl (by decide) rfl (fun ls hl => ?_)
                  refine lv_goto (tgt := 10) hx hb dX4_goesOn_139 (by decide) ?_
                  exact ih10 (v4_10 + 1) h _ _ hP hD hS _ (lv_sub hl [1, 2, 3, 4, 0] rfl)
                · replace h := h.2 hc
                  refine lv_aload_n hx hb dX4_goesOn_109 rfl (lv_at hl 0 rfl) ?_
                  refine va_get (D := D) (ci := 4) (v := .ref (a 21)) (C := RX4) (T := TX4) (N := 32) hx hb hts hinX4 hown hK hP 0 rfl rfl 30 (by decide) (hts (.fieldLink RX4 73 "WorstPathsModel" "best" "[J") (by decide +kernel)) (fun _ h9 => h9) rfl dX4_goesOn_110 ?_
                  refine lv_iload hx hb dX4_goesOn_113 (lv_at hl 5 rfl) ?_
                  obtain ⟨hq, h⟩ := h
                  refine va_lald (D := D) hx hb hK hP 21 2 rfl rfl hq dX4_goesOn_115 ?_
                  refine lv_aload_n hx hb dX4_goesOn_116 rfl (lv_at hl 0 rfl) ?_
                  refine va_get (D := D) (ci := 4) (v := .ref (a 17)) (C := RX4) (T := TX4) (N := 32) hx hb hts hinX4 hown hK hP 0 rfl rfl 25 (by decide) (hts (.fieldLink RX4 60 "WorstPathsModel" "leastTime" "[J") (by decide +kernel)) (fun _ h9 => h9) rfl dX4_goesOn_117 ?_
                  refine lv_iload_n hx hb dX4_goesOn_120 rfl (lv_at hl 3 rfl) ?_
                  obtain ⟨hq, h⟩ := h
                  refine va_lald (D := D) hx hb hK hP 17 2 rfl rfl hq dX4_goesOn_121 ?_
                  refine lv_ladd hx hb dX4_goesOn_122 ?_
                  refine lv_aload_n hx hb dX4_goesOn_123 rfl (lv_at hl 0 rfl) ?_
                  refine va_get (D := D) (ci := 4) (v := .ref (a 21)) (C := RX4) (T := TX4) (N := 32) hx hb hts hinX4 hown hK hP 0 rfl rfl 30 (by decide) (hts (.fieldLink RX4 73 "WorstPathsModel" "best" "[J") (by decide +kernel)) (fun _ h9 => h9) rfl dX4_goesOn_124 ?_
                  refine lv_iload_n hx hb dX4_goesOn_127 rfl (lv_at hl 1 rfl) ?_
                  obtain ⟨hq, h⟩ := h
                  refine va_lald (D := D) hx hb hK hP 21 2 rfl rfl hq dX4_goesOn_128 ?_
                  refine W.lcmp hx hb dX4_goesOn_129 ?_
                  refine lv_if_ne (tgt := 136) hx hb dX4_goesOn_130 (by decide) (fun hc => ?_) (fun hc => ?_)
                  · replace h := h.1 hc
                    refine lv_iinc (v := (v4_10 + 1)) (lv' := [(4, .int (v4_10 + 1)), (0, .ref (a 0)), (1, .int v1), (2, .int v2), (3, .int (v1 - v1 / m_blocks * m_blocks)), (5, .int r_44)]) hx hb dX4_goesOn_136 hl (k := 4) rfl rfl (by decide) rfl (fun ls hl => ?_)
                    refine lv_goto (tgt := 10) hx hb dX4_goesOn_139 (by decide) ?_
                    exact ih10 (v4_10 + 1) h _ _ hP hD hS _ (lv_sub hl [1, 2, 3, 4, 0] rfl)
                  · replace h := h.2 hc
                    refine lv_iload hx hb dX4_goesOn_133 (lv_at hl 4 rfl) ?_
                    refine wz_mono hQz ?_
                    exact W.iret (v := v4_10) hx hb hr (fun t ht hW => ⟨⟨v4_10, (), rfl, h, by rw [ht]; exact hP, va_K.moved hW.alike hK, hD⟩, hS.F ht⟩) hS.2.2 dX4_goesOn_135
            refine lv_if_ne (tgt := 92) hx hb dX4_goesOn_50 (by decide) (fun hc => ?_) (fun hc => ?_)
            · replace h := h.1 hc
              exact JP92  h _ _ hP hD hS _ (lv_sub hl [1, 2, 3, 4, 5, 0] rfl)
            · replace h := h.2 hc
              refine lv_aload_n hx hb dX4_goesOn_53 rfl (lv_at hl 1 rfl) ?_
              refine va_get (D := D) (ci := 4) (v := .ref (a 20)) (C := RX4) (T := TX4) (N := 32) hx hb hts hinX4 hown hK hP 0 rfl rfl 29 (by decide) (hts (.fieldLink RX4 70 "WorstPathsModel" "worst" "[J") (by decide +kernel)) (fun _ h9 => h9) rfl dX4_goesOn_54 ?_
              refine lv_iload hx hb dX4_goesOn_57 (lv_at hl 0 rfl) ?_
              obtain ⟨hq, h⟩ := h
              refine va_lald (D := D) hx hb hK hP 20 2 rfl rfl hq dX4_goesOn_59 ?_
              refine lv_lconst (v := 0) hx hb dX4_goesOn_60 (by decide) ?_
              refine W.lcmp hx hb dX4_goesOn_61 ?_
              refine lv_if_lt (tgt := 92) hx hb dX4_goesOn_62 (by decide) (fun hc => ?_) (fun hc => ?_)
              · replace h := h.1 hc
                exact JP92  h _ _ hP hD hS _ (lv_sub hl [1, 2, 3, 4, 5, 0] rfl)
              · replace h := h.2 hc
                refine lv_aload_n hx hb dX4_goesOn_65 rfl (lv_at hl 1 rfl) ?_
                refine va_get (D := D) (ci := 4) (v := .ref (a 20)) (C := RX4) (T := TX4) (N := 32) hx hb hts hinX4 hown hK hP 0 rfl rfl 29 (by decide) (hts (.fieldLink RX4 70 "WorstPathsModel" "worst" "[J") (by decide +kernel)) (fun _ h9 => h9) rfl dX4_goesOn_66 ?_
                refine lv_iload hx hb dX4_goesOn_69 (lv_at hl 0 rfl) ?_
                obtain ⟨hq, h⟩ := h
                refine va_lald (D := D) hx hb hK hP 20 2 rfl rfl hq dX4_goesOn_71 ?_
                refine lv_aload_n hx hb dX4_goesOn_72 rfl (lv_at hl 1 rfl) ?_
                refine va_get (D := D) (ci := 4) (v := .ref (a 16)) (C := RX4) (T := TX4) (N := 32) hx hb hts hinX4 hown hK hP 0 rfl rfl 24 (by decide) (hts (.fieldLink RX4 56 "WorstPathsModel" "mostTime" "[J") (by decide +kernel)) (fun _ h9 => h9) rfl dX4_goesOn_73 ?_
                refine lv_iload_n hx hb dX4_goesOn_76 rfl (lv_at hl 4 rfl) ?_
                obtain ⟨hq, h⟩ := h
                refine va_lald (D := D) hx hb hK hP 16 2 rfl rfl hq dX4_goesOn_77 ?_
                refine lv_ladd hx hb dX4_goesOn_78 ?_
                refine lv_aload_n hx hb dX4_goesOn_79 rfl (lv_at hl 1 rfl) ?_
                refine va_get (D := D) (ci := 4) (v := .ref (a 20)) (C := RX4) (T := TX4) (N := 32) hx hb hts hinX4 hown hK hP 0 rfl rfl 29 (by decide) (hts (.fieldLink RX4 70 "WorstPathsModel" "worst" "[J") (by decide +kernel)) (fun _ h9 => h9) rfl dX4_goesOn_80 ?_
                refine lv_iload_n hx hb dX4_goesOn_83 rfl (lv_at hl 2 rfl) ?_
                obtain ⟨hq, h⟩ := h
                refine va_lald (D := D) hx hb hK hP 20 2 rfl rfl hq dX4_goesOn_84 ?_
                refine W.lcmp hx hb dX4_goesOn_85 ?_
                refine lv_if_ne (tgt := 92) hx hb dX4_goesOn_86 (by decide) (fun hc => ?_) (fun hc => ?_)
                · replace h := h.1 hc
                  exact JP92  h _ _ hP hD hS _ (lv_sub hl [1, 2, 3, 4, 5, 0] rfl)
                · replace h := h.2 hc
                  refine lv_iload hx hb dX4_goesOn_89 (lv_at hl 5 rfl) ?_
                  refine wz_mono hQz ?_
                  exact W.iret (v := v4_10) hx hb hr (fun t ht hW => ⟨⟨v4_10, (), rfl, h, by rw [ht]; exact hP, va_K.moved hW.alike hK, hD⟩, hS.F ht⟩) hS.2.2 dX4_goesOn_91
  obtain ⟨k9, h⟩ := h
  exact LP10 k9 0 h _ _ hP hD hS _ (lv_sub hl [2, 3, 4, 1, 0] rfl)
def lp_X4_way_42 (v1 : Int32) (v2 : Int32) (m_thrown : Int32) (m_sets : Int32) (m_ways : Int32) (m_penalty : Int32) (m_blocks : Int32) (m_edges : Int32) (m_pairs : Int32) (m_lines : Int32) (m_isFresh : Int32) (m_isAnswer : Int32) (m_time : Nat → Int32) (m_touchMany : Nat → Int32) (m_touch : Nat → Int32) (m_line : Nat → Int32) (m_from : Nat → Int32) (m_to : Nat → Int32) (m_bound : Nat → Int32) (m_pairA : Nat → Int32) (m_pairB : Nat → Int32) (m_comeTo : Nat → Int32) (m_greatest : Nat → Int32) (m_least : Nat → Int32) (m_nowGreatest : Nat → Int32) (m_nowLeast : Nat → Int32) (m_does : Nat → Int32) (m_mostTime : Nat → Int64) (m_leastTime : Nat → Int64) (m_countUnit : Nat → Int32) (m_flagUnit : Nat → Int32) (m_worst : Nat → Int64) (m_best : Nat → Int64) (m_stack : Nat → Int32) (Q : Int32 → Int32 → Int32 → Int32 → (Nat → Int32) → (Nat → Int32) → (Nat → Int32) → (Nat → Int32) → (Nat → Int32) → (Nat → Int32) → (Nat → Int64) → (Nat → Int64) → (Nat → Int32) → (Nat → Int32) → (Nat → Int64) → (Nat → Int64) → (Nat → Int32) → Prop) : Nat → Int32 → Int32 → Int32 → Prop
  | 0, _, _, _ => False
  | n + 1, v3, v4, v5 => (v2 ≤ v5 → Q v4 m_thrown m_isFresh m_isAnswer m_comeTo m_greatest m_least m_nowGreatest m_nowLeast m_does m_mostTime m_leastTime m_countUnit m_flagUnit m_worst m_best m_stack) ∧ (¬ v2 ≤ v5 → (v4 < 0 → Q v4 m_thrown m_isFresh m_isAnswer m_comeTo m_greatest m_least m_nowGreatest m_nowLeast m_does m_mostTime m_leastTime m_countUnit m_flagUnit m_worst m_best m_stack) ∧ (¬ v4 < 0 → wp_X4_behind v3 v4 m_from m_to m_bound m_countUnit m_flagUnit (fun r_57 => wp_X4_goesOn r_57 v1 m_blocks m_edges m_pairs m_from m_to m_bound m_pairA m_pairB m_mostTime m_leastTime m_countUnit m_flagUnit m_worst m_best (fun r_64 => (lp_X4_way_42 v1 v2 m_thrown m_sets m_ways m_penalty m_blocks m_edges m_pairs m_lines m_isFresh m_isAnswer m_time m_touchMany m_touch m_line m_from m_to m_bound m_pairA m_pairB m_comeTo m_greatest m_least m_nowGreatest m_nowLeast m_does m_mostTime m_leastTime m_countUnit m_flagUnit m_worst m_best m_stack Q n) r_57 r_64 (v5 + 1)))))
def wp_X4_way (v1 : Int32) (v2 : Int32) (m_thrown : Int32) (m_sets : Int32) (m_ways : Int32) (m_penalty : Int32) (m_blocks : Int32) (m_edges : Int32) (m_pairs : Int32) (m_lines : Int32) (m_isFresh : Int32) (m_isAnswer : Int32) (m_time : Nat → Int32) (m_touchMany : Nat → Int32) (m_touch : Nat → Int32) (m_line : Nat → Int32) (m_from : Nat → Int32) (m_to : Nat → Int32) (m_bound : Nat → Int32) (m_pairA : Nat → Int32) (m_pairB : Nat → Int32) (m_comeTo : Nat → Int32) (m_greatest : Nat → Int32) (m_least : Nat → Int32) (m_nowGreatest : Nat → Int32) (m_nowLeast : Nat → Int32) (m_does : Nat → Int32) (m_mostTime : Nat → Int64) (m_leastTime : Nat → Int64) (m_countUnit : Nat → Int32) (m_flagUnit : Nat → Int32) (m_worst : Nat → Int64) (m_best : Nat → Int64) (m_stack : Nat → Int32) (Q : Int32 → Int32 → Int32 → Int32 → (Nat → Int32) → (Nat → Int32) → (Nat → Int32) → (Nat → Int32) → (Nat → Int32) → (Nat → Int32) → (Nat → Int64) → (Nat → Int64) → (Nat → Int32) → (Nat → Int32) → (Nat → Int64) → (Nat → Int64) → (Nat → Int32) → Prop) : Prop := wp_X4_hasAnswer m_thrown m_sets m_ways m_penalty m_blocks m_edges m_pairs m_lines m_isFresh m_isAnswer m_time m_touchMany m_touch m_line m_from m_to m_bound m_pairA m_pairB m_comeTo m_greatest m_least m_nowGreatest m_nowLeast m_does m_mostTime m_leastTime m_countUnit m_flagUnit m_worst m_best m_stack (fun r_1 m_thrown_1 m_isFresh_1 m_isAnswer_1 m_comeTo_1 m_greatest_1 m_least_1 m_nowGreatest_1 m_nowLeast_1 m_does_1 m_mostTime_1 m_leastTime_1 m_countUnit_1 m_flagUnit_1 m_worst_1 m_best_1 m_stack_1 => (¬ r_1 = 0 → (v2 < 0 → Q 0 2 m_isFresh_1 m_isAnswer_1 m_comeTo_1 m_greatest_1 m_least_1 m_nowGreatest_1 m_nowLeast_1 m_does_1 m_mostTime_1 m_leastTime_1 m_countUnit_1 m_flagUnit_1 m_worst_1 m_best_1 m_stack_1) ∧ (¬ v2 < 0 → wp_X4_within v1 0 1 (fun r_16 => (¬ r_16 = 0 → wp_X4_goesOn 0 v1 m_blocks m_edges m_pairs m_from m_to m_bound m_pairA m_pairB m_mostTime_1 m_leastTime_1 m_countUnit_1 m_flagUnit_1 m_worst_1 m_best_1 (fun r_34 => ∃ k42, lp_X4_way_42 v1 v2 m_thrown_1 m_sets m_ways m_penalty m_blocks m_edges m_pairs m_lines m_isFresh_1 m_isAnswer_1 m_time m_touchMany m_touch m_line m_from m_to m_bound m_pairA m_pairB m_comeTo_1 m_greatest_1 m_least_1 m_nowGreatest_1 m_nowLeast_1 m_does_1 m_mostTime_1 m_leastTime_1 m_countUnit_1 m_flagUnit_1 m_worst_1 m_best_1 m_stack_1 Q k42 0 r_34 0)) ∧ (r_16 = 0 → Q 0 2 m_isFresh_1 m_isAnswer_1 m_comeTo_1 m_greatest_1 m_least_1 m_nowGreatest_1 m_nowLeast_1 m_does_1 m_mostTime_1 m_leastTime_1 m_countUnit_1 m_flagUnit_1 m_worst_1 m_best_1 m_stack_1)))) ∧ (r_1 = 0 → Q 0 m_thrown_1 m_isFresh_1 m_isAnswer_1 m_comeTo_1 m_greatest_1 m_least_1 m_nowGreatest_1 m_nowLeast_1 m_does_1 m_mostTime_1 m_leastTime_1 m_countUnit_1 m_flagUnit_1 m_worst_1 m_best_1 m_stack_1))
abbrev rm_X4_way : Room := { frames := 6, cells := 0, slots := 0, locals := 137 }
set_option maxHeartbeats 4000000 in
set_option maxRecDepth 100000 in
theorem c_X4_way (l : Launch) (D : va_G) (a : Nat → Nat) (cI : ClassId) (cZ : ClassId) (cJ : ClassId) (sz : Nat) (m_thrown : Int32) (m_sets : Int32) (m_ways : Int32) (m_penalty : Int32) (m_blocks : Int32) (m_edges : Int32) (m_pairs : Int32) (m_lines : Int32) (m_isFresh : Int32) (m_isAnswer : Int32) (m_time : Nat → Int32) (m_touchMany : Nat → Int32) (m_touch : Nat → Int32) (m_line : Nat → Int32) (m_from : Nat → Int32) (m_to : Nat → Int32) (m_bound : Nat → Int32) (m_pairA : Nat → Int32) (m_pairB : Nat → Int32) (m_comeTo : Nat → Int32) (m_greatest : Nat → Int32) (m_least : Nat → Int32) (m_nowGreatest : Nat → Int32) (m_nowLeast : Nat → Int32) (m_does : Nat → Int32) (m_mostTime : Nat → Int64) (m_leastTime : Nat → Int64) (m_countUnit : Nat → Int32) (m_flagUnit : Nat → Int32) (m_worst : Nat → Int64) (m_best : Nat → Int64) (m_stack : Nat → Int32) (v1 : Int32) (v2 : Int32) (Q : Int32 → Int32 → Int32 → Int32 → (Nat → Int32) → (Nat → Int32) → (Nat → Int32) → (Nat → Int32) → (Nat → Int32) → (Nat → Int32) → (Nat → Int64) → (Nat → Int64) → (Nat → Int32) → (Nat → Int32) → (Nat → Int64) → (Nat → Int64) → (Nat → Int32) → Prop) (h : wp_X4_way v1 v2 m_thrown m_sets m_ways m_penalty m_blocks m_edges m_pairs m_lines m_isFresh m_isAnswer m_time m_touchMany m_touch m_line m_from m_to m_bound m_pairA m_pairB m_comeTo m_greatest m_least m_nowGreatest m_nowLeast m_does m_mostTime m_leastTime m_countUnit m_flagUnit m_worst m_best m_stack Q) : Met l yX4_way wsX4_way rm_X4_way (va_Pc [.ref (a 0), .int v1, .int v2] (inW D cI cZ cJ sz (wM a cI cZ cJ m_thrown m_sets m_ways m_penalty m_blocks m_edges m_pairs m_lines m_isFresh m_isAnswer m_time m_touchMany m_touch m_line m_from m_to m_bound m_pairA m_pairB m_comeTo m_greatest m_least m_nowGreatest m_nowLeast m_does m_mostTime m_leastTime m_countUnit m_flagUnit m_worst m_best m_stack))) (va_Qi (fun (r : Int32) (u : Int32 × Int32 × Int32 × (Nat → Int32) × (Nat → Int32) × (Nat → Int32) × (Nat → Int32) × (Nat → Int32) × (Nat → Int32) × (Nat → Int64) × (Nat → Int64) × (Nat → Int32) × (Nat → Int32) × (Nat → Int64) × (Nat → Int64) × (Nat → Int32)) => Q r u.1 u.2.1 u.2.2.1 u.2.2.2.1 u.2.2.2.2.1 u.2.2.2.2.2.1 u.2.2.2.2.2.2.1 u.2.2.2.2.2.2.2.1 u.2.2.2.2.2.2.2.2.1 u.2.2.2.2.2.2.2.2.2.1 u.2.2.2.2.2.2.2.2.2.2.1 u.2.2.2.2.2.2.2.2.2.2.2.1 u.2.2.2.2.2.2.2.2.2.2.2.2.1 u.2.2.2.2.2.2.2.2.2.2.2.2.2.1 u.2.2.2.2.2.2.2.2.2.2.2.2.2.2.1 u.2.2.2.2.2.2.2.2.2.2.2.2.2.2.2) (fun (u : Int32 × Int32 × Int32 × (Nat → Int32) × (Nat → Int32) × (Nat → Int32) × (Nat → Int32) × (Nat → Int32) × (Nat → Int32) × (Nat → Int64) × (Nat → Int64) × (Nat → Int32) × (Nat → Int32) × (Nat → Int64) × (Nat → Int64) × (Nat → Int32)) => outW D cI cZ cJ (va_A (wM a cI cZ cJ m_thrown m_sets m_ways m_penalty m_blocks m_edges m_pairs m_lines m_isFresh m_isAnswer m_time m_touchMany m_touch m_line m_from m_to m_bound m_pairA m_pairB m_comeTo m_greatest m_least m_nowGreatest m_nowLeast m_does m_mostTime m_leastTime m_countUnit m_flagUnit m_worst m_best m_stack) sz) (wM a cI cZ cJ u.1 m_sets m_ways m_penalty m_blocks m_edges m_pairs m_lines u.2.1 u.2.2.1 m_time m_touchMany m_touch m_line m_from m_to m_bound m_pairA m_pairB u.2.2.2.1 u.2.2.2.2.1 u.2.2.2.2.2.1 u.2.2.2.2.2.2.1 u.2.2.2.2.2.2.2.1 u.2.2.2.2.2.2.2.2.1 u.2.2.2.2.2.2.2.2.2.1 u.2.2.2.2.2.2.2.2.2.2.1 u.2.2.2.2.2.2.2.2.2.2.2.1 u.2.2.2.2.2.2.2.2.2.2.2.2.1 u.2.2.2.2.2.2.2.2.2.2.2.2.2.1 u.2.2.2.2.2.2.2.2.2.2.2.2.2.2.1 u.2.2.2.2.2.2.2.2.2.2.2.2.2.2.2)) (va_A (wM a cI cZ cJ m_thrown m_sets m_ways m_penalty m_blocks m_edges m_pairs m_lines m_isFresh m_isAnswer m_time m_touchMany m_touch m_line m_from m_to m_bound m_pairA m_pairB m_comeTo m_greatest m_least m_nowGreatest m_nowLeast m_does m_mostTime m_leastTime m_countUnit m_flagUnit m_worst m_best m_stack) sz)) 0 0 (va_A (wM a cI cZ cJ m_thrown m_sets m_ways m_penalty m_blocks m_edges m_pairs m_lines m_isFresh m_isAnswer m_time m_touchMany m_touch m_line m_from m_to m_bound m_pairA m_pairB m_comeTo m_greatest m_least m_nowGreatest m_nowLeast m_does m_mostTime m_leastTime m_countUnit m_flagUnit m_worst m_best m_stack) sz) := by
  refine Met.ofW (cc := cX4_way) (maxL := 6) (ret := (some .int)) (by decide +kernel) rfl ?_
  intro p e s m args below meth c s₁ B hml hv
  obtain ⟨rfl, hsz, hP, hK, hD0⟩ := hv
  have hx := B.exec
  have hb := B.bytes
  have hr := B.returns
  have hts := atoms_spec (ws := wsX4_way) B.pre
  have hown : s.vm.findClass RX4 = some m.cls := findClass_of_methodNamed B.named
  have hlocks := B.notSynchronized
  have hinX4 : ∀ w ∈ wsX40, w ∈ wsX4_way := by decide +kernel
  subst hsz
  have hD := hD0.self (sz := s.heap.size)
  generalize hAe : va_A (wM a cI cZ cJ m_thrown m_sets m_ways m_penalty m_blocks m_edges m_pairs m_lines m_isFresh m_isAnswer m_time m_touchMany m_touch m_line m_from m_to m_bound m_pairA m_pairB m_comeTo m_greatest m_least m_nowGreatest m_nowLeast m_does m_mostTime m_leastTime m_countUnit m_flagUnit m_worst m_best m_stack) s.heap.size = A at hD ⊢
  have hA : ∀ q : Nat, s.heap.size ≤ q → A q := fun q h => by rw [← hAe]; exact Or.inr h
  have hS : va_S A s.heap s.heap [] := va_S.rf
  have hP : va_P D vwCl (wM a cI cZ cJ m_thrown m_sets m_ways m_penalty m_blocks m_edges m_pairs m_lines m_isFresh m_isAnswer m_time m_touchMany m_touch m_line m_from m_to m_bound m_pairA m_pairB m_comeTo m_greatest m_least m_nowGreatest m_nowLeast m_does m_mostTime m_leastTime m_countUnit m_flagUnit m_worst m_best m_stack) s.heap := hP
  have hl := lv_entry ([.ref (a 0), .int v1, .int v2]) (n := 6) (Nat.le_of_ble_eq_true rfl)
  rw [lg_entry_eq]
  generalize (lg_sl ([.ref (a 0), .int v1, .int v2]) ++ List.replicate (6 - (lg_sl ([.ref (a 0), .int v1, .int v2])).length) Slot.unset).toArray = ls at hl ⊢
  have hl : lv_has ls 6 [(0, .ref (a 0)), (1, .int v1), (2, .int v2)] := hl
  refine wz_abs (fun Qz hQz => ?_)
  unfold wp_X4_way at h
  refine lv_aload_n hx hb dX4_way_0 rfl (lv_at hl 0 rfl) ?_
  have hF := wz_free hD hS hA
  refine va_calli (va_runV (As := []) (rest := []) ⟨hx, hb, hml, hown, hts⟩ (c_X4_hasAnswer l D a cI cZ cJ _ m_thrown m_sets m_ways m_penalty m_blocks m_edges m_pairs m_lines m_isFresh m_isAnswer m_time m_touchMany m_touch m_line m_from m_to m_bound m_pairA m_pairB m_comeTo m_greatest m_least m_nowGreatest m_nowLeast m_does m_mostTime m_leastTime m_countUnit m_flagUnit m_worst m_best m_stack _ h) (cwV 0 hts gX4_way_X4_hasAnswer rfl rfl rfl (by decide +kernel) ⟨Nat.le_of_ble_eq_true rfl, Nat.le_of_ble_eq_true rfl⟩) ⟨wz_blind, va_recv hK hP (ci := 4) (q0 := 0) rfl rfl, fun U hU hW => wz_at hU hW hP hK hD⟩ rfl rfl hl.1 rfl (lv_room (Nat.le_of_ble_eq_true rfl)) dX4_way_1 ⟨Nat.zero_le _, Nat.zero_le _⟩) hS (fun q _ hq => hF q hq) hF (fun r_1 u t H locs ht hvm h hB hz1 hk1 hS => ?_)
  obtain ⟨m_thrown_1, m_isFresh_1, m_isAnswer_1, m_comeTo_1, m_greatest_1, m_least_1, m_nowGreatest_1, m_nowLeast_1, m_does_1, m_mostTime_1, m_leastTime_1, m_countUnit_1, m_flagUnit_1, m_worst_1, m_best_1, m_stack_1⟩ := u
  dsimp only at h hB
  obtain ⟨hP, -, hD⟩ := wz_back ht hF hB
  have hP : va_P D vwCl (wM a cI cZ cJ m_thrown_1 m_sets m_ways m_penalty m_blocks m_edges m_pairs m_lines m_isFresh_1 m_isAnswer_1 m_time m_touchMany m_touch m_line m_from m_to m_bound m_pairA m_pairB m_comeTo_1 m_greatest_1 m_least_1 m_nowGreatest_1 m_nowLeast_1 m_does_1 m_mostTime_1 m_leastTime_1 m_countUnit_1 m_flagUnit_1 m_worst_1 m_best_1 m_stack_1) H := hP
  have hD : va_D A (wM a cI cZ cJ m_thrown_1 m_sets m_ways m_penalty m_blocks m_edges m_pairs m_lines m_isFresh_1 m_isAnswer_1 m_time m_touchMany m_touch m_line m_from m_to m_bound m_pairA m_pairB m_comeTo_1 m_greatest_1 m_least_1 m_nowGreatest_1 m_nowLeast_1 m_does_1 m_mostTime_1 m_leastTime_1 m_countUnit_1 m_flagUnit_1 m_worst_1 m_best_1 m_stack_1) := hD
  refine lv_if_ne (tgt := 9) hx hb dX4_way_4 (by decide) (fun hc => ?_) (fun hc => ?_)
  · replace h := h.1 hc
    refine lv_iload_n hx hb dX4_way_9 rfl (lv_at hl 2 rfl) ?_
    refine lv_if_lt (tgt := 22) hx hb dX4_way_10 (by decide) (fun hc => ?_) (fun hc => ?_)
    · replace h := h.1 hc
      refine lv_aload_n hx hb dX4_way_22 rfl (lv_at hl 0 rfl) ?_
      refine lv_iconst (v := 2) hx hb dX4_way_23 (by decide) ?_
      refine va_put (D := D) (ci := 4) (v := .int 2) (ty := .int) (C := RX4) (T := TX4) (N := 32) hx hb hts hinX4 tyX4 tyX4_ok nmX4 hown hK hP hD hS 0 rfl rfl 0 (by decide) (hts (.fieldLink RX4 94 "WorstPathsModel" "thrown" "I") (by decide +kernel)) (fun _ h9 => h9) rfl (by decide +kernel) rfl rfl (Nat.le_of_ble_eq_true rfl) dX4_way_24 (fun H locs hP hD hS => ?_)
      have hP : va_P D vwCl (wM a cI cZ cJ 2 m_sets m_ways m_penalty m_blocks m_edges m_pairs m_lines m_isFresh_1 m_isAnswer_1 m_time m_touchMany m_touch m_line m_from m_to m_bound m_pairA m_pairB m_comeTo_1 m_greatest_1 m_least_1 m_nowGreatest_1 m_nowLeast_1 m_does_1 m_mostTime_1 m_leastTime_1 m_countUnit_1 m_flagUnit_1 m_worst_1 m_best_1 m_stack_1) H := hP
      have hD : va_D A (wM a cI cZ cJ 2 m_sets m_ways m_penalty m_blocks m_edges m_pairs m_lines m_isFresh_1 m_isAnswer_1 m_time m_touchMany m_touch m_line m_from m_to m_bound m_pairA m_pairB m_comeTo_1 m_greatest_1 m_least_1 m_nowGreatest_1 m_nowLeast_1 m_does_1 m_mostTime_1 m_leastTime_1 m_countUnit_1 m_flagUnit_1 m_worst_1 m_best_1 m_stack_1) := hD
      refine lv_iconst (v := 0) hx hb dX4_way_27 (by decide) ?_
      refine wz_mono hQz ?_
      exact W.iret (v := 0) hx hb hr (fun t ht hW => ⟨⟨0, (2, m_isFresh_1, m_isAnswer_1, m_comeTo_1, m_greatest_1, m_least_1, m_nowGreatest_1, m_nowLeast_1, m_does_1, m_mostTime_1, m_leastTime_1, m_countUnit_1, m_flagUnit_1, m_worst_1, m_best_1, m_stack_1), rfl, h, by rw [ht]; exact hP, va_K.moved hW.alike hK, hD⟩, hS.F ht⟩) hS.2.2 dX4_way_28
    · replace h := h.2 hc
      refine lv_iload_n hx hb dX4_way_13 rfl (lv_at hl 1 rfl) ?_
      refine lv_iconst (v := 0) hx hb dX4_way_14 (by decide) ?_
      refine lv_iconst (v := 1) hx hb dX4_way_15 (by decide) ?_
      have hF := wz_free hD hS hA
      refine va_calli (va_runS (As := [.int v1, .int 0, .int 1]) (rest := []) ⟨hx, hb, hml, hown, hts⟩ (c_X4_within l D (wM a cI cZ cJ m_thrown_1 m_sets m_ways m_penalty m_blocks m_edges m_pairs m_lines m_isFresh_1 m_isAnswer_1 m_time m_touchMany m_touch m_line m_from m_to m_bound m_pairA m_pairB m_comeTo_1 m_greatest_1 m_least_1 m_nowGreatest_1 m_nowLeast_1 m_does_1 m_mostTime_1 m_leastTime_1 m_countUnit_1 m_flagUnit_1 m_worst_1 m_best_1 m_stack_1) cI cZ cJ _ v1 0 1 _ h) (va_cwS 3 hts gX4_way_X4_within rfl rfl rfl (by decide +kernel) ⟨Nat.le_of_ble_eq_true rfl, Nat.le_of_ble_eq_true rfl⟩) ⟨wz_blind, fun U hU hW => wz_at hU hW hP hK hD⟩ rfl rfl hl.1 rfl (lv_room (Nat.le_of_ble_eq_true rfl)) dX4_way_16 ⟨Nat.zero_le _, Nat.zero_le _⟩) hS (fun q _ hq => hF q hq) hF (fun r_16 u t H locs ht hvm h hB hz1 hk1 hS => ?_)
      obtain ⟨hP, -, hD⟩ := wz_back ht hF hB
      have hP : va_P D vwCl (wM a cI cZ cJ m_thrown_1 m_sets m_ways m_penalty m_blocks m_edges m_pairs m_lines m_isFresh_1 m_isAnswer_1 m_time m_touchMany m_touch m_line m_from m_to m_bound m_pairA m_pairB m_comeTo_1 m_greatest_1 m_least_1 m_nowGreatest_1 m_nowLeast_1 m_does_1 m_mostTime_1 m_leastTime_1 m_countUnit_1 m_flagUnit_1 m_worst_1 m_best_1 m_stack_1) H := hP
      have hD : va_D A (wM a cI cZ cJ m_thrown_1 m_sets m_ways m_penalty m_blocks m_edges m_pairs m_lines m_isFresh_1 m_isAnswer_1 m_time m_touchMany m_touch m_line m_from m_to m_bound m_pairA m_pairB m_comeTo_1 m_greatest_1 m_least_1 m_nowGreatest_1 m_nowLeast_1 m_does_1 m_mostTime_1 m_leastTime_1 m_countUnit_1 m_flagUnit_1 m_worst_1 m_best_1 m_stack_1) := hD
      refine lv_if_ne (tgt := 29) hx hb dX4_way_19 (by decide) (fun hc => ?_) (fun hc => ?_)
      · replace h := h.1 hc
        refine lv_iconst (v := 0) hx hb dX4_way_29 (by decide) ?_
        refine lv_istore_n (lv' := [(3, .int 0), (0, .ref (a 0)), (1, .int v1), (2, .int v2)]) hx hb dX4_way_30 rfl hl (by decide) rfl (fun ls hl => ?_)
        refine lv_aload_n hx hb dX4_way_31 rfl (lv_at hl 1 rfl) ?_
        refine lv_iload_n hx hb dX4_way_32 rfl (lv_at hl 0 rfl) ?_
        refine lv_iload_n hx hb dX4_way_33 rfl (lv_at hl 2 rfl) ?_
        have hF := wz_free hD hS hA
        refine va_calli (va_runV (As := [.int 0, .int v1]) (rest := []) ⟨hx, hb, hml, hown, hts⟩ (c_X4_goesOn l D a cI cZ cJ _ m_thrown_1 m_sets m_ways m_penalty m_blocks m_edges m_pairs m_lines m_isFresh_1 m_isAnswer_1 m_time m_touchMany m_touch m_line m_from m_to m_bound m_pairA m_pairB m_comeTo_1 m_greatest_1 m_least_1 m_nowGreatest_1 m_nowLeast_1 m_does_1 m_mostTime_1 m_leastTime_1 m_countUnit_1 m_flagUnit_1 m_worst_1 m_best_1 m_stack_1 0 v1 _ h) (cwV 2 hts gX4_way_X4_goesOn rfl rfl rfl (by decide +kernel) ⟨Nat.le_of_ble_eq_true rfl, Nat.le_of_ble_eq_true rfl⟩) ⟨wz_blind, va_recv hK hP (ci := 4) (q0 := 0) rfl rfl, fun U hU hW => wz_at hU hW hP hK hD⟩ rfl rfl hl.1 rfl (lv_room (Nat.le_of_ble_eq_true rfl)) dX4_way_34 ⟨Nat.zero_le _, Nat.zero_le _⟩) hS (fun q _ hq => hF q hq) hF (fun r_34 u t H locs ht hvm h hB hz1 hk1 hS => ?_)
        obtain ⟨hP, -, hD⟩ := wz_back ht hF hB
        have hP : va_P D vwCl (wM a cI cZ cJ m_thrown_1 m_sets m_ways m_penalty m_blocks m_edges m_pairs m_lines m_isFresh_1 m_isAnswer_1 m_time m_touchMany m_touch m_line m_from m_to m_bound m_pairA m_pairB m_comeTo_1 m_greatest_1 m_least_1 m_nowGreatest_1 m_nowLeast_1 m_does_1 m_mostTime_1 m_leastTime_1 m_countUnit_1 m_flagUnit_1 m_worst_1 m_best_1 m_stack_1) H := hP
        have hD : va_D A (wM a cI cZ cJ m_thrown_1 m_sets m_ways m_penalty m_blocks m_edges m_pairs m_lines m_isFresh_1 m_isAnswer_1 m_time m_touchMany m_touch m_line m_from m_to m_bound m_pairA m_pairB m_comeTo_1 m_greatest_1 m_least_1 m_nowGreatest_1 m_nowLeast_1 m_does_1 m_mostTime_1 m_leastTime_1 m_countUnit_1 m_flagUnit_1 m_worst_1 m_best_1 m_stack_1) := hD
        refine lv_istore (lv' := [(4, .int r_34), (3, .int 0), (0, .ref (a 0)), (1, .int v1), (2, .int v2)]) hx hb dX4_way_37 hl (by decide) rfl (fun ls hl => ?_)
        refine lv_iconst (v := 0) hx hb dX4_way_39 (by decide) ?_
        refine lv_istore (lv' := [(5, .int 0), (4, .int r_34), (3, .int 0), (0, .ref (a 0)), (1, .int v1), (2, .int v2)]) hx hb dX4_way_40 hl (by decide) rfl (fun ls hl => ?_)
        have LP42 : ∀ (n42 : Nat) (v3_42 : Int32) (v4_42 : Int32) (v5_42 : Int32), lp_X4_way_42 v1 v2 m_thrown_1 m_sets m_ways m_penalty m_blocks m_edges m_pairs m_lines m_isFresh_1 m_isAnswer_1 m_time m_touchMany m_touch m_line m_from m_to m_bound m_pairA m_pairB m_comeTo_1 m_greatest_1 m_least_1 m_nowGreatest_1 m_nowLeast_1 m_does_1 m_mostTime_1 m_leastTime_1 m_countUnit_1 m_flagUnit_1 m_worst_1 m_best_1 m_stack_1 Q n42 v3_42 v4_42 v5_42 → ∀ (H : Heap) (locs : List Loc), va_P D vwCl (wM a cI cZ cJ m_thrown_1 m_sets m_ways m_penalty m_blocks m_edges m_pairs m_lines m_isFresh_1 m_isAnswer_1 m_time m_touchMany m_touch m_line m_from m_to m_bound m_pairA m_pairB m_comeTo_1 m_greatest_1 m_least_1 m_nowGreatest_1 m_nowLeast_1 m_does_1 m_mostTime_1 m_leastTime_1 m_countUnit_1 m_flagUnit_1 m_worst_1 m_best_1 m_stack_1) H → va_D A (wM a cI cZ cJ m_thrown_1 m_sets m_ways m_penalty m_blocks m_edges m_pairs m_lines m_isFresh_1 m_isAnswer_1 m_time m_touchMany m_touch m_line m_from m_to m_bound m_pairA m_pairB m_comeTo_1 m_greatest_1 m_least_1 m_nowGreatest_1 m_nowLeast_1 m_does_1 m_mostTime_1 m_leastTime_1 m_countUnit_1 m_flagUnit_1 m_worst_1 m_best_1 m_stack_1) → va_S A s.heap H locs → ∀ (ls : Array Slot), lv_has ls 6 [(0, .ref (a 0)), (1, .int v1), (2, .int v2), (3, .int v3_42), (4, .int v4_42), (5, .int v5_42)] → W p l e (headSpec wsX4_way rm_X4_way).room s m ([Value.ref (a 0), Value.int v1, Value.int v2] : List Value).toArray below meth c H locs 0 0 Qz (F0 m 42 ls []) := by
          intro n42
          induction n42 with
          | zero => intro v3_42 v4_42 v5_42 h; exact h.elim
          | succ n42 ih42 =>
            intro v3_42 v4_42 v5_42 h H locs hP hD hS ls hl
            unfold lp_X4_way_42 at h
            refine lv_iload hx hb dX4_way_42 (lv_at hl 5 rfl) ?_
            refine lv_iload_n hx hb dX4_way_44 rfl (lv_at hl 2 rfl) ?_
            refine lv_icmp_ge (tgt := 75) hx hb dX4_way_45 (by decide) (fun hc => ?_) (fun hc => ?_)
            · replace h := h.1 hc
              refine lv_iload hx hb dX4_way_75 (lv_at hl 4 rfl) ?_
              refine wz_mono hQz ?_
              exact W.iret (v := v4_42) hx hb hr (fun t ht hW => ⟨⟨v4_42, (m_thrown_1, m_isFresh_1, m_isAnswer_1, m_comeTo_1, m_greatest_1, m_least_1, m_nowGreatest_1, m_nowLeast_1, m_does_1, m_mostTime_1, m_leastTime_1, m_countUnit_1, m_flagUnit_1, m_worst_1, m_best_1, m_stack_1), rfl, h, by rw [ht]; exact hP, va_K.moved hW.alike hK, hD⟩, hS.F ht⟩) hS.2.2 dX4_way_77
            · replace h := h.2 hc
              refine lv_iload hx hb dX4_way_48 (lv_at hl 4 rfl) ?_
              refine lv_if_lt (tgt := 75) hx hb dX4_way_50 (by decide) (fun hc => ?_) (fun hc => ?_)
              · replace h := h.1 hc
                refine lv_iload hx hb dX4_way_75 (lv_at hl 4 rfl) ?_
                refine wz_mono hQz ?_
                exact W.iret (v := v4_42) hx hb hr (fun t ht hW => ⟨⟨v4_42, (m_thrown_1, m_isFresh_1, m_isAnswer_1, m_comeTo_1, m_greatest_1, m_least_1, m_nowGreatest_1, m_nowLeast_1, m_does_1, m_mostTime_1, m_leastTime_1, m_countUnit_1, m_flagUnit_1, m_worst_1, m_best_1, m_stack_1), rfl, h, by rw [ht]; exact hP, va_K.moved hW.alike hK, hD⟩, hS.F ht⟩) hS.2.2 dX4_way_77
              · replace h := h.2 hc
                refine lv_aload_n hx hb dX4_way_53 rfl (lv_at hl 0 rfl) ?_
                refine lv_iload_n hx hb dX4_way_54 rfl (lv_at hl 3 rfl) ?_
                refine lv_iload hx hb dX4_way_55 (lv_at hl 4 rfl) ?_
                have hF := wz_free hD hS hA
                refine va_calli (va_runV (As := [.int v3_42, .int v4_42]) (rest := []) ⟨hx, hb, hml, hown, hts⟩ (c_X4_behind l D a cI cZ cJ _ m_thrown_1 m_sets m_ways m_penalty m_blocks m_edges m_pairs m_lines m_isFresh_1 m_isAnswer_1 m_time m_touchMany m_touch m_line m_from m_to m_bound m_pairA m_pairB m_comeTo_1 m_greatest_1 m_least_1 m_nowGreatest_1 m_nowLeast_1 m_does_1 m_mostTime_1 m_leastTime_1 m_countUnit_1 m_flagUnit_1 m_worst_1 m_best_1 m_stack_1 v3_42 v4_42 _ h) (cwV 2 hts gX4_way_X4_behind rfl rfl rfl (by decide +kernel) ⟨Nat.le_of_ble_eq_true rfl, Nat.le_of_ble_eq_true rfl⟩) ⟨wz_blind, va_recv hK hP (ci := 4) (q0 := 0) rfl rfl, fun U hU hW => wz_at hU hW hP hK hD⟩ rfl rfl hl.1 rfl (lv_room (Nat.le_of_ble_eq_true rfl)) dX4_way_57 ⟨Nat.zero_le _, Nat.zero_le _⟩) hS (fun q _ hq => hF q hq) hF (fun r_57 u t H locs ht hvm h hB hz1 hk1 hS => ?_)
                obtain ⟨hP, -, hD⟩ := wz_back ht hF hB
                have hP : va_P D vwCl (wM a cI cZ cJ m_thrown_1 m_sets m_ways m_penalty m_blocks m_edges m_pairs m_lines m_isFresh_1 m_isAnswer_1 m_time m_touchMany m_touch m_line m_from m_to m_bound m_pairA m_pairB m_comeTo_1 m_greatest_1 m_least_1 m_nowGreatest_1 m_nowLeast_1 m_does_1 m_mostTime_1 m_leastTime_1 m_countUnit_1 m_flagUnit_1 m_worst_1 m_best_1 m_stack_1) H := hP
                have hD : va_D A (wM a cI cZ cJ m_thrown_1 m_sets m_ways m_penalty m_blocks m_edges m_pairs m_lines m_isFresh_1 m_isAnswer_1 m_time m_touchMany m_touch m_line m_from m_to m_bound m_pairA m_pairB m_comeTo_1 m_greatest_1 m_least_1 m_nowGreatest_1 m_nowLeast_1 m_does_1 m_mostTime_1 m_leastTime_1 m_countUnit_1 m_flagUnit_1 m_worst_1 m_best_1 m_stack_1) := hD
                refine lv_istore_n (lv' := [(3, .int r_57), (0, .ref (a 0)), (1, .int v1), (2, .int v2), (4, .int v4_42), (5, .int v5_42)]) hx hb dX4_way_60 rfl hl (by decide) rfl (fun ls hl => ?_)
                refine lv_aload_n hx hb dX4_way_61 rfl (lv_at hl 1 rfl) ?_
                refine lv_iload_n hx hb dX4_way_62 rfl (lv_at hl 0 rfl) ?_
                refine lv_iload_n hx hb dX4_way_63 rfl (lv_at hl 2 rfl) ?_
                have hF := wz_free hD hS hA
                refine va_calli (va_runV (As := [.int r_57, .int v1]) (rest := []) ⟨hx, hb, hml, hown, hts⟩ (c_X4_goesOn l D a cI cZ cJ _ m_thrown_1 m_sets m_ways m_penalty m_blocks m_edges m_pairs m_lines m_isFresh_1 m_isAnswer_1 m_time m_touchMany m_touch m_line m_from m_to m_bound m_pairA m_pairB m_comeTo_1 m_greatest_1 m_least_1 m_nowGreatest_1 m_nowLeast_1 m_does_1 m_mostTime_1 m_leastTime_1 m_countUnit_1 m_flagUnit_1 m_worst_1 m_best_1 m_stack_1 r_57 v1 _ h) (cwV 2 hts gX4_way_X4_goesOn rfl rfl rfl (by decide +kernel) ⟨Nat.le_of_ble_eq_true rfl, Nat.le_of_ble_eq_true rfl⟩) ⟨wz_blind, va_recv hK hP (ci := 4) (q0 := 0) rfl rfl, fun U hU hW => wz_at hU hW hP hK hD⟩ rfl rfl hl.1 rfl (lv_room (Nat.le_of_ble_eq_true rfl)) dX4_way_64 ⟨Nat.zero_le _, Nat.zero_le _⟩) hS (fun q _ hq => hF q hq) hF (fun r_64 u t H locs ht hvm h hB hz1 hk1 hS => ?_)
                obtain ⟨hP, -, hD⟩ := wz_back ht hF hB
                have hP : va_P D vwCl (wM a cI cZ cJ m_thrown_1 m_sets m_ways m_penalty m_blocks m_edges m_pairs m_lines m_isFresh_1 m_isAnswer_1 m_time m_touchMany m_touch m_line m_from m_to m_bound m_pairA m_pairB m_comeTo_1 m_greatest_1 m_least_1 m_nowGreatest_1 m_nowLeast_1 m_does_1 m_mostTime_1 m_leastTime_1 m_countUnit_1 m_flagUnit_1 m_worst_1 m_best_1 m_stack_1) H := hP
                have hD : va_D A (wM a cI cZ cJ m_thrown_1 m_sets m_ways m_penalty m_blocks m_edges m_pairs m_lines m_isFresh_1 m_isAnswer_1 m_time m_touchMany m_touch m_line m_from m_to m_bound m_pairA m_pairB m_comeTo_1 m_greatest_1 m_least_1 m_nowGreatest_1 m_nowLeast_1 m_does_1 m_mostTime_1 m_leastTime_1 m_countUnit_1 m_flagUnit_1 m_worst_1 m_best_1 m_stack_1) := hD
                refine lv_istore (lv' := [(4, .int r_64), (3, .int r_57), (0, .ref (a 0)), (1, .int v1), (2, .int v2), (5, .int v5_42)]) hx hb dX4_way_67 hl (by decide) rfl (fun ls hl => ?_)
                refine lv_iinc (v := (v5_42 + 1)) (lv' := [(5, .int (v5_42 + 1)), (4, .int r_64), (3, .int r_57), (0, .ref (a 0)), (1, .int v1), (2, .int v2)]) hx hb dX4_way_69 hl (k := 5) rfl rfl (by decide) rfl (fun ls hl => ?_)
                refine lv_goto (tgt := 42) hx hb dX4_way_72 (by decide) ?_
                exact ih42 r_57 r_64 (v5_42 + 1) h _ _ hP hD hS _ (lv_sub hl [3, 4, 5, 2, 1, 0] rfl)
        obtain ⟨k9, h⟩ := h
        exact LP42 k9 0 r_34 0 h _ _ hP hD hS _ (lv_sub hl [3, 4, 5, 2, 1, 0] rfl)
      · replace h := h.2 hc
        refine lv_aload_n hx hb dX4_way_22 rfl (lv_at hl 0 rfl) ?_
        refine lv_iconst (v := 2) hx hb dX4_way_23 (by decide) ?_
        refine va_put (D := D) (ci := 4) (v := .int 2) (ty := .int) (C := RX4) (T := TX4) (N := 32) hx hb hts hinX4 tyX4 tyX4_ok nmX4 hown hK hP hD hS 0 rfl rfl 0 (by decide) (hts (.fieldLink RX4 94 "WorstPathsModel" "thrown" "I") (by decide +kernel)) (fun _ h9 => h9) rfl (by decide +kernel) rfl rfl (Nat.le_of_ble_eq_true rfl) dX4_way_24 (fun H locs hP hD hS => ?_)
        have hP : va_P D vwCl (wM a cI cZ cJ 2 m_sets m_ways m_penalty m_blocks m_edges m_pairs m_lines m_isFresh_1 m_isAnswer_1 m_time m_touchMany m_touch m_line m_from m_to m_bound m_pairA m_pairB m_comeTo_1 m_greatest_1 m_least_1 m_nowGreatest_1 m_nowLeast_1 m_does_1 m_mostTime_1 m_leastTime_1 m_countUnit_1 m_flagUnit_1 m_worst_1 m_best_1 m_stack_1) H := hP
        have hD : va_D A (wM a cI cZ cJ 2 m_sets m_ways m_penalty m_blocks m_edges m_pairs m_lines m_isFresh_1 m_isAnswer_1 m_time m_touchMany m_touch m_line m_from m_to m_bound m_pairA m_pairB m_comeTo_1 m_greatest_1 m_least_1 m_nowGreatest_1 m_nowLeast_1 m_does_1 m_mostTime_1 m_leastTime_1 m_countUnit_1 m_flagUnit_1 m_worst_1 m_best_1 m_stack_1) := hD
        refine lv_iconst (v := 0) hx hb dX4_way_27 (by decide) ?_
        refine wz_mono hQz ?_
        exact W.iret (v := 0) hx hb hr (fun t ht hW => ⟨⟨0, (2, m_isFresh_1, m_isAnswer_1, m_comeTo_1, m_greatest_1, m_least_1, m_nowGreatest_1, m_nowLeast_1, m_does_1, m_mostTime_1, m_leastTime_1, m_countUnit_1, m_flagUnit_1, m_worst_1, m_best_1, m_stack_1), rfl, h, by rw [ht]; exact hP, va_K.moved hW.alike hK, hD⟩, hS.F ht⟩) hS.2.2 dX4_way_28
  · replace h := h.2 hc
    refine lv_iconst (v := 0) hx hb dX4_way_7 (by decide) ?_
    refine wz_mono hQz ?_
    exact W.iret (v := 0) hx hb hr (fun t ht hW => ⟨⟨0, (m_thrown_1, m_isFresh_1, m_isAnswer_1, m_comeTo_1, m_greatest_1, m_least_1, m_nowGreatest_1, m_nowLeast_1, m_does_1, m_mostTime_1, m_leastTime_1, m_countUnit_1, m_flagUnit_1, m_worst_1, m_best_1, m_stack_1), rfl, h, by rw [ht]; exact hP, va_K.moved hW.alike hK, hD⟩, hS.F ht⟩) hS.2.2 dX4_way_8
def wp_X4_touches (v1 : Int32) (v2 : Int32) (m_thrown : Int32) (m_sets : Int32) (m_ways : Int32) (m_penalty : Int32) (m_blocks : Int32) (m_edges : Int32) (m_pairs : Int32) (m_lines : Int32) (m_isFresh : Int32) (m_isAnswer : Int32) (m_time : Nat → Int32) (m_touchMany : Nat → Int32) (m_touch : Nat → Int32) (m_line : Nat → Int32) (m_from : Nat → Int32) (m_to : Nat → Int32) (m_bound : Nat → Int32) (m_pairA : Nat → Int32) (m_pairB : Nat → Int32) (m_comeTo : Nat → Int32) (m_greatest : Nat → Int32) (m_least : Nat → Int32) (m_nowGreatest : Nat → Int32) (m_nowLeast : Nat → Int32) (m_does : Nat → Int32) (m_mostTime : Nat → Int64) (m_leastTime : Nat → Int64) (m_countUnit : Nat → Int32) (m_flagUnit : Nat → Int32) (m_worst : Nat → Int64) (m_best : Nat → Int64) (m_stack : Nat → Int32) (Q : Int32 → Int32 → Int32 → Int32 → (Nat → Int32) → (Nat → Int32) → (Nat → Int32) → (Nat → Int32) → (Nat → Int32) → (Nat → Int32) → (Nat → Int64) → (Nat → Int64) → (Nat → Int32) → (Nat → Int32) → (Nat → Int64) → (Nat → Int64) → (Nat → Int32) → Prop) : Prop := wp_X4_within v1 0 (m_blocks - 1) (fun r_13 => (r_13 = 0 → Q 0 1 m_isFresh m_isAnswer m_comeTo m_greatest m_least m_nowGreatest m_nowLeast m_does m_mostTime m_leastTime m_countUnit m_flagUnit m_worst m_best m_stack) ∧ (¬ r_13 = 0 → vp_in v1 40 ∧ (wp_X4_within v2 0 ((m_touchMany (Int32.toNatClampNeg v1)) - 1) (fun r_29 => (¬ r_29 = 0 → wp_X4_work m_sets m_ways m_penalty m_blocks m_edges m_pairs m_lines m_isFresh m_isAnswer m_time m_touchMany m_touch m_line m_from m_to m_bound m_pairA m_pairB m_comeTo m_greatest m_least m_nowGreatest m_nowLeast m_does m_mostTime m_leastTime m_countUnit m_flagUnit m_worst m_best m_stack (fun m_isFresh_43 m_isAnswer_43 m_comeTo_43 m_greatest_43 m_least_43 m_nowGreatest_43 m_nowLeast_43 m_does_43 m_mostTime_43 m_leastTime_43 m_countUnit_43 m_flagUnit_43 m_worst_43 m_best_43 m_stack_43 => vp_in ((6 * v1) + v2) 240 ∧ (Q (m_does_43 (Int32.toNatClampNeg ((6 * v1) + v2))) 0 m_isFresh_43 m_isAnswer_43 m_comeTo_43 m_greatest_43 m_least_43 m_nowGreatest_43 m_nowLeast_43 m_does_43 m_mostTime_43 m_leastTime_43 m_countUnit_43 m_flagUnit_43 m_worst_43 m_best_43 m_stack_43))) ∧ (r_29 = 0 → Q 0 1 m_isFresh m_isAnswer m_comeTo m_greatest m_least m_nowGreatest m_nowLeast m_does m_mostTime m_leastTime m_countUnit m_flagUnit m_worst m_best m_stack)))))
abbrev rm_X4_touches : Room := { frames := 5, cells := 0, slots := 0, locals := 117 }
set_option maxHeartbeats 4000000 in
set_option maxRecDepth 100000 in
theorem c_X4_touches (l : Launch) (D : va_G) (a : Nat → Nat) (cI : ClassId) (cZ : ClassId) (cJ : ClassId) (sz : Nat) (m_thrown : Int32) (m_sets : Int32) (m_ways : Int32) (m_penalty : Int32) (m_blocks : Int32) (m_edges : Int32) (m_pairs : Int32) (m_lines : Int32) (m_isFresh : Int32) (m_isAnswer : Int32) (m_time : Nat → Int32) (m_touchMany : Nat → Int32) (m_touch : Nat → Int32) (m_line : Nat → Int32) (m_from : Nat → Int32) (m_to : Nat → Int32) (m_bound : Nat → Int32) (m_pairA : Nat → Int32) (m_pairB : Nat → Int32) (m_comeTo : Nat → Int32) (m_greatest : Nat → Int32) (m_least : Nat → Int32) (m_nowGreatest : Nat → Int32) (m_nowLeast : Nat → Int32) (m_does : Nat → Int32) (m_mostTime : Nat → Int64) (m_leastTime : Nat → Int64) (m_countUnit : Nat → Int32) (m_flagUnit : Nat → Int32) (m_worst : Nat → Int64) (m_best : Nat → Int64) (m_stack : Nat → Int32) (v1 : Int32) (v2 : Int32) (Q : Int32 → Int32 → Int32 → Int32 → (Nat → Int32) → (Nat → Int32) → (Nat → Int32) → (Nat → Int32) → (Nat → Int32) → (Nat → Int32) → (Nat → Int64) → (Nat → Int64) → (Nat → Int32) → (Nat → Int32) → (Nat → Int64) → (Nat → Int64) → (Nat → Int32) → Prop) (h : wp_X4_touches v1 v2 m_thrown m_sets m_ways m_penalty m_blocks m_edges m_pairs m_lines m_isFresh m_isAnswer m_time m_touchMany m_touch m_line m_from m_to m_bound m_pairA m_pairB m_comeTo m_greatest m_least m_nowGreatest m_nowLeast m_does m_mostTime m_leastTime m_countUnit m_flagUnit m_worst m_best m_stack Q) : Met l yX4_touches wsX4_touches rm_X4_touches (va_Pc [.ref (a 0), .int v1, .int v2] (inW D cI cZ cJ sz (wM a cI cZ cJ m_thrown m_sets m_ways m_penalty m_blocks m_edges m_pairs m_lines m_isFresh m_isAnswer m_time m_touchMany m_touch m_line m_from m_to m_bound m_pairA m_pairB m_comeTo m_greatest m_least m_nowGreatest m_nowLeast m_does m_mostTime m_leastTime m_countUnit m_flagUnit m_worst m_best m_stack))) (va_Qi (fun (r : Int32) (u : Int32 × Int32 × Int32 × (Nat → Int32) × (Nat → Int32) × (Nat → Int32) × (Nat → Int32) × (Nat → Int32) × (Nat → Int32) × (Nat → Int64) × (Nat → Int64) × (Nat → Int32) × (Nat → Int32) × (Nat → Int64) × (Nat → Int64) × (Nat → Int32)) => Q r u.1 u.2.1 u.2.2.1 u.2.2.2.1 u.2.2.2.2.1 u.2.2.2.2.2.1 u.2.2.2.2.2.2.1 u.2.2.2.2.2.2.2.1 u.2.2.2.2.2.2.2.2.1 u.2.2.2.2.2.2.2.2.2.1 u.2.2.2.2.2.2.2.2.2.2.1 u.2.2.2.2.2.2.2.2.2.2.2.1 u.2.2.2.2.2.2.2.2.2.2.2.2.1 u.2.2.2.2.2.2.2.2.2.2.2.2.2.1 u.2.2.2.2.2.2.2.2.2.2.2.2.2.2.1 u.2.2.2.2.2.2.2.2.2.2.2.2.2.2.2) (fun (u : Int32 × Int32 × Int32 × (Nat → Int32) × (Nat → Int32) × (Nat → Int32) × (Nat → Int32) × (Nat → Int32) × (Nat → Int32) × (Nat → Int64) × (Nat → Int64) × (Nat → Int32) × (Nat → Int32) × (Nat → Int64) × (Nat → Int64) × (Nat → Int32)) => outW D cI cZ cJ (va_A (wM a cI cZ cJ m_thrown m_sets m_ways m_penalty m_blocks m_edges m_pairs m_lines m_isFresh m_isAnswer m_time m_touchMany m_touch m_line m_from m_to m_bound m_pairA m_pairB m_comeTo m_greatest m_least m_nowGreatest m_nowLeast m_does m_mostTime m_leastTime m_countUnit m_flagUnit m_worst m_best m_stack) sz) (wM a cI cZ cJ u.1 m_sets m_ways m_penalty m_blocks m_edges m_pairs m_lines u.2.1 u.2.2.1 m_time m_touchMany m_touch m_line m_from m_to m_bound m_pairA m_pairB u.2.2.2.1 u.2.2.2.2.1 u.2.2.2.2.2.1 u.2.2.2.2.2.2.1 u.2.2.2.2.2.2.2.1 u.2.2.2.2.2.2.2.2.1 u.2.2.2.2.2.2.2.2.2.1 u.2.2.2.2.2.2.2.2.2.2.1 u.2.2.2.2.2.2.2.2.2.2.2.1 u.2.2.2.2.2.2.2.2.2.2.2.2.1 u.2.2.2.2.2.2.2.2.2.2.2.2.2.1 u.2.2.2.2.2.2.2.2.2.2.2.2.2.2.1 u.2.2.2.2.2.2.2.2.2.2.2.2.2.2.2)) (va_A (wM a cI cZ cJ m_thrown m_sets m_ways m_penalty m_blocks m_edges m_pairs m_lines m_isFresh m_isAnswer m_time m_touchMany m_touch m_line m_from m_to m_bound m_pairA m_pairB m_comeTo m_greatest m_least m_nowGreatest m_nowLeast m_does m_mostTime m_leastTime m_countUnit m_flagUnit m_worst m_best m_stack) sz)) 0 0 (va_A (wM a cI cZ cJ m_thrown m_sets m_ways m_penalty m_blocks m_edges m_pairs m_lines m_isFresh m_isAnswer m_time m_touchMany m_touch m_line m_from m_to m_bound m_pairA m_pairB m_comeTo m_greatest m_least m_nowGreatest m_nowLeast m_does m_mostTime m_leastTime m_countUnit m_flagUnit m_worst m_best m_stack) sz) := by
  refine Met.ofW (cc := cX4_touches) (maxL := 3) (ret := (some .int)) (by decide +kernel) rfl ?_
  intro p e s m args below meth c s₁ B hml hv
  obtain ⟨rfl, hsz, hP, hK, hD0⟩ := hv
  have hx := B.exec
  have hb := B.bytes
  have hr := B.returns
  have hts := atoms_spec (ws := wsX4_touches) B.pre
  have hown : s.vm.findClass RX4 = some m.cls := findClass_of_methodNamed B.named
  have hlocks := B.notSynchronized
  have hinX4 : ∀ w ∈ wsX40, w ∈ wsX4_touches := by decide +kernel
  subst hsz
  have hD := hD0.self (sz := s.heap.size)
  generalize hAe : va_A (wM a cI cZ cJ m_thrown m_sets m_ways m_penalty m_blocks m_edges m_pairs m_lines m_isFresh m_isAnswer m_time m_touchMany m_touch m_line m_from m_to m_bound m_pairA m_pairB m_comeTo m_greatest m_least m_nowGreatest m_nowLeast m_does m_mostTime m_leastTime m_countUnit m_flagUnit m_worst m_best m_stack) s.heap.size = A at hD ⊢
  have hA : ∀ q : Nat, s.heap.size ≤ q → A q := fun q h => by rw [← hAe]; exact Or.inr h
  have hS : va_S A s.heap s.heap [] := va_S.rf
  have hP : va_P D vwCl (wM a cI cZ cJ m_thrown m_sets m_ways m_penalty m_blocks m_edges m_pairs m_lines m_isFresh m_isAnswer m_time m_touchMany m_touch m_line m_from m_to m_bound m_pairA m_pairB m_comeTo m_greatest m_least m_nowGreatest m_nowLeast m_does m_mostTime m_leastTime m_countUnit m_flagUnit m_worst m_best m_stack) s.heap := hP
  have hl := lv_entry ([.ref (a 0), .int v1, .int v2]) (n := 3) (Nat.le_of_ble_eq_true rfl)
  rw [lg_entry_eq]
  generalize (lg_sl ([.ref (a 0), .int v1, .int v2]) ++ List.replicate (3 - (lg_sl ([.ref (a 0), .int v1, .int v2])).length) Slot.unset).toArray = ls at hl ⊢
  have hl : lv_has ls 3 [(0, .ref (a 0)), (1, .int v1), (2, .int v2)] := hl
  refine wz_abs (fun Qz hQz => ?_)
  unfold wp_X4_touches at h
  refine lv_aload_n hx hb dX4_touches_0 rfl (lv_at hl 0 rfl) ?_
  refine lv_iconst (v := 0) hx hb dX4_touches_1 (by decide) ?_
  refine va_put (D := D) (ci := 4) (v := .int 0) (ty := .int) (C := RX4) (T := TX4) (N := 32) hx hb hts hinX4 tyX4 tyX4_ok nmX4 hown hK hP hD hS 0 rfl rfl 0 (by decide) (hts (.fieldLink RX4 94 "WorstPathsModel" "thrown" "I") (by decide +kernel)) (fun _ h9 => h9) rfl (by decide +kernel) rfl rfl (Nat.le_of_ble_eq_true rfl) dX4_touches_2 (fun H locs hP hD hS => ?_)
  have hP : va_P D vwCl (wM a cI cZ cJ 0 m_sets m_ways m_penalty m_blocks m_edges m_pairs m_lines m_isFresh m_isAnswer m_time m_touchMany m_touch m_line m_from m_to m_bound m_pairA m_pairB m_comeTo m_greatest m_least m_nowGreatest m_nowLeast m_does m_mostTime m_leastTime m_countUnit m_flagUnit m_worst m_best m_stack) H := hP
  have hD : va_D A (wM a cI cZ cJ 0 m_sets m_ways m_penalty m_blocks m_edges m_pairs m_lines m_isFresh m_isAnswer m_time m_touchMany m_touch m_line m_from m_to m_bound m_pairA m_pairB m_comeTo m_greatest m_least m_nowGreatest m_nowLeast m_does m_mostTime m_leastTime m_countUnit m_flagUnit m_worst m_best m_stack) := hD
  refine lv_iload_n hx hb dX4_touches_5 rfl (lv_at hl 1 rfl) ?_
  refine lv_iconst (v := 0) hx hb dX4_touches_6 (by decide) ?_
  refine lv_aload_n hx hb dX4_touches_7 rfl (lv_at hl 0 rfl) ?_
  refine va_get (D := D) (ci := 4) (v := .int m_blocks) (C := RX4) (T := TX4) (N := 32) hx hb hts hinX4 hown hK hP 0 rfl rfl 4 (by decide) (hts (.fieldLink RX4 106 "WorstPathsModel" "blocks" "I") (by decide +kernel)) (fun _ h9 => h9) rfl dX4_touches_8 ?_
  refine lv_iconst (v := 1) hx hb dX4_touches_11 (by decide) ?_
  refine lv_isub hx hb dX4_touches_12 ?_
  have hF := wz_free hD hS hA
  refine va_calli (va_runS (As := [.int v1, .int 0, .int (m_blocks - 1)]) (rest := []) ⟨hx, hb, hml, hown, hts⟩ (c_X4_within l D (wM a cI cZ cJ 0 m_sets m_ways m_penalty m_blocks m_edges m_pairs m_lines m_isFresh m_isAnswer m_time m_touchMany m_touch m_line m_from m_to m_bound m_pairA m_pairB m_comeTo m_greatest m_least m_nowGreatest m_nowLeast m_does m_mostTime m_leastTime m_countUnit m_flagUnit m_worst m_best m_stack) cI cZ cJ _ v1 0 (m_blocks - 1) _ h) (va_cwS 3 hts gX4_touches_X4_within rfl rfl rfl (by decide +kernel) ⟨Nat.le_of_ble_eq_true rfl, Nat.le_of_ble_eq_true rfl⟩) ⟨wz_blind, fun U hU hW => wz_at hU hW hP hK hD⟩ rfl rfl hl.1 rfl (lv_room (Nat.le_of_ble_eq_true rfl)) dX4_touches_13 ⟨Nat.zero_le _, Nat.zero_le _⟩) hS (fun q _ hq => hF q hq) hF (fun r_13 u t H locs ht hvm h hB hz1 hk1 hS => ?_)
  obtain ⟨hP, -, hD⟩ := wz_back ht hF hB
  have hP : va_P D vwCl (wM a cI cZ cJ 0 m_sets m_ways m_penalty m_blocks m_edges m_pairs m_lines m_isFresh m_isAnswer m_time m_touchMany m_touch m_line m_from m_to m_bound m_pairA m_pairB m_comeTo m_greatest m_least m_nowGreatest m_nowLeast m_does m_mostTime m_leastTime m_countUnit m_flagUnit m_worst m_best m_stack) H := hP
  have hD : va_D A (wM a cI cZ cJ 0 m_sets m_ways m_penalty m_blocks m_edges m_pairs m_lines m_isFresh m_isAnswer m_time m_touchMany m_touch m_line m_from m_to m_bound m_pairA m_pairB m_comeTo m_greatest m_least m_nowGreatest m_nowLeast m_does m_mostTime m_leastTime m_countUnit m_flagUnit m_worst m_best m_stack) := hD
  refine lv_if_eq (tgt := 35) hx hb dX4_touches_16 (by decide) (fun hc => ?_) (fun hc => ?_)
  · replace h := h.1 hc
    refine lv_aload_n hx hb dX4_touches_35 rfl (lv_at hl 0 rfl) ?_
    refine lv_iconst (v := 1) hx hb dX4_touches_36 (by decide) ?_
    refine va_put (D := D) (ci := 4) (v := .int 1) (ty := .int) (C := RX4) (T := TX4) (N := 32) hx hb hts hinX4 tyX4 tyX4_ok nmX4 hown hK hP hD hS 0 rfl rfl 0 (by decide) (hts (.fieldLink RX4 94 "WorstPathsModel" "thrown" "I") (by decide +kernel)) (fun _ h9 => h9) rfl (by decide +kernel) rfl rfl (Nat.le_of_ble_eq_true rfl) dX4_touches_37 (fun H locs hP hD hS => ?_)
    have hP : va_P D vwCl (wM a cI cZ cJ 1 m_sets m_ways m_penalty m_blocks m_edges m_pairs m_lines m_isFresh m_isAnswer m_time m_touchMany m_touch m_line m_from m_to m_bound m_pairA m_pairB m_comeTo m_greatest m_least m_nowGreatest m_nowLeast m_does m_mostTime m_leastTime m_countUnit m_flagUnit m_worst m_best m_stack) H := hP
    have hD : va_D A (wM a cI cZ cJ 1 m_sets m_ways m_penalty m_blocks m_edges m_pairs m_lines m_isFresh m_isAnswer m_time m_touchMany m_touch m_line m_from m_to m_bound m_pairA m_pairB m_comeTo m_greatest m_least m_nowGreatest m_nowLeast m_does m_mostTime m_leastTime m_countUnit m_flagUnit m_worst m_best m_stack) := hD
    refine lv_iconst (v := 0) hx hb dX4_touches_40 (by decide) ?_
    refine wz_mono hQz ?_
    exact W.iret (v := 0) hx hb hr (fun t ht hW => ⟨⟨0, (1, m_isFresh, m_isAnswer, m_comeTo, m_greatest, m_least, m_nowGreatest, m_nowLeast, m_does, m_mostTime, m_leastTime, m_countUnit, m_flagUnit, m_worst, m_best, m_stack), rfl, h, by rw [ht]; exact hP, va_K.moved hW.alike hK, hD⟩, hS.F ht⟩) hS.2.2 dX4_touches_41
  · replace h := h.2 hc
    refine lv_iload_n hx hb dX4_touches_19 rfl (lv_at hl 2 rfl) ?_
    refine lv_iconst (v := 0) hx hb dX4_touches_20 (by decide) ?_
    refine lv_aload_n hx hb dX4_touches_21 rfl (lv_at hl 0 rfl) ?_
    refine va_get (D := D) (ci := 4) (v := .ref (a 2)) (C := RX4) (T := TX4) (N := 32) hx hb hts hinX4 hown hK hP 0 rfl rfl 9 (by decide) (hts (.fieldLink RX4 13 "WorstPathsModel" "touchMany" "[I") (by decide +kernel)) (fun _ h9 => h9) rfl dX4_touches_22 ?_
    refine lv_iload_n hx hb dX4_touches_25 rfl (lv_at hl 1 rfl) ?_
    obtain ⟨hq, h⟩ := h
    refine va_iald (D := D) hx hb hK hP 2 0 rfl rfl hq dX4_touches_26 ?_
    refine lv_iconst (v := 1) hx hb dX4_touches_27 (by decide) ?_
    refine lv_isub hx hb dX4_touches_28 ?_
    have hF := wz_free hD hS hA
    refine va_calli (va_runS (As := [.int v2, .int 0, .int ((m_touchMany (Int32.toNatClampNeg v1)) - 1)]) (rest := []) ⟨hx, hb, hml, hown, hts⟩ (c_X4_within l D (wM a cI cZ cJ 0 m_sets m_ways m_penalty m_blocks m_edges m_pairs m_lines m_isFresh m_isAnswer m_time m_touchMany m_touch m_line m_from m_to m_bound m_pairA m_pairB m_comeTo m_greatest m_least m_nowGreatest m_nowLeast m_does m_mostTime m_leastTime m_countUnit m_flagUnit m_worst m_best m_stack) cI cZ cJ _ v2 0 ((m_touchMany (Int32.toNatClampNeg v1)) - 1) _ h) (va_cwS 3 hts gX4_touches_X4_within rfl rfl rfl (by decide +kernel) ⟨Nat.le_of_ble_eq_true rfl, Nat.le_of_ble_eq_true rfl⟩) ⟨wz_blind, fun U hU hW => wz_at hU hW hP hK hD⟩ rfl rfl hl.1 rfl (lv_room (Nat.le_of_ble_eq_true rfl)) dX4_touches_29 ⟨Nat.zero_le _, Nat.zero_le _⟩) hS (fun q _ hq => hF q hq) hF (fun r_29 u t H locs ht hvm h hB hz1 hk1 hS => ?_)
    obtain ⟨hP, -, hD⟩ := wz_back ht hF hB
    have hP : va_P D vwCl (wM a cI cZ cJ 0 m_sets m_ways m_penalty m_blocks m_edges m_pairs m_lines m_isFresh m_isAnswer m_time m_touchMany m_touch m_line m_from m_to m_bound m_pairA m_pairB m_comeTo m_greatest m_least m_nowGreatest m_nowLeast m_does m_mostTime m_leastTime m_countUnit m_flagUnit m_worst m_best m_stack) H := hP
    have hD : va_D A (wM a cI cZ cJ 0 m_sets m_ways m_penalty m_blocks m_edges m_pairs m_lines m_isFresh m_isAnswer m_time m_touchMany m_touch m_line m_from m_to m_bound m_pairA m_pairB m_comeTo m_greatest m_least m_nowGreatest m_nowLeast m_does m_mostTime m_leastTime m_countUnit m_flagUnit m_worst m_best m_stack) := hD
    refine lv_if_ne (tgt := 42) hx hb dX4_touches_32 (by decide) (fun hc => ?_) (fun hc => ?_)
    · replace h := h.1 hc
      refine lv_aload_n hx hb dX4_touches_42 rfl (lv_at hl 0 rfl) ?_
      have hF := wz_free hD hS hA
      refine va_callv (va_runV (As := []) (rest := []) ⟨hx, hb, hml, hown, hts⟩ (c_X4_work l D a cI cZ cJ _ 0 m_sets m_ways m_penalty m_blocks m_edges m_pairs m_lines m_isFresh m_isAnswer m_time m_touchMany m_touch m_line m_from m_to m_bound m_pairA m_pairB m_comeTo m_greatest m_least m_nowGreatest m_nowLeast m_does m_mostTime m_leastTime m_countUnit m_flagUnit m_worst m_best m_stack _ h) (cwV 0 hts gX4_touches_X4_work rfl rfl rfl (by decide +kernel) ⟨Nat.le_of_ble_eq_true rfl, Nat.le_of_ble_eq_true rfl⟩) ⟨wz_blind, va_recv hK hP (ci := 4) (q0 := 0) rfl rfl, fun U hU hW => wz_at hU hW hP hK hD⟩ rfl rfl hl.1 rfl (lv_room (Nat.le_of_ble_eq_true rfl)) dX4_touches_43 ⟨Nat.zero_le _, Nat.zero_le _⟩) hS (fun q _ hq => hF q hq) hF (fun u t H locs ht hvm h hB hz1 hk1 hS => ?_)
      obtain ⟨m_isFresh_43, m_isAnswer_43, m_comeTo_43, m_greatest_43, m_least_43, m_nowGreatest_43, m_nowLeast_43, m_does_43, m_mostTime_43, m_leastTime_43, m_countUnit_43, m_flagUnit_43, m_worst_43, m_best_43, m_stack_43⟩ := u
      dsimp only at h hB
      obtain ⟨hP, -, hD⟩ := wz_back ht hF hB
      have hP : va_P D vwCl (wM a cI cZ cJ 0 m_sets m_ways m_penalty m_blocks m_edges m_pairs m_lines m_isFresh_43 m_isAnswer_43 m_time m_touchMany m_touch m_line m_from m_to m_bound m_pairA m_pairB m_comeTo_43 m_greatest_43 m_least_43 m_nowGreatest_43 m_nowLeast_43 m_does_43 m_mostTime_43 m_leastTime_43 m_countUnit_43 m_flagUnit_43 m_worst_43 m_best_43 m_stack_43) H := hP
      have hD : va_D A (wM a cI cZ cJ 0 m_sets m_ways m_penalty m_blocks m_edges m_pairs m_lines m_isFresh_43 m_isAnswer_43 m_time m_touchMany m_touch m_line m_from m_to m_bound m_pairA m_pairB m_comeTo_43 m_greatest_43 m_least_43 m_nowGreatest_43 m_nowLeast_43 m_does_43 m_mostTime_43 m_leastTime_43 m_countUnit_43 m_flagUnit_43 m_worst_43 m_best_43 m_stack_43) := hD
      refine lv_aload_n hx hb dX4_touches_46 rfl (lv_at hl 0 rfl) ?_
      refine va_get (D := D) (ci := 4) (v := .ref (a 15)) (C := RX4) (T := TX4) (N := 32) hx hb hts hinX4 hown hK hP 0 rfl rfl 23 (by decide) (hts (.fieldLink RX4 53 "WorstPathsModel" "does" "[I") (by decide +kernel)) (fun _ h9 => h9) rfl dX4_touches_47 ?_
      refine lv_bipush (v := 6) hx hb dX4_touches_50 (by decide) ?_
      refine lv_iload_n hx hb dX4_touches_52 rfl (lv_at hl 1 rfl) ?_
      refine lv_imul hx hb dX4_touches_53 ?_
      refine lv_iload_n hx hb dX4_touches_54 rfl (lv_at hl 2 rfl) ?_
      refine lv_iadd hx hb dX4_touches_55 ?_
      obtain ⟨hq, h⟩ := h
      refine va_iald (D := D) hx hb hK hP 15 0 rfl rfl hq dX4_touches_56 ?_
      refine wz_mono hQz ?_
      exact W.iret (v := (m_does_43 (Int32.toNatClampNeg ((6 * v1) + v2)))) hx hb hr (fun t ht hW => ⟨⟨(m_does_43 (Int32.toNatClampNeg ((6 * v1) + v2))), (0, m_isFresh_43, m_isAnswer_43, m_comeTo_43, m_greatest_43, m_least_43, m_nowGreatest_43, m_nowLeast_43, m_does_43, m_mostTime_43, m_leastTime_43, m_countUnit_43, m_flagUnit_43, m_worst_43, m_best_43, m_stack_43), rfl, h, by rw [ht]; exact hP, va_K.moved hW.alike hK, hD⟩, hS.F ht⟩) hS.2.2 dX4_touches_57
    · replace h := h.2 hc
      refine lv_aload_n hx hb dX4_touches_35 rfl (lv_at hl 0 rfl) ?_
      refine lv_iconst (v := 1) hx hb dX4_touches_36 (by decide) ?_
      refine va_put (D := D) (ci := 4) (v := .int 1) (ty := .int) (C := RX4) (T := TX4) (N := 32) hx hb hts hinX4 tyX4 tyX4_ok nmX4 hown hK hP hD hS 0 rfl rfl 0 (by decide) (hts (.fieldLink RX4 94 "WorstPathsModel" "thrown" "I") (by decide +kernel)) (fun _ h9 => h9) rfl (by decide +kernel) rfl rfl (Nat.le_of_ble_eq_true rfl) dX4_touches_37 (fun H locs hP hD hS => ?_)
      have hP : va_P D vwCl (wM a cI cZ cJ 1 m_sets m_ways m_penalty m_blocks m_edges m_pairs m_lines m_isFresh m_isAnswer m_time m_touchMany m_touch m_line m_from m_to m_bound m_pairA m_pairB m_comeTo m_greatest m_least m_nowGreatest m_nowLeast m_does m_mostTime m_leastTime m_countUnit m_flagUnit m_worst m_best m_stack) H := hP
      have hD : va_D A (wM a cI cZ cJ 1 m_sets m_ways m_penalty m_blocks m_edges m_pairs m_lines m_isFresh m_isAnswer m_time m_touchMany m_touch m_line m_from m_to m_bound m_pairA m_pairB m_comeTo m_greatest m_least m_nowGreatest m_nowLeast m_does m_mostTime m_leastTime m_countUnit m_flagUnit m_worst m_best m_stack) := hD
      refine lv_iconst (v := 0) hx hb dX4_touches_40 (by decide) ?_
      refine wz_mono hQz ?_
      exact W.iret (v := 0) hx hb hr (fun t ht hW => ⟨⟨0, (1, m_isFresh, m_isAnswer, m_comeTo, m_greatest, m_least, m_nowGreatest, m_nowLeast, m_does, m_mostTime, m_leastTime, m_countUnit, m_flagUnit, m_worst, m_best, m_stack), rfl, h, by rw [ht]; exact hP, va_K.moved hW.alike hK, hD⟩, hS.F ht⟩) hS.2.2 dX4_touches_41
def wp_X4_age (v1 : Int32) (v2 : Int32) (v3 : Int32) (m_thrown : Int32) (m_sets : Int32) (m_ways : Int32) (m_penalty : Int32) (m_blocks : Int32) (m_edges : Int32) (m_pairs : Int32) (m_lines : Int32) (m_isFresh : Int32) (m_isAnswer : Int32) (m_time : Nat → Int32) (m_touchMany : Nat → Int32) (m_touch : Nat → Int32) (m_line : Nat → Int32) (m_from : Nat → Int32) (m_to : Nat → Int32) (m_bound : Nat → Int32) (m_pairA : Nat → Int32) (m_pairB : Nat → Int32) (m_comeTo : Nat → Int32) (m_greatest : Nat → Int32) (m_least : Nat → Int32) (m_nowGreatest : Nat → Int32) (m_nowLeast : Nat → Int32) (m_does : Nat → Int32) (m_mostTime : Nat → Int64) (m_leastTime : Nat → Int64) (m_countUnit : Nat → Int32) (m_flagUnit : Nat → Int32) (m_worst : Nat → Int64) (m_best : Nat → Int64) (m_stack : Nat → Int32) (Q : Int32 → Int32 → Int32 → Int32 → (Nat → Int32) → (Nat → Int32) → (Nat → Int32) → (Nat → Int32) → (Nat → Int32) → (Nat → Int32) → (Nat → Int64) → (Nat → Int64) → (Nat → Int32) → (Nat → Int32) → (Nat → Int64) → (Nat → Int64) → (Nat → Int32) → Prop) : Prop := wp_X4_within v1 0 (m_blocks - 1) (fun r_13 => (r_13 = 0 → Q 0 1 m_isFresh m_isAnswer m_comeTo m_greatest m_least m_nowGreatest m_nowLeast m_does m_mostTime m_leastTime m_countUnit m_flagUnit m_worst m_best m_stack) ∧ (¬ r_13 = 0 → wp_X4_within v3 0 1 (fun r_22 => (¬ r_22 = 0 → wp_X4_work m_sets m_ways m_penalty m_blocks m_edges m_pairs m_lines m_isFresh m_isAnswer m_time m_touchMany m_touch m_line m_from m_to m_bound m_pairA m_pairB m_comeTo m_greatest m_least m_nowGreatest m_nowLeast m_does m_mostTime m_leastTime m_countUnit m_flagUnit m_worst m_best m_stack (fun m_isFresh_36 m_isAnswer_36 m_comeTo_36 m_greatest_36 m_least_36 m_nowGreatest_36 m_nowLeast_36 m_does_36 m_mostTime_36 m_leastTime_36 m_countUnit_36 m_flagUnit_36 m_worst_36 m_best_36 m_stack_36 => wp_X4_find v2 m_lines m_line (fun r_41 => (r_41 < 0 → Q (-1) 0 m_isFresh_36 m_isAnswer_36 m_comeTo_36 m_greatest_36 m_least_36 m_nowGreatest_36 m_nowLeast_36 m_does_36 m_mostTime_36 m_leastTime_36 m_countUnit_36 m_flagUnit_36 m_worst_36 m_best_36 m_stack_36) ∧ (¬ r_41 < 0 → vp_in v1 40 ∧ ((¬ (m_comeTo_36 (Int32.toNatClampNeg v1)) = 0 → (¬ v3 = 0 → vp_in ((40 * v1) + r_41) 1600 ∧ (Q (m_least_36 (Int32.toNatClampNeg ((40 * v1) + r_41))) 0 m_isFresh_36 m_isAnswer_36 m_comeTo_36 m_greatest_36 m_least_36 m_nowGreatest_36 m_nowLeast_36 m_does_36 m_mostTime_36 m_leastTime_36 m_countUnit_36 m_flagUnit_36 m_worst_36 m_best_36 m_stack_36)) ∧ (v3 = 0 → vp_in ((40 * v1) + r_41) 1600 ∧ (Q (m_greatest_36 (Int32.toNatClampNeg ((40 * v1) + r_41))) 0 m_isFresh_36 m_isAnswer_36 m_comeTo_36 m_greatest_36 m_least_36 m_nowGreatest_36 m_nowLeast_36 m_does_36 m_mostTime_36 m_leastTime_36 m_countUnit_36 m_flagUnit_36 m_worst_36 m_best_36 m_stack_36))) ∧ ((m_comeTo_36 (Int32.toNatClampNeg v1)) = 0 → Q (-1) 0 m_isFresh_36 m_isAnswer_36 m_comeTo_36 m_greatest_36 m_least_36 m_nowGreatest_36 m_nowLeast_36 m_does_36 m_mostTime_36 m_leastTime_36 m_countUnit_36 m_flagUnit_36 m_worst_36 m_best_36 m_stack_36)))))) ∧ (r_22 = 0 → Q 0 1 m_isFresh m_isAnswer m_comeTo m_greatest m_least m_nowGreatest m_nowLeast m_does m_mostTime m_leastTime m_countUnit m_flagUnit m_worst m_best m_stack))))
abbrev rm_X4_age : Room := { frames := 5, cells := 0, slots := 0, locals := 117 }
set_option maxHeartbeats 4000000 in
set_option maxRecDepth 100000 in
theorem c_X4_age (l : Launch) (D : va_G) (a : Nat → Nat) (cI : ClassId) (cZ : ClassId) (cJ : ClassId) (sz : Nat) (m_thrown : Int32) (m_sets : Int32) (m_ways : Int32) (m_penalty : Int32) (m_blocks : Int32) (m_edges : Int32) (m_pairs : Int32) (m_lines : Int32) (m_isFresh : Int32) (m_isAnswer : Int32) (m_time : Nat → Int32) (m_touchMany : Nat → Int32) (m_touch : Nat → Int32) (m_line : Nat → Int32) (m_from : Nat → Int32) (m_to : Nat → Int32) (m_bound : Nat → Int32) (m_pairA : Nat → Int32) (m_pairB : Nat → Int32) (m_comeTo : Nat → Int32) (m_greatest : Nat → Int32) (m_least : Nat → Int32) (m_nowGreatest : Nat → Int32) (m_nowLeast : Nat → Int32) (m_does : Nat → Int32) (m_mostTime : Nat → Int64) (m_leastTime : Nat → Int64) (m_countUnit : Nat → Int32) (m_flagUnit : Nat → Int32) (m_worst : Nat → Int64) (m_best : Nat → Int64) (m_stack : Nat → Int32) (v1 : Int32) (v2 : Int32) (v3 : Int32) (Q : Int32 → Int32 → Int32 → Int32 → (Nat → Int32) → (Nat → Int32) → (Nat → Int32) → (Nat → Int32) → (Nat → Int32) → (Nat → Int32) → (Nat → Int64) → (Nat → Int64) → (Nat → Int32) → (Nat → Int32) → (Nat → Int64) → (Nat → Int64) → (Nat → Int32) → Prop) (h : wp_X4_age v1 v2 v3 m_thrown m_sets m_ways m_penalty m_blocks m_edges m_pairs m_lines m_isFresh m_isAnswer m_time m_touchMany m_touch m_line m_from m_to m_bound m_pairA m_pairB m_comeTo m_greatest m_least m_nowGreatest m_nowLeast m_does m_mostTime m_leastTime m_countUnit m_flagUnit m_worst m_best m_stack Q) : Met l yX4_age wsX4_age rm_X4_age (va_Pc [.ref (a 0), .int v1, .int v2, .int v3] (inW D cI cZ cJ sz (wM a cI cZ cJ m_thrown m_sets m_ways m_penalty m_blocks m_edges m_pairs m_lines m_isFresh m_isAnswer m_time m_touchMany m_touch m_line m_from m_to m_bound m_pairA m_pairB m_comeTo m_greatest m_least m_nowGreatest m_nowLeast m_does m_mostTime m_leastTime m_countUnit m_flagUnit m_worst m_best m_stack))) (va_Qi (fun (r : Int32) (u : Int32 × Int32 × Int32 × (Nat → Int32) × (Nat → Int32) × (Nat → Int32) × (Nat → Int32) × (Nat → Int32) × (Nat → Int32) × (Nat → Int64) × (Nat → Int64) × (Nat → Int32) × (Nat → Int32) × (Nat → Int64) × (Nat → Int64) × (Nat → Int32)) => Q r u.1 u.2.1 u.2.2.1 u.2.2.2.1 u.2.2.2.2.1 u.2.2.2.2.2.1 u.2.2.2.2.2.2.1 u.2.2.2.2.2.2.2.1 u.2.2.2.2.2.2.2.2.1 u.2.2.2.2.2.2.2.2.2.1 u.2.2.2.2.2.2.2.2.2.2.1 u.2.2.2.2.2.2.2.2.2.2.2.1 u.2.2.2.2.2.2.2.2.2.2.2.2.1 u.2.2.2.2.2.2.2.2.2.2.2.2.2.1 u.2.2.2.2.2.2.2.2.2.2.2.2.2.2.1 u.2.2.2.2.2.2.2.2.2.2.2.2.2.2.2) (fun (u : Int32 × Int32 × Int32 × (Nat → Int32) × (Nat → Int32) × (Nat → Int32) × (Nat → Int32) × (Nat → Int32) × (Nat → Int32) × (Nat → Int64) × (Nat → Int64) × (Nat → Int32) × (Nat → Int32) × (Nat → Int64) × (Nat → Int64) × (Nat → Int32)) => outW D cI cZ cJ (va_A (wM a cI cZ cJ m_thrown m_sets m_ways m_penalty m_blocks m_edges m_pairs m_lines m_isFresh m_isAnswer m_time m_touchMany m_touch m_line m_from m_to m_bound m_pairA m_pairB m_comeTo m_greatest m_least m_nowGreatest m_nowLeast m_does m_mostTime m_leastTime m_countUnit m_flagUnit m_worst m_best m_stack) sz) (wM a cI cZ cJ u.1 m_sets m_ways m_penalty m_blocks m_edges m_pairs m_lines u.2.1 u.2.2.1 m_time m_touchMany m_touch m_line m_from m_to m_bound m_pairA m_pairB u.2.2.2.1 u.2.2.2.2.1 u.2.2.2.2.2.1 u.2.2.2.2.2.2.1 u.2.2.2.2.2.2.2.1 u.2.2.2.2.2.2.2.2.1 u.2.2.2.2.2.2.2.2.2.1 u.2.2.2.2.2.2.2.2.2.2.1 u.2.2.2.2.2.2.2.2.2.2.2.1 u.2.2.2.2.2.2.2.2.2.2.2.2.1 u.2.2.2.2.2.2.2.2.2.2.2.2.2.1 u.2.2.2.2.2.2.2.2.2.2.2.2.2.2.1 u.2.2.2.2.2.2.2.2.2.2.2.2.2.2.2)) (va_A (wM a cI cZ cJ m_thrown m_sets m_ways m_penalty m_blocks m_edges m_pairs m_lines m_isFresh m_isAnswer m_time m_touchMany m_touch m_line m_from m_to m_bound m_pairA m_pairB m_comeTo m_greatest m_least m_nowGreatest m_nowLeast m_does m_mostTime m_leastTime m_countUnit m_flagUnit m_worst m_best m_stack) sz)) 0 0 (va_A (wM a cI cZ cJ m_thrown m_sets m_ways m_penalty m_blocks m_edges m_pairs m_lines m_isFresh m_isAnswer m_time m_touchMany m_touch m_line m_from m_to m_bound m_pairA m_pairB m_comeTo m_greatest m_least m_nowGreatest m_nowLeast m_does m_mostTime m_leastTime m_countUnit m_flagUnit m_worst m_best m_stack) sz) := by
  refine Met.ofW (cc := cX4_age) (maxL := 5) (ret := (some .int)) (by decide +kernel) rfl ?_
  intro p e s m args below meth c s₁ B hml hv
  obtain ⟨rfl, hsz, hP, hK, hD0⟩ := hv
  have hx := B.exec
  have hb := B.bytes
  have hr := B.returns
  have hts := atoms_spec (ws := wsX4_age) B.pre
  have hown : s.vm.findClass RX4 = some m.cls := findClass_of_methodNamed B.named
  have hlocks := B.notSynchronized
  have hinX4 : ∀ w ∈ wsX40, w ∈ wsX4_age := by decide +kernel
  subst hsz
  have hD := hD0.self (sz := s.heap.size)
  generalize hAe : va_A (wM a cI cZ cJ m_thrown m_sets m_ways m_penalty m_blocks m_edges m_pairs m_lines m_isFresh m_isAnswer m_time m_touchMany m_touch m_line m_from m_to m_bound m_pairA m_pairB m_comeTo m_greatest m_least m_nowGreatest m_nowLeast m_does m_mostTime m_leastTime m_countUnit m_flagUnit m_worst m_best m_stack) s.heap.size = A at hD ⊢
  have hA : ∀ q : Nat, s.heap.size ≤ q → A q := fun q h => by rw [← hAe]; exact Or.inr h
  have hS : va_S A s.heap s.heap [] := va_S.rf
  have hP : va_P D vwCl (wM a cI cZ cJ m_thrown m_sets m_ways m_penalty m_blocks m_edges m_pairs m_lines m_isFresh m_isAnswer m_time m_touchMany m_touch m_line m_from m_to m_bound m_pairA m_pairB m_comeTo m_greatest m_least m_nowGreatest m_nowLeast m_does m_mostTime m_leastTime m_countUnit m_flagUnit m_worst m_best m_stack) s.heap := hP
  have hl := lv_entry ([.ref (a 0), .int v1, .int v2, .int v3]) (n := 5) (Nat.le_of_ble_eq_true rfl)
  rw [lg_entry_eq]
  generalize (lg_sl ([.ref (a 0), .int v1, .int v2, .int v3]) ++ List.replicate (5 - (lg_sl ([.ref (a 0), .int v1, .int v2, .int v3])).length) Slot.unset).toArray = ls at hl ⊢
  have hl : lv_has ls 5 [(0, .ref (a 0)), (1, .int v1), (2, .int v2), (3, .int v3)] := hl
  refine wz_abs (fun Qz hQz => ?_)
  unfold wp_X4_age at h
  refine lv_aload_n hx hb dX4_age_0 rfl (lv_at hl 0 rfl) ?_
  refine lv_iconst (v := 0) hx hb dX4_age_1 (by decide) ?_
  refine va_put (D := D) (ci := 4) (v := .int 0) (ty := .int) (C := RX4) (T := TX4) (N := 32) hx hb hts hinX4 tyX4 tyX4_ok nmX4 hown hK hP hD hS 0 rfl rfl 0 (by decide) (hts (.fieldLink RX4 94 "WorstPathsModel" "thrown" "I") (by decide +kernel)) (fun _ h9 => h9) rfl (by decide +kernel) rfl rfl (Nat.le_of_ble_eq_true rfl) dX4_age_2 (fun H locs hP hD hS => ?_)
  have hP : va_P D vwCl (wM a cI cZ cJ 0 m_sets m_ways m_penalty m_blocks m_edges m_pairs m_lines m_isFresh m_isAnswer m_time m_touchMany m_touch m_line m_from m_to m_bound m_pairA m_pairB m_comeTo m_greatest m_least m_nowGreatest m_nowLeast m_does m_mostTime m_leastTime m_countUnit m_flagUnit m_worst m_best m_stack) H := hP
  have hD : va_D A (wM a cI cZ cJ 0 m_sets m_ways m_penalty m_blocks m_edges m_pairs m_lines m_isFresh m_isAnswer m_time m_touchMany m_touch m_line m_from m_to m_bound m_pairA m_pairB m_comeTo m_greatest m_least m_nowGreatest m_nowLeast m_does m_mostTime m_leastTime m_countUnit m_flagUnit m_worst m_best m_stack) := hD
  refine lv_iload_n hx hb dX4_age_5 rfl (lv_at hl 1 rfl) ?_
  refine lv_iconst (v := 0) hx hb dX4_age_6 (by decide) ?_
  refine lv_aload_n hx hb dX4_age_7 rfl (lv_at hl 0 rfl) ?_
  refine va_get (D := D) (ci := 4) (v := .int m_blocks) (C := RX4) (T := TX4) (N := 32) hx hb hts hinX4 hown hK hP 0 rfl rfl 4 (by decide) (hts (.fieldLink RX4 106 "WorstPathsModel" "blocks" "I") (by decide +kernel)) (fun _ h9 => h9) rfl dX4_age_8 ?_
  refine lv_iconst (v := 1) hx hb dX4_age_11 (by decide) ?_
  refine lv_isub hx hb dX4_age_12 ?_
  have hF := wz_free hD hS hA
  refine va_calli (va_runS (As := [.int v1, .int 0, .int (m_blocks - 1)]) (rest := []) ⟨hx, hb, hml, hown, hts⟩ (c_X4_within l D (wM a cI cZ cJ 0 m_sets m_ways m_penalty m_blocks m_edges m_pairs m_lines m_isFresh m_isAnswer m_time m_touchMany m_touch m_line m_from m_to m_bound m_pairA m_pairB m_comeTo m_greatest m_least m_nowGreatest m_nowLeast m_does m_mostTime m_leastTime m_countUnit m_flagUnit m_worst m_best m_stack) cI cZ cJ _ v1 0 (m_blocks - 1) _ h) (va_cwS 3 hts gX4_age_X4_within rfl rfl rfl (by decide +kernel) ⟨Nat.le_of_ble_eq_true rfl, Nat.le_of_ble_eq_true rfl⟩) ⟨wz_blind, fun U hU hW => wz_at hU hW hP hK hD⟩ rfl rfl hl.1 rfl (lv_room (Nat.le_of_ble_eq_true rfl)) dX4_age_13 ⟨Nat.zero_le _, Nat.zero_le _⟩) hS (fun q _ hq => hF q hq) hF (fun r_13 u t H locs ht hvm h hB hz1 hk1 hS => ?_)
  obtain ⟨hP, -, hD⟩ := wz_back ht hF hB
  have hP : va_P D vwCl (wM a cI cZ cJ 0 m_sets m_ways m_penalty m_blocks m_edges m_pairs m_lines m_isFresh m_isAnswer m_time m_touchMany m_touch m_line m_from m_to m_bound m_pairA m_pairB m_comeTo m_greatest m_least m_nowGreatest m_nowLeast m_does m_mostTime m_leastTime m_countUnit m_flagUnit m_worst m_best m_stack) H := hP
  have hD : va_D A (wM a cI cZ cJ 0 m_sets m_ways m_penalty m_blocks m_edges m_pairs m_lines m_isFresh m_isAnswer m_time m_touchMany m_touch m_line m_from m_to m_bound m_pairA m_pairB m_comeTo m_greatest m_least m_nowGreatest m_nowLeast m_does m_mostTime m_leastTime m_countUnit m_flagUnit m_worst m_best m_stack) := hD
  refine lv_if_eq (tgt := 28) hx hb dX4_age_16 (by decide) (fun hc => ?_) (fun hc => ?_)
  · replace h := h.1 hc
    refine lv_aload_n hx hb dX4_age_28 rfl (lv_at hl 0 rfl) ?_
    refine lv_iconst (v := 1) hx hb dX4_age_29 (by decide) ?_
    refine va_put (D := D) (ci := 4) (v := .int 1) (ty := .int) (C := RX4) (T := TX4) (N := 32) hx hb hts hinX4 tyX4 tyX4_ok nmX4 hown hK hP hD hS 0 rfl rfl 0 (by decide) (hts (.fieldLink RX4 94 "WorstPathsModel" "thrown" "I") (by decide +kernel)) (fun _ h9 => h9) rfl (by decide +kernel) rfl rfl (Nat.le_of_ble_eq_true rfl) dX4_age_30 (fun H locs hP hD hS => ?_)
    have hP : va_P D vwCl (wM a cI cZ cJ 1 m_sets m_ways m_penalty m_blocks m_edges m_pairs m_lines m_isFresh m_isAnswer m_time m_touchMany m_touch m_line m_from m_to m_bound m_pairA m_pairB m_comeTo m_greatest m_least m_nowGreatest m_nowLeast m_does m_mostTime m_leastTime m_countUnit m_flagUnit m_worst m_best m_stack) H := hP
    have hD : va_D A (wM a cI cZ cJ 1 m_sets m_ways m_penalty m_blocks m_edges m_pairs m_lines m_isFresh m_isAnswer m_time m_touchMany m_touch m_line m_from m_to m_bound m_pairA m_pairB m_comeTo m_greatest m_least m_nowGreatest m_nowLeast m_does m_mostTime m_leastTime m_countUnit m_flagUnit m_worst m_best m_stack) := hD
    refine lv_iconst (v := 0) hx hb dX4_age_33 (by decide) ?_
    refine wz_mono hQz ?_
    exact W.iret (v := 0) hx hb hr (fun t ht hW => ⟨⟨0, (1, m_isFresh, m_isAnswer, m_comeTo, m_greatest, m_least, m_nowGreatest, m_nowLeast, m_does, m_mostTime, m_leastTime, m_countUnit, m_flagUnit, m_worst, m_best, m_stack), rfl, h, by rw [ht]; exact hP, va_K.moved hW.alike hK, hD⟩, hS.F ht⟩) hS.2.2 dX4_age_34
  · replace h := h.2 hc
    refine lv_iload_n hx hb dX4_age_19 rfl (lv_at hl 3 rfl) ?_
    refine lv_iconst (v := 0) hx hb dX4_age_20 (by decide) ?_
    refine lv_iconst (v := 1) hx hb dX4_age_21 (by decide) ?_
    have hF := wz_free hD hS hA
    refine va_calli (va_runS (As := [.int v3, .int 0, .int 1]) (rest := []) ⟨hx, hb, hml, hown, hts⟩ (c_X4_within l D (wM a cI cZ cJ 0 m_sets m_ways m_penalty m_blocks m_edges m_pairs m_lines m_isFresh m_isAnswer m_time m_touchMany m_touch m_line m_from m_to m_bound m_pairA m_pairB m_comeTo m_greatest m_least m_nowGreatest m_nowLeast m_does m_mostTime m_leastTime m_countUnit m_flagUnit m_worst m_best m_stack) cI cZ cJ _ v3 0 1 _ h) (va_cwS 3 hts gX4_age_X4_within rfl rfl rfl (by decide +kernel) ⟨Nat.le_of_ble_eq_true rfl, Nat.le_of_ble_eq_true rfl⟩) ⟨wz_blind, fun U hU hW => wz_at hU hW hP hK hD⟩ rfl rfl hl.1 rfl (lv_room (Nat.le_of_ble_eq_true rfl)) dX4_age_22 ⟨Nat.zero_le _, Nat.zero_le _⟩) hS (fun q _ hq => hF q hq) hF (fun r_22 u t H locs ht hvm h hB hz1 hk1 hS => ?_)
    obtain ⟨hP, -, hD⟩ := wz_back ht hF hB
    have hP : va_P D vwCl (wM a cI cZ cJ 0 m_sets m_ways m_penalty m_blocks m_edges m_pairs m_lines m_isFresh m_isAnswer m_time m_touchMany m_touch m_line m_from m_to m_bound m_pairA m_pairB m_comeTo m_greatest m_least m_nowGreatest m_nowLeast m_does m_mostTime m_leastTime m_countUnit m_flagUnit m_worst m_best m_stack) H := hP
    have hD : va_D A (wM a cI cZ cJ 0 m_sets m_ways m_penalty m_blocks m_edges m_pairs m_lines m_isFresh m_isAnswer m_time m_touchMany m_touch m_line m_from m_to m_bound m_pairA m_pairB m_comeTo m_greatest m_least m_nowGreatest m_nowLeast m_does m_mostTime m_leastTime m_countUnit m_flagUnit m_worst m_best m_stack) := hD
    refine lv_if_ne (tgt := 35) hx hb dX4_age_25 (by decide) (fun hc => ?_) (fun hc => ?_)
    · replace h := h.1 hc
      refine lv_aload_n hx hb dX4_age_35 rfl (lv_at hl 0 rfl) ?_
      have hF := wz_free hD hS hA
      refine va_callv (va_runV (As := []) (rest := []) ⟨hx, hb, hml, hown, hts⟩ (c_X4_work l D a cI cZ cJ _ 0 m_sets m_ways m_penalty m_blocks m_edges m_pairs m_lines m_isFresh m_isAnswer m_time m_touchMany m_touch m_line m_from m_to m_bound m_pairA m_pairB m_comeTo m_greatest m_least m_nowGreatest m_nowLeast m_does m_mostTime m_leastTime m_countUnit m_flagUnit m_worst m_best m_stack _ h) (cwV 0 hts gX4_age_X4_work rfl rfl rfl (by decide +kernel) ⟨Nat.le_of_ble_eq_true rfl, Nat.le_of_ble_eq_true rfl⟩) ⟨wz_blind, va_recv hK hP (ci := 4) (q0 := 0) rfl rfl, fun U hU hW => wz_at hU hW hP hK hD⟩ rfl rfl hl.1 rfl (lv_room (Nat.le_of_ble_eq_true rfl)) dX4_age_36 ⟨Nat.zero_le _, Nat.zero_le _⟩) hS (fun q _ hq => hF q hq) hF (fun u t H locs ht hvm h hB hz1 hk1 hS => ?_)
      obtain ⟨m_isFresh_36, m_isAnswer_36, m_comeTo_36, m_greatest_36, m_least_36, m_nowGreatest_36, m_nowLeast_36, m_does_36, m_mostTime_36, m_leastTime_36, m_countUnit_36, m_flagUnit_36, m_worst_36, m_best_36, m_stack_36⟩ := u
      dsimp only at h hB
      obtain ⟨hP, -, hD⟩ := wz_back ht hF hB
      have hP : va_P D vwCl (wM a cI cZ cJ 0 m_sets m_ways m_penalty m_blocks m_edges m_pairs m_lines m_isFresh_36 m_isAnswer_36 m_time m_touchMany m_touch m_line m_from m_to m_bound m_pairA m_pairB m_comeTo_36 m_greatest_36 m_least_36 m_nowGreatest_36 m_nowLeast_36 m_does_36 m_mostTime_36 m_leastTime_36 m_countUnit_36 m_flagUnit_36 m_worst_36 m_best_36 m_stack_36) H := hP
      have hD : va_D A (wM a cI cZ cJ 0 m_sets m_ways m_penalty m_blocks m_edges m_pairs m_lines m_isFresh_36 m_isAnswer_36 m_time m_touchMany m_touch m_line m_from m_to m_bound m_pairA m_pairB m_comeTo_36 m_greatest_36 m_least_36 m_nowGreatest_36 m_nowLeast_36 m_does_36 m_mostTime_36 m_leastTime_36 m_countUnit_36 m_flagUnit_36 m_worst_36 m_best_36 m_stack_36) := hD
      refine lv_aload_n hx hb dX4_age_39 rfl (lv_at hl 0 rfl) ?_
      refine lv_iload_n hx hb dX4_age_40 rfl (lv_at hl 2 rfl) ?_
      have hF := wz_free hD hS hA
      refine va_calli (va_runV (As := [.int v2]) (rest := []) ⟨hx, hb, hml, hown, hts⟩ (c_X4_find l D a cI cZ cJ _ 0 m_sets m_ways m_penalty m_blocks m_edges m_pairs m_lines m_isFresh_36 m_isAnswer_36 m_time m_touchMany m_touch m_line m_from m_to m_bound m_pairA m_pairB m_comeTo_36 m_greatest_36 m_least_36 m_nowGreatest_36 m_nowLeast_36 m_does_36 m_mostTime_36 m_leastTime_36 m_countUnit_36 m_flagUnit_36 m_worst_36 m_best_36 m_stack_36 v2 _ h) (cwV 1 hts gX4_age_X4_find rfl rfl rfl (by decide +kernel) ⟨Nat.le_of_ble_eq_true rfl, Nat.le_of_ble_eq_true rfl⟩) ⟨wz_blind, va_recv hK hP (ci := 4) (q0 := 0) rfl rfl, fun U hU hW => wz_at hU hW hP hK hD⟩ rfl rfl hl.1 rfl (lv_room (Nat.le_of_ble_eq_true rfl)) dX4_age_41 ⟨Nat.zero_le _, Nat.zero_le _⟩) hS (fun q _ hq => hF q hq) hF (fun r_41 u t H locs ht hvm h hB hz1 hk1 hS => ?_)
      obtain ⟨hP, -, hD⟩ := wz_back ht hF hB
      have hP : va_P D vwCl (wM a cI cZ cJ 0 m_sets m_ways m_penalty m_blocks m_edges m_pairs m_lines m_isFresh_36 m_isAnswer_36 m_time m_touchMany m_touch m_line m_from m_to m_bound m_pairA m_pairB m_comeTo_36 m_greatest_36 m_least_36 m_nowGreatest_36 m_nowLeast_36 m_does_36 m_mostTime_36 m_leastTime_36 m_countUnit_36 m_flagUnit_36 m_worst_36 m_best_36 m_stack_36) H := hP
      have hD : va_D A (wM a cI cZ cJ 0 m_sets m_ways m_penalty m_blocks m_edges m_pairs m_lines m_isFresh_36 m_isAnswer_36 m_time m_touchMany m_touch m_line m_from m_to m_bound m_pairA m_pairB m_comeTo_36 m_greatest_36 m_least_36 m_nowGreatest_36 m_nowLeast_36 m_does_36 m_mostTime_36 m_leastTime_36 m_countUnit_36 m_flagUnit_36 m_worst_36 m_best_36 m_stack_36) := hD
      refine lv_istore (lv' := [(4, .int r_41), (0, .ref (a 0)), (1, .int v1), (2, .int v2), (3, .int v3)]) hx hb dX4_age_44 hl (by decide) rfl (fun ls hl => ?_)
      refine lv_iload hx hb dX4_age_46 (lv_at hl 0 rfl) ?_
      refine lv_if_lt (tgt := 60) hx hb dX4_age_48 (by decide) (fun hc => ?_) (fun hc => ?_)
      · replace h := h.1 hc
        refine lv_iconst (v := (-1)) hx hb dX4_age_60 (by decide) ?_
        refine wz_mono hQz ?_
        exact W.iret (v := (-1)) hx hb hr (fun t ht hW => ⟨⟨(-1), (0, m_isFresh_36, m_isAnswer_36, m_comeTo_36, m_greatest_36, m_least_36, m_nowGreatest_36, m_nowLeast_36, m_does_36, m_mostTime_36, m_leastTime_36, m_countUnit_36, m_flagUnit_36, m_worst_36, m_best_36, m_stack_36), rfl, h, by rw [ht]; exact hP, va_K.moved hW.alike hK, hD⟩, hS.F ht⟩) hS.2.2 dX4_age_61
      · replace h := h.2 hc
        refine lv_aload_n hx hb dX4_age_51 rfl (lv_at hl 1 rfl) ?_
        refine va_get (D := D) (ci := 4) (v := .ref (a 10)) (C := RX4) (T := TX4) (N := 32) hx hb hts hinX4 hown hK hP 0 rfl rfl 18 (by decide) (hts (.fieldLink RX4 37 "WorstPathsModel" "comeTo" "[Z") (by decide +kernel)) (fun _ h9 => h9) rfl dX4_age_52 ?_
        refine lv_iload_n hx hb dX4_age_55 rfl (lv_at hl 2 rfl) ?_
        obtain ⟨hq, h⟩ := h
        refine va_zald (D := D) hx hb hK hP 10 1 rfl rfl hq dX4_age_56 ?_
        refine lv_if_ne (tgt := 62) hx hb dX4_age_57 (by decide) (fun hc => ?_) (fun hc => ?_)
        · replace h := h.1 hc
          refine lv_iload_n hx hb dX4_age_62 rfl (lv_at hl 4 rfl) ?_
          refine lv_if_ne (tgt := 81) hx hb dX4_age_63 (by decide) (fun hc => ?_) (fun hc => ?_)
          · replace h := h.1 hc
            refine lv_aload_n hx hb dX4_age_81 rfl (lv_at hl 1 rfl) ?_
            refine va_get (D := D) (ci := 4) (v := .ref (a 12)) (C := RX4) (T := TX4) (N := 32) hx hb hts hinX4 hown hK hP 0 rfl rfl 20 (by decide) (hts (.fieldLink RX4 44 "WorstPathsModel" "least" "[I") (by decide +kernel)) (fun _ h9 => h9) rfl dX4_age_82 ?_
            refine lv_bipush (v := 40) hx hb dX4_age_85 (by decide) ?_
            refine lv_iload_n hx hb dX4_age_87 rfl (lv_at hl 2 rfl) ?_
            refine lv_imul hx hb dX4_age_88 ?_
            refine lv_iload hx hb dX4_age_89 (lv_at hl 0 rfl) ?_
            refine lv_iadd hx hb dX4_age_91 ?_
            obtain ⟨hq, h⟩ := h
            refine va_iald (D := D) hx hb hK hP 12 0 rfl rfl hq dX4_age_92 ?_
            refine wz_mono hQz ?_
            exact W.iret (v := (m_least_36 (Int32.toNatClampNeg ((40 * v1) + r_41)))) hx hb hr (fun t ht hW => ⟨⟨(m_least_36 (Int32.toNatClampNeg ((40 * v1) + r_41))), (0, m_isFresh_36, m_isAnswer_36, m_comeTo_36, m_greatest_36, m_least_36, m_nowGreatest_36, m_nowLeast_36, m_does_36, m_mostTime_36, m_leastTime_36, m_countUnit_36, m_flagUnit_36, m_worst_36, m_best_36, m_stack_36), rfl, h, by rw [ht]; exact hP, va_K.moved hW.alike hK, hD⟩, hS.F ht⟩) hS.2.2 dX4_age_93
          · replace h := h.2 hc
            refine lv_aload_n hx hb dX4_age_66 rfl (lv_at hl 1 rfl) ?_
            refine va_get (D := D) (ci := 4) (v := .ref (a 11)) (C := RX4) (T := TX4) (N := 32) hx hb hts hinX4 hown hK hP 0 rfl rfl 19 (by decide) (hts (.fieldLink RX4 41 "WorstPathsModel" "greatest" "[I") (by decide +kernel)) (fun _ h9 => h9) rfl dX4_age_67 ?_
            refine lv_bipush (v := 40) hx hb dX4_age_70 (by decide) ?_
            refine lv_iload_n hx hb dX4_age_72 rfl (lv_at hl 2 rfl) ?_
            refine lv_imul hx hb dX4_age_73 ?_
            refine lv_iload hx hb dX4_age_74 (lv_at hl 0 rfl) ?_
            refine lv_iadd hx hb dX4_age_76 ?_
            obtain ⟨hq, h⟩ := h
            refine va_iald (D := D) hx hb hK hP 11 0 rfl rfl hq dX4_age_77 ?_
            refine lv_goto (tgt := 93) hx hb dX4_age_78 (by decide) ?_
            refine wz_mono hQz ?_
            exact W.iret (v := (m_greatest_36 (Int32.toNatClampNeg ((40 * v1) + r_41)))) hx hb hr (fun t ht hW => ⟨⟨(m_greatest_36 (Int32.toNatClampNeg ((40 * v1) + r_41))), (0, m_isFresh_36, m_isAnswer_36, m_comeTo_36, m_greatest_36, m_least_36, m_nowGreatest_36, m_nowLeast_36, m_does_36, m_mostTime_36, m_leastTime_36, m_countUnit_36, m_flagUnit_36, m_worst_36, m_best_36, m_stack_36), rfl, h, by rw [ht]; exact hP, va_K.moved hW.alike hK, hD⟩, hS.F ht⟩) hS.2.2 dX4_age_93
        · replace h := h.2 hc
          refine lv_iconst (v := (-1)) hx hb dX4_age_60 (by decide) ?_
          refine wz_mono hQz ?_
          exact W.iret (v := (-1)) hx hb hr (fun t ht hW => ⟨⟨(-1), (0, m_isFresh_36, m_isAnswer_36, m_comeTo_36, m_greatest_36, m_least_36, m_nowGreatest_36, m_nowLeast_36, m_does_36, m_mostTime_36, m_leastTime_36, m_countUnit_36, m_flagUnit_36, m_worst_36, m_best_36, m_stack_36), rfl, h, by rw [ht]; exact hP, va_K.moved hW.alike hK, hD⟩, hS.F ht⟩) hS.2.2 dX4_age_61
    · replace h := h.2 hc
      refine lv_aload_n hx hb dX4_age_28 rfl (lv_at hl 0 rfl) ?_
      refine lv_iconst (v := 1) hx hb dX4_age_29 (by decide) ?_
      refine va_put (D := D) (ci := 4) (v := .int 1) (ty := .int) (C := RX4) (T := TX4) (N := 32) hx hb hts hinX4 tyX4 tyX4_ok nmX4 hown hK hP hD hS 0 rfl rfl 0 (by decide) (hts (.fieldLink RX4 94 "WorstPathsModel" "thrown" "I") (by decide +kernel)) (fun _ h9 => h9) rfl (by decide +kernel) rfl rfl (Nat.le_of_ble_eq_true rfl) dX4_age_30 (fun H locs hP hD hS => ?_)
      have hP : va_P D vwCl (wM a cI cZ cJ 1 m_sets m_ways m_penalty m_blocks m_edges m_pairs m_lines m_isFresh m_isAnswer m_time m_touchMany m_touch m_line m_from m_to m_bound m_pairA m_pairB m_comeTo m_greatest m_least m_nowGreatest m_nowLeast m_does m_mostTime m_leastTime m_countUnit m_flagUnit m_worst m_best m_stack) H := hP
      have hD : va_D A (wM a cI cZ cJ 1 m_sets m_ways m_penalty m_blocks m_edges m_pairs m_lines m_isFresh m_isAnswer m_time m_touchMany m_touch m_line m_from m_to m_bound m_pairA m_pairB m_comeTo m_greatest m_least m_nowGreatest m_nowLeast m_does m_mostTime m_leastTime m_countUnit m_flagUnit m_worst m_best m_stack) := hD
      refine lv_iconst (v := 0) hx hb dX4_age_33 (by decide) ?_
      refine wz_mono hQz ?_
      exact W.iret (v := 0) hx hb hr (fun t ht hW => ⟨⟨0, (1, m_isFresh, m_isAnswer, m_comeTo, m_greatest, m_least, m_nowGreatest, m_nowLeast, m_does, m_mostTime, m_leastTime, m_countUnit, m_flagUnit, m_worst, m_best, m_stack), rfl, h, by rw [ht]; exact hP, va_K.moved hW.alike hK, hD⟩, hS.F ht⟩) hS.2.2 dX4_age_34
def wp_X4_time (v1 : Int32) (v2 : Int32) (m_thrown : Int32) (m_sets : Int32) (m_ways : Int32) (m_penalty : Int32) (m_blocks : Int32) (m_edges : Int32) (m_pairs : Int32) (m_lines : Int32) (m_isFresh : Int32) (m_isAnswer : Int32) (m_time : Nat → Int32) (m_touchMany : Nat → Int32) (m_touch : Nat → Int32) (m_line : Nat → Int32) (m_from : Nat → Int32) (m_to : Nat → Int32) (m_bound : Nat → Int32) (m_pairA : Nat → Int32) (m_pairB : Nat → Int32) (m_comeTo : Nat → Int32) (m_greatest : Nat → Int32) (m_least : Nat → Int32) (m_nowGreatest : Nat → Int32) (m_nowLeast : Nat → Int32) (m_does : Nat → Int32) (m_mostTime : Nat → Int64) (m_leastTime : Nat → Int64) (m_countUnit : Nat → Int32) (m_flagUnit : Nat → Int32) (m_worst : Nat → Int64) (m_best : Nat → Int64) (m_stack : Nat → Int32) (Q : Int32 → Int32 → Int32 → Int32 → (Nat → Int32) → (Nat → Int32) → (Nat → Int32) → (Nat → Int32) → (Nat → Int32) → (Nat → Int32) → (Nat → Int64) → (Nat → Int64) → (Nat → Int32) → (Nat → Int32) → (Nat → Int64) → (Nat → Int64) → (Nat → Int32) → Prop) : Prop := wp_X4_within v1 0 (m_blocks - 1) (fun r_13 => (r_13 = 0 → Q 0 1 m_isFresh m_isAnswer m_comeTo m_greatest m_least m_nowGreatest m_nowLeast m_does m_mostTime m_leastTime m_countUnit m_flagUnit m_worst m_best m_stack) ∧ (¬ r_13 = 0 → wp_X4_within v2 0 1 (fun r_22 => (¬ r_22 = 0 → wp_X4_work m_sets m_ways m_penalty m_blocks m_edges m_pairs m_lines m_isFresh m_isAnswer m_time m_touchMany m_touch m_line m_from m_to m_bound m_pairA m_pairB m_comeTo m_greatest m_least m_nowGreatest m_nowLeast m_does m_mostTime m_leastTime m_countUnit m_flagUnit m_worst m_best m_stack (fun m_isFresh_36 m_isAnswer_36 m_comeTo_36 m_greatest_36 m_least_36 m_nowGreatest_36 m_nowLeast_36 m_does_36 m_mostTime_36 m_leastTime_36 m_countUnit_36 m_flagUnit_36 m_worst_36 m_best_36 m_stack_36 => (¬ v2 = 0 → vp_in v1 40 ∧ (Q (Int64.toInt32 (m_leastTime_36 (Int32.toNatClampNeg v1))) 0 m_isFresh_36 m_isAnswer_36 m_comeTo_36 m_greatest_36 m_least_36 m_nowGreatest_36 m_nowLeast_36 m_does_36 m_mostTime_36 m_leastTime_36 m_countUnit_36 m_flagUnit_36 m_worst_36 m_best_36 m_stack_36)) ∧ (v2 = 0 → vp_in v1 40 ∧ (Q (Int64.toInt32 (m_mostTime_36 (Int32.toNatClampNeg v1))) 0 m_isFresh_36 m_isAnswer_36 m_comeTo_36 m_greatest_36 m_least_36 m_nowGreatest_36 m_nowLeast_36 m_does_36 m_mostTime_36 m_leastTime_36 m_countUnit_36 m_flagUnit_36 m_worst_36 m_best_36 m_stack_36)))) ∧ (r_22 = 0 → Q 0 1 m_isFresh m_isAnswer m_comeTo m_greatest m_least m_nowGreatest m_nowLeast m_does m_mostTime m_leastTime m_countUnit m_flagUnit m_worst m_best m_stack))))
abbrev rm_X4_time : Room := { frames := 5, cells := 0, slots := 0, locals := 117 }
set_option maxHeartbeats 4000000 in
set_option maxRecDepth 100000 in
theorem c_X4_time (l : Launch) (D : va_G) (a : Nat → Nat) (cI : ClassId) (cZ : ClassId) (cJ : ClassId) (sz : Nat) (m_thrown : Int32) (m_sets : Int32) (m_ways : Int32) (m_penalty : Int32) (m_blocks : Int32) (m_edges : Int32) (m_pairs : Int32) (m_lines : Int32) (m_isFresh : Int32) (m_isAnswer : Int32) (m_time : Nat → Int32) (m_touchMany : Nat → Int32) (m_touch : Nat → Int32) (m_line : Nat → Int32) (m_from : Nat → Int32) (m_to : Nat → Int32) (m_bound : Nat → Int32) (m_pairA : Nat → Int32) (m_pairB : Nat → Int32) (m_comeTo : Nat → Int32) (m_greatest : Nat → Int32) (m_least : Nat → Int32) (m_nowGreatest : Nat → Int32) (m_nowLeast : Nat → Int32) (m_does : Nat → Int32) (m_mostTime : Nat → Int64) (m_leastTime : Nat → Int64) (m_countUnit : Nat → Int32) (m_flagUnit : Nat → Int32) (m_worst : Nat → Int64) (m_best : Nat → Int64) (m_stack : Nat → Int32) (v1 : Int32) (v2 : Int32) (Q : Int32 → Int32 → Int32 → Int32 → (Nat → Int32) → (Nat → Int32) → (Nat → Int32) → (Nat → Int32) → (Nat → Int32) → (Nat → Int32) → (Nat → Int64) → (Nat → Int64) → (Nat → Int32) → (Nat → Int32) → (Nat → Int64) → (Nat → Int64) → (Nat → Int32) → Prop) (h : wp_X4_time v1 v2 m_thrown m_sets m_ways m_penalty m_blocks m_edges m_pairs m_lines m_isFresh m_isAnswer m_time m_touchMany m_touch m_line m_from m_to m_bound m_pairA m_pairB m_comeTo m_greatest m_least m_nowGreatest m_nowLeast m_does m_mostTime m_leastTime m_countUnit m_flagUnit m_worst m_best m_stack Q) : Met l yX4_time wsX4_time rm_X4_time (va_Pc [.ref (a 0), .int v1, .int v2] (inW D cI cZ cJ sz (wM a cI cZ cJ m_thrown m_sets m_ways m_penalty m_blocks m_edges m_pairs m_lines m_isFresh m_isAnswer m_time m_touchMany m_touch m_line m_from m_to m_bound m_pairA m_pairB m_comeTo m_greatest m_least m_nowGreatest m_nowLeast m_does m_mostTime m_leastTime m_countUnit m_flagUnit m_worst m_best m_stack))) (va_Qi (fun (r : Int32) (u : Int32 × Int32 × Int32 × (Nat → Int32) × (Nat → Int32) × (Nat → Int32) × (Nat → Int32) × (Nat → Int32) × (Nat → Int32) × (Nat → Int64) × (Nat → Int64) × (Nat → Int32) × (Nat → Int32) × (Nat → Int64) × (Nat → Int64) × (Nat → Int32)) => Q r u.1 u.2.1 u.2.2.1 u.2.2.2.1 u.2.2.2.2.1 u.2.2.2.2.2.1 u.2.2.2.2.2.2.1 u.2.2.2.2.2.2.2.1 u.2.2.2.2.2.2.2.2.1 u.2.2.2.2.2.2.2.2.2.1 u.2.2.2.2.2.2.2.2.2.2.1 u.2.2.2.2.2.2.2.2.2.2.2.1 u.2.2.2.2.2.2.2.2.2.2.2.2.1 u.2.2.2.2.2.2.2.2.2.2.2.2.2.1 u.2.2.2.2.2.2.2.2.2.2.2.2.2.2.1 u.2.2.2.2.2.2.2.2.2.2.2.2.2.2.2) (fun (u : Int32 × Int32 × Int32 × (Nat → Int32) × (Nat → Int32) × (Nat → Int32) × (Nat → Int32) × (Nat → Int32) × (Nat → Int32) × (Nat → Int64) × (Nat → Int64) × (Nat → Int32) × (Nat → Int32) × (Nat → Int64) × (Nat → Int64) × (Nat → Int32)) => outW D cI cZ cJ (va_A (wM a cI cZ cJ m_thrown m_sets m_ways m_penalty m_blocks m_edges m_pairs m_lines m_isFresh m_isAnswer m_time m_touchMany m_touch m_line m_from m_to m_bound m_pairA m_pairB m_comeTo m_greatest m_least m_nowGreatest m_nowLeast m_does m_mostTime m_leastTime m_countUnit m_flagUnit m_worst m_best m_stack) sz) (wM a cI cZ cJ u.1 m_sets m_ways m_penalty m_blocks m_edges m_pairs m_lines u.2.1 u.2.2.1 m_time m_touchMany m_touch m_line m_from m_to m_bound m_pairA m_pairB u.2.2.2.1 u.2.2.2.2.1 u.2.2.2.2.2.1 u.2.2.2.2.2.2.1 u.2.2.2.2.2.2.2.1 u.2.2.2.2.2.2.2.2.1 u.2.2.2.2.2.2.2.2.2.1 u.2.2.2.2.2.2.2.2.2.2.1 u.2.2.2.2.2.2.2.2.2.2.2.1 u.2.2.2.2.2.2.2.2.2.2.2.2.1 u.2.2.2.2.2.2.2.2.2.2.2.2.2.1 u.2.2.2.2.2.2.2.2.2.2.2.2.2.2.1 u.2.2.2.2.2.2.2.2.2.2.2.2.2.2.2)) (va_A (wM a cI cZ cJ m_thrown m_sets m_ways m_penalty m_blocks m_edges m_pairs m_lines m_isFresh m_isAnswer m_time m_touchMany m_touch m_line m_from m_to m_bound m_pairA m_pairB m_comeTo m_greatest m_least m_nowGreatest m_nowLeast m_does m_mostTime m_leastTime m_countUnit m_flagUnit m_worst m_best m_stack) sz)) 0 0 (va_A (wM a cI cZ cJ m_thrown m_sets m_ways m_penalty m_blocks m_edges m_pairs m_lines m_isFresh m_isAnswer m_time m_touchMany m_touch m_line m_from m_to m_bound m_pairA m_pairB m_comeTo m_greatest m_least m_nowGreatest m_nowLeast m_does m_mostTime m_leastTime m_countUnit m_flagUnit m_worst m_best m_stack) sz) := by
  refine Met.ofW (cc := cX4_time) (maxL := 3) (ret := (some .int)) (by decide +kernel) rfl ?_
  intro p e s m args below meth c s₁ B hml hv
  obtain ⟨rfl, hsz, hP, hK, hD0⟩ := hv
  have hx := B.exec
  have hb := B.bytes
  have hr := B.returns
  have hts := atoms_spec (ws := wsX4_time) B.pre
  have hown : s.vm.findClass RX4 = some m.cls := findClass_of_methodNamed B.named
  have hlocks := B.notSynchronized
  have hinX4 : ∀ w ∈ wsX40, w ∈ wsX4_time := by decide +kernel
  subst hsz
  have hD := hD0.self (sz := s.heap.size)
  generalize hAe : va_A (wM a cI cZ cJ m_thrown m_sets m_ways m_penalty m_blocks m_edges m_pairs m_lines m_isFresh m_isAnswer m_time m_touchMany m_touch m_line m_from m_to m_bound m_pairA m_pairB m_comeTo m_greatest m_least m_nowGreatest m_nowLeast m_does m_mostTime m_leastTime m_countUnit m_flagUnit m_worst m_best m_stack) s.heap.size = A at hD ⊢
  have hA : ∀ q : Nat, s.heap.size ≤ q → A q := fun q h => by rw [← hAe]; exact Or.inr h
  have hS : va_S A s.heap s.heap [] := va_S.rf
  have hP : va_P D vwCl (wM a cI cZ cJ m_thrown m_sets m_ways m_penalty m_blocks m_edges m_pairs m_lines m_isFresh m_isAnswer m_time m_touchMany m_touch m_line m_from m_to m_bound m_pairA m_pairB m_comeTo m_greatest m_least m_nowGreatest m_nowLeast m_does m_mostTime m_leastTime m_countUnit m_flagUnit m_worst m_best m_stack) s.heap := hP
  have hl := lv_entry ([.ref (a 0), .int v1, .int v2]) (n := 3) (Nat.le_of_ble_eq_true rfl)
  rw [lg_entry_eq]
  generalize (lg_sl ([.ref (a 0), .int v1, .int v2]) ++ List.replicate (3 - (lg_sl ([.ref (a 0), .int v1, .int v2])).length) Slot.unset).toArray = ls at hl ⊢
  have hl : lv_has ls 3 [(0, .ref (a 0)), (1, .int v1), (2, .int v2)] := hl
  refine wz_abs (fun Qz hQz => ?_)
  unfold wp_X4_time at h
  refine lv_aload_n hx hb dX4_time_0 rfl (lv_at hl 0 rfl) ?_
  refine lv_iconst (v := 0) hx hb dX4_time_1 (by decide) ?_
  refine va_put (D := D) (ci := 4) (v := .int 0) (ty := .int) (C := RX4) (T := TX4) (N := 32) hx hb hts hinX4 tyX4 tyX4_ok nmX4 hown hK hP hD hS 0 rfl rfl 0 (by decide) (hts (.fieldLink RX4 94 "WorstPathsModel" "thrown" "I") (by decide +kernel)) (fun _ h9 => h9) rfl (by decide +kernel) rfl rfl (Nat.le_of_ble_eq_true rfl) dX4_time_2 (fun H locs hP hD hS => ?_)
  have hP : va_P D vwCl (wM a cI cZ cJ 0 m_sets m_ways m_penalty m_blocks m_edges m_pairs m_lines m_isFresh m_isAnswer m_time m_touchMany m_touch m_line m_from m_to m_bound m_pairA m_pairB m_comeTo m_greatest m_least m_nowGreatest m_nowLeast m_does m_mostTime m_leastTime m_countUnit m_flagUnit m_worst m_best m_stack) H := hP
  have hD : va_D A (wM a cI cZ cJ 0 m_sets m_ways m_penalty m_blocks m_edges m_pairs m_lines m_isFresh m_isAnswer m_time m_touchMany m_touch m_line m_from m_to m_bound m_pairA m_pairB m_comeTo m_greatest m_least m_nowGreatest m_nowLeast m_does m_mostTime m_leastTime m_countUnit m_flagUnit m_worst m_best m_stack) := hD
  refine lv_iload_n hx hb dX4_time_5 rfl (lv_at hl 1 rfl) ?_
  refine lv_iconst (v := 0) hx hb dX4_time_6 (by decide) ?_
  refine lv_aload_n hx hb dX4_time_7 rfl (lv_at hl 0 rfl) ?_
  refine va_get (D := D) (ci := 4) (v := .int m_blocks) (C := RX4) (T := TX4) (N := 32) hx hb hts hinX4 hown hK hP 0 rfl rfl 4 (by decide) (hts (.fieldLink RX4 106 "WorstPathsModel" "blocks" "I") (by decide +kernel)) (fun _ h9 => h9) rfl dX4_time_8 ?_
  refine lv_iconst (v := 1) hx hb dX4_time_11 (by decide) ?_
  refine lv_isub hx hb dX4_time_12 ?_
  have hF := wz_free hD hS hA
  refine va_calli (va_runS (As := [.int v1, .int 0, .int (m_blocks - 1)]) (rest := []) ⟨hx, hb, hml, hown, hts⟩ (c_X4_within l D (wM a cI cZ cJ 0 m_sets m_ways m_penalty m_blocks m_edges m_pairs m_lines m_isFresh m_isAnswer m_time m_touchMany m_touch m_line m_from m_to m_bound m_pairA m_pairB m_comeTo m_greatest m_least m_nowGreatest m_nowLeast m_does m_mostTime m_leastTime m_countUnit m_flagUnit m_worst m_best m_stack) cI cZ cJ _ v1 0 (m_blocks - 1) _ h) (va_cwS 3 hts gX4_time_X4_within rfl rfl rfl (by decide +kernel) ⟨Nat.le_of_ble_eq_true rfl, Nat.le_of_ble_eq_true rfl⟩) ⟨wz_blind, fun U hU hW => wz_at hU hW hP hK hD⟩ rfl rfl hl.1 rfl (lv_room (Nat.le_of_ble_eq_true rfl)) dX4_time_13 ⟨Nat.zero_le _, Nat.zero_le _⟩) hS (fun q _ hq => hF q hq) hF (fun r_13 u t H locs ht hvm h hB hz1 hk1 hS => ?_)
  obtain ⟨hP, -, hD⟩ := wz_back ht hF hB
  have hP : va_P D vwCl (wM a cI cZ cJ 0 m_sets m_ways m_penalty m_blocks m_edges m_pairs m_lines m_isFresh m_isAnswer m_time m_touchMany m_touch m_line m_from m_to m_bound m_pairA m_pairB m_comeTo m_greatest m_least m_nowGreatest m_nowLeast m_does m_mostTime m_leastTime m_countUnit m_flagUnit m_worst m_best m_stack) H := hP
  have hD : va_D A (wM a cI cZ cJ 0 m_sets m_ways m_penalty m_blocks m_edges m_pairs m_lines m_isFresh m_isAnswer m_time m_touchMany m_touch m_line m_from m_to m_bound m_pairA m_pairB m_comeTo m_greatest m_least m_nowGreatest m_nowLeast m_does m_mostTime m_leastTime m_countUnit m_flagUnit m_worst m_best m_stack) := hD
  refine lv_if_eq (tgt := 28) hx hb dX4_time_16 (by decide) (fun hc => ?_) (fun hc => ?_)
  · replace h := h.1 hc
    refine lv_aload_n hx hb dX4_time_28 rfl (lv_at hl 0 rfl) ?_
    refine lv_iconst (v := 1) hx hb dX4_time_29 (by decide) ?_
    refine va_put (D := D) (ci := 4) (v := .int 1) (ty := .int) (C := RX4) (T := TX4) (N := 32) hx hb hts hinX4 tyX4 tyX4_ok nmX4 hown hK hP hD hS 0 rfl rfl 0 (by decide) (hts (.fieldLink RX4 94 "WorstPathsModel" "thrown" "I") (by decide +kernel)) (fun _ h9 => h9) rfl (by decide +kernel) rfl rfl (Nat.le_of_ble_eq_true rfl) dX4_time_30 (fun H locs hP hD hS => ?_)
    have hP : va_P D vwCl (wM a cI cZ cJ 1 m_sets m_ways m_penalty m_blocks m_edges m_pairs m_lines m_isFresh m_isAnswer m_time m_touchMany m_touch m_line m_from m_to m_bound m_pairA m_pairB m_comeTo m_greatest m_least m_nowGreatest m_nowLeast m_does m_mostTime m_leastTime m_countUnit m_flagUnit m_worst m_best m_stack) H := hP
    have hD : va_D A (wM a cI cZ cJ 1 m_sets m_ways m_penalty m_blocks m_edges m_pairs m_lines m_isFresh m_isAnswer m_time m_touchMany m_touch m_line m_from m_to m_bound m_pairA m_pairB m_comeTo m_greatest m_least m_nowGreatest m_nowLeast m_does m_mostTime m_leastTime m_countUnit m_flagUnit m_worst m_best m_stack) := hD
    refine lv_iconst (v := 0) hx hb dX4_time_33 (by decide) ?_
    refine wz_mono hQz ?_
    exact W.iret (v := 0) hx hb hr (fun t ht hW => ⟨⟨0, (1, m_isFresh, m_isAnswer, m_comeTo, m_greatest, m_least, m_nowGreatest, m_nowLeast, m_does, m_mostTime, m_leastTime, m_countUnit, m_flagUnit, m_worst, m_best, m_stack), rfl, h, by rw [ht]; exact hP, va_K.moved hW.alike hK, hD⟩, hS.F ht⟩) hS.2.2 dX4_time_34
  · replace h := h.2 hc
    refine lv_iload_n hx hb dX4_time_19 rfl (lv_at hl 2 rfl) ?_
    refine lv_iconst (v := 0) hx hb dX4_time_20 (by decide) ?_
    refine lv_iconst (v := 1) hx hb dX4_time_21 (by decide) ?_
    have hF := wz_free hD hS hA
    refine va_calli (va_runS (As := [.int v2, .int 0, .int 1]) (rest := []) ⟨hx, hb, hml, hown, hts⟩ (c_X4_within l D (wM a cI cZ cJ 0 m_sets m_ways m_penalty m_blocks m_edges m_pairs m_lines m_isFresh m_isAnswer m_time m_touchMany m_touch m_line m_from m_to m_bound m_pairA m_pairB m_comeTo m_greatest m_least m_nowGreatest m_nowLeast m_does m_mostTime m_leastTime m_countUnit m_flagUnit m_worst m_best m_stack) cI cZ cJ _ v2 0 1 _ h) (va_cwS 3 hts gX4_time_X4_within rfl rfl rfl (by decide +kernel) ⟨Nat.le_of_ble_eq_true rfl, Nat.le_of_ble_eq_true rfl⟩) ⟨wz_blind, fun U hU hW => wz_at hU hW hP hK hD⟩ rfl rfl hl.1 rfl (lv_room (Nat.le_of_ble_eq_true rfl)) dX4_time_22 ⟨Nat.zero_le _, Nat.zero_le _⟩) hS (fun q _ hq => hF q hq) hF (fun r_22 u t H locs ht hvm h hB hz1 hk1 hS => ?_)
    obtain ⟨hP, -, hD⟩ := wz_back ht hF hB
    have hP : va_P D vwCl (wM a cI cZ cJ 0 m_sets m_ways m_penalty m_blocks m_edges m_pairs m_lines m_isFresh m_isAnswer m_time m_touchMany m_touch m_line m_from m_to m_bound m_pairA m_pairB m_comeTo m_greatest m_least m_nowGreatest m_nowLeast m_does m_mostTime m_leastTime m_countUnit m_flagUnit m_worst m_best m_stack) H := hP
    have hD : va_D A (wM a cI cZ cJ 0 m_sets m_ways m_penalty m_blocks m_edges m_pairs m_lines m_isFresh m_isAnswer m_time m_touchMany m_touch m_line m_from m_to m_bound m_pairA m_pairB m_comeTo m_greatest m_least m_nowGreatest m_nowLeast m_does m_mostTime m_leastTime m_countUnit m_flagUnit m_worst m_best m_stack) := hD
    refine lv_if_ne (tgt := 35) hx hb dX4_time_25 (by decide) (fun hc => ?_) (fun hc => ?_)
    · replace h := h.1 hc
      refine lv_aload_n hx hb dX4_time_35 rfl (lv_at hl 0 rfl) ?_
      have hF := wz_free hD hS hA
      refine va_callv (va_runV (As := []) (rest := []) ⟨hx, hb, hml, hown, hts⟩ (c_X4_work l D a cI cZ cJ _ 0 m_sets m_ways m_penalty m_blocks m_edges m_pairs m_lines m_isFresh m_isAnswer m_time m_touchMany m_touch m_line m_from m_to m_bound m_pairA m_pairB m_comeTo m_greatest m_least m_nowGreatest m_nowLeast m_does m_mostTime m_leastTime m_countUnit m_flagUnit m_worst m_best m_stack _ h) (cwV 0 hts gX4_time_X4_work rfl rfl rfl (by decide +kernel) ⟨Nat.le_of_ble_eq_true rfl, Nat.le_of_ble_eq_true rfl⟩) ⟨wz_blind, va_recv hK hP (ci := 4) (q0 := 0) rfl rfl, fun U hU hW => wz_at hU hW hP hK hD⟩ rfl rfl hl.1 rfl (lv_room (Nat.le_of_ble_eq_true rfl)) dX4_time_36 ⟨Nat.zero_le _, Nat.zero_le _⟩) hS (fun q _ hq => hF q hq) hF (fun u t H locs ht hvm h hB hz1 hk1 hS => ?_)
      obtain ⟨m_isFresh_36, m_isAnswer_36, m_comeTo_36, m_greatest_36, m_least_36, m_nowGreatest_36, m_nowLeast_36, m_does_36, m_mostTime_36, m_leastTime_36, m_countUnit_36, m_flagUnit_36, m_worst_36, m_best_36, m_stack_36⟩ := u
      dsimp only at h hB
      obtain ⟨hP, -, hD⟩ := wz_back ht hF hB
      have hP : va_P D vwCl (wM a cI cZ cJ 0 m_sets m_ways m_penalty m_blocks m_edges m_pairs m_lines m_isFresh_36 m_isAnswer_36 m_time m_touchMany m_touch m_line m_from m_to m_bound m_pairA m_pairB m_comeTo_36 m_greatest_36 m_least_36 m_nowGreatest_36 m_nowLeast_36 m_does_36 m_mostTime_36 m_leastTime_36 m_countUnit_36 m_flagUnit_36 m_worst_36 m_best_36 m_stack_36) H := hP
      have hD : va_D A (wM a cI cZ cJ 0 m_sets m_ways m_penalty m_blocks m_edges m_pairs m_lines m_isFresh_36 m_isAnswer_36 m_time m_touchMany m_touch m_line m_from m_to m_bound m_pairA m_pairB m_comeTo_36 m_greatest_36 m_least_36 m_nowGreatest_36 m_nowLeast_36 m_does_36 m_mostTime_36 m_leastTime_36 m_countUnit_36 m_flagUnit_36 m_worst_36 m_best_36 m_stack_36) := hD
      refine lv_iload_n hx hb dX4_time_39 rfl (lv_at hl 2 rfl) ?_
      refine lv_if_ne (tgt := 52) hx hb dX4_time_40 (by decide) (fun hc => ?_) (fun hc => ?_)
      · replace h := h.1 hc
        refine lv_aload_n hx hb dX4_time_52 rfl (lv_at hl 0 rfl) ?_
        refine va_get (D := D) (ci := 4) (v := .ref (a 17)) (C := RX4) (T := TX4) (N := 32) hx hb hts hinX4 hown hK hP 0 rfl rfl 25 (by decide) (hts (.fieldLink RX4 60 "WorstPathsModel" "leastTime" "[J") (by decide +kernel)) (fun _ h9 => h9) rfl dX4_time_53 ?_
        refine lv_iload_n hx hb dX4_time_56 rfl (lv_at hl 1 rfl) ?_
        obtain ⟨hq, h⟩ := h
        refine va_lald (D := D) hx hb hK hP 17 2 rfl rfl hq dX4_time_57 ?_
        refine lv_l2i hx hb dX4_time_58 rfl ?_
        refine wz_mono hQz ?_
        exact W.iret (v := (Int64.toInt32 (m_leastTime_36 (Int32.toNatClampNeg v1)))) hx hb hr (fun t ht hW => ⟨⟨(Int64.toInt32 (m_leastTime_36 (Int32.toNatClampNeg v1))), (0, m_isFresh_36, m_isAnswer_36, m_comeTo_36, m_greatest_36, m_least_36, m_nowGreatest_36, m_nowLeast_36, m_does_36, m_mostTime_36, m_leastTime_36, m_countUnit_36, m_flagUnit_36, m_worst_36, m_best_36, m_stack_36), rfl, h, by rw [ht]; exact hP, va_K.moved hW.alike hK, hD⟩, hS.F ht⟩) hS.2.2 dX4_time_59
      · replace h := h.2 hc
        refine lv_aload_n hx hb dX4_time_43 rfl (lv_at hl 0 rfl) ?_
        refine va_get (D := D) (ci := 4) (v := .ref (a 16)) (C := RX4) (T := TX4) (N := 32) hx hb hts hinX4 hown hK hP 0 rfl rfl 24 (by decide) (hts (.fieldLink RX4 56 "WorstPathsModel" "mostTime" "[J") (by decide +kernel)) (fun _ h9 => h9) rfl dX4_time_44 ?_
        refine lv_iload_n hx hb dX4_time_47 rfl (lv_at hl 1 rfl) ?_
        obtain ⟨hq, h⟩ := h
        refine va_lald (D := D) hx hb hK hP 16 2 rfl rfl hq dX4_time_48 ?_
        refine lv_goto (tgt := 58) hx hb dX4_time_49 (by decide) ?_
        refine lv_l2i hx hb dX4_time_58 rfl ?_
        refine wz_mono hQz ?_
        exact W.iret (v := (Int64.toInt32 (m_mostTime_36 (Int32.toNatClampNeg v1)))) hx hb hr (fun t ht hW => ⟨⟨(Int64.toInt32 (m_mostTime_36 (Int32.toNatClampNeg v1))), (0, m_isFresh_36, m_isAnswer_36, m_comeTo_36, m_greatest_36, m_least_36, m_nowGreatest_36, m_nowLeast_36, m_does_36, m_mostTime_36, m_leastTime_36, m_countUnit_36, m_flagUnit_36, m_worst_36, m_best_36, m_stack_36), rfl, h, by rw [ht]; exact hP, va_K.moved hW.alike hK, hD⟩, hS.F ht⟩) hS.2.2 dX4_time_59
    · replace h := h.2 hc
      refine lv_aload_n hx hb dX4_time_28 rfl (lv_at hl 0 rfl) ?_
      refine lv_iconst (v := 1) hx hb dX4_time_29 (by decide) ?_
      refine va_put (D := D) (ci := 4) (v := .int 1) (ty := .int) (C := RX4) (T := TX4) (N := 32) hx hb hts hinX4 tyX4 tyX4_ok nmX4 hown hK hP hD hS 0 rfl rfl 0 (by decide) (hts (.fieldLink RX4 94 "WorstPathsModel" "thrown" "I") (by decide +kernel)) (fun _ h9 => h9) rfl (by decide +kernel) rfl rfl (Nat.le_of_ble_eq_true rfl) dX4_time_30 (fun H locs hP hD hS => ?_)
      have hP : va_P D vwCl (wM a cI cZ cJ 1 m_sets m_ways m_penalty m_blocks m_edges m_pairs m_lines m_isFresh m_isAnswer m_time m_touchMany m_touch m_line m_from m_to m_bound m_pairA m_pairB m_comeTo m_greatest m_least m_nowGreatest m_nowLeast m_does m_mostTime m_leastTime m_countUnit m_flagUnit m_worst m_best m_stack) H := hP
      have hD : va_D A (wM a cI cZ cJ 1 m_sets m_ways m_penalty m_blocks m_edges m_pairs m_lines m_isFresh m_isAnswer m_time m_touchMany m_touch m_line m_from m_to m_bound m_pairA m_pairB m_comeTo m_greatest m_least m_nowGreatest m_nowLeast m_does m_mostTime m_leastTime m_countUnit m_flagUnit m_worst m_best m_stack) := hD
      refine lv_iconst (v := 0) hx hb dX4_time_33 (by decide) ?_
      refine wz_mono hQz ?_
      exact W.iret (v := 0) hx hb hr (fun t ht hW => ⟨⟨0, (1, m_isFresh, m_isAnswer, m_comeTo, m_greatest, m_least, m_nowGreatest, m_nowLeast, m_does, m_mostTime, m_leastTime, m_countUnit, m_flagUnit, m_worst, m_best, m_stack), rfl, h, by rw [ht]; exact hP, va_K.moved hW.alike hK, hD⟩, hS.F ht⟩) hS.2.2 dX4_time_34
def lp_X4_count_30 (m_thrown : Int32) (m_sets : Int32) (m_ways : Int32) (m_penalty : Int32) (m_blocks : Int32) (m_edges : Int32) (m_pairs : Int32) (m_lines : Int32) (m_isFresh : Int32) (m_isAnswer : Int32) (m_time : Nat → Int32) (m_touchMany : Nat → Int32) (m_touch : Nat → Int32) (m_line : Nat → Int32) (m_from : Nat → Int32) (m_to : Nat → Int32) (m_bound : Nat → Int32) (m_pairA : Nat → Int32) (m_pairB : Nat → Int32) (m_comeTo : Nat → Int32) (m_greatest : Nat → Int32) (m_least : Nat → Int32) (m_nowGreatest : Nat → Int32) (m_nowLeast : Nat → Int32) (m_does : Nat → Int32) (m_mostTime : Nat → Int64) (m_leastTime : Nat → Int64) (m_countUnit : Nat → Int32) (m_flagUnit : Nat → Int32) (m_worst : Nat → Int64) (m_best : Nat → Int64) (m_stack : Nat → Int32) (Q : Int32 → Int32 → Int32 → Int32 → (Nat → Int32) → (Nat → Int32) → (Nat → Int32) → (Nat → Int32) → (Nat → Int32) → (Nat → Int32) → (Nat → Int64) → (Nat → Int64) → (Nat → Int32) → (Nat → Int32) → (Nat → Int64) → (Nat → Int64) → (Nat → Int32) → Prop) : Nat → Int32 → Int32 → Prop
  | 0, _, _ => False
  | n + 1, v2, v3 => (m_blocks ≤ v3 → Q v2 m_thrown m_isFresh m_isAnswer m_comeTo m_greatest m_least m_nowGreatest m_nowLeast m_does m_mostTime m_leastTime m_countUnit m_flagUnit m_worst m_best m_stack) ∧ (¬ m_blocks ≤ v3 → vp_in v3 40 ∧ (((m_comeTo (Int32.toNatClampNeg v3)) = 0 → (lp_X4_count_30 m_thrown m_sets m_ways m_penalty m_blocks m_edges m_pairs m_lines m_isFresh m_isAnswer m_time m_touchMany m_touch m_line m_from m_to m_bound m_pairA m_pairB m_comeTo m_greatest m_least m_nowGreatest m_nowLeast m_does m_mostTime m_leastTime m_countUnit m_flagUnit m_worst m_best m_stack Q n) (v2 + 0) (v3 + 1)) ∧ (¬ (m_comeTo (Int32.toNatClampNeg v3)) = 0 → (lp_X4_count_30 m_thrown m_sets m_ways m_penalty m_blocks m_edges m_pairs m_lines m_isFresh m_isAnswer m_time m_touchMany m_touch m_line m_from m_to m_bound m_pairA m_pairB m_comeTo m_greatest m_least m_nowGreatest m_nowLeast m_does m_mostTime m_leastTime m_countUnit m_flagUnit m_worst m_best m_stack Q n) (v2 + 1) (v3 + 1))))
def wp_X4_count (v1 : Int32) (m_thrown : Int32) (m_sets : Int32) (m_ways : Int32) (m_penalty : Int32) (m_blocks : Int32) (m_edges : Int32) (m_pairs : Int32) (m_lines : Int32) (m_isFresh : Int32) (m_isAnswer : Int32) (m_time : Nat → Int32) (m_touchMany : Nat → Int32) (m_touch : Nat → Int32) (m_line : Nat → Int32) (m_from : Nat → Int32) (m_to : Nat → Int32) (m_bound : Nat → Int32) (m_pairA : Nat → Int32) (m_pairB : Nat → Int32) (m_comeTo : Nat → Int32) (m_greatest : Nat → Int32) (m_least : Nat → Int32) (m_nowGreatest : Nat → Int32) (m_nowLeast : Nat → Int32) (m_does : Nat → Int32) (m_mostTime : Nat → Int64) (m_leastTime : Nat → Int64) (m_countUnit : Nat → Int32) (m_flagUnit : Nat → Int32) (m_worst : Nat → Int64) (m_best : Nat → Int64) (m_stack : Nat → Int32) (Q : Int32 → Int32 → Int32 → Int32 → (Nat → Int32) → (Nat → Int32) → (Nat → Int32) → (Nat → Int32) → (Nat → Int32) → (Nat → Int32) → (Nat → Int64) → (Nat → Int64) → (Nat → Int32) → (Nat → Int32) → (Nat → Int64) → (Nat → Int64) → (Nat → Int32) → Prop) : Prop := wp_X4_within v1 0 7 (fun r_9 => (¬ r_9 = 0 → (¬ v1 = 4 → (¬ v1 = 0 → (¬ v1 = 1 → (¬ v1 = 2 → (¬ v1 = 3 → (¬ v1 = 5 → (¬ v1 = 6 → Q m_penalty 0 m_isFresh m_isAnswer m_comeTo m_greatest m_least m_nowGreatest m_nowLeast m_does m_mostTime m_leastTime m_countUnit m_flagUnit m_worst m_best m_stack) ∧ (v1 = 6 → Q m_ways 0 m_isFresh m_isAnswer m_comeTo m_greatest m_least m_nowGreatest m_nowLeast m_does m_mostTime m_leastTime m_countUnit m_flagUnit m_worst m_best m_stack)) ∧ (v1 = 5 → Q m_sets 0 m_isFresh m_isAnswer m_comeTo m_greatest m_least m_nowGreatest m_nowLeast m_does m_mostTime m_leastTime m_countUnit m_flagUnit m_worst m_best m_stack)) ∧ (v1 = 3 → Q m_lines 0 m_isFresh m_isAnswer m_comeTo m_greatest m_least m_nowGreatest m_nowLeast m_does m_mostTime m_leastTime m_countUnit m_flagUnit m_worst m_best m_stack)) ∧ (v1 = 2 → Q m_pairs 0 m_isFresh m_isAnswer m_comeTo m_greatest m_least m_nowGreatest m_nowLeast m_does m_mostTime m_leastTime m_countUnit m_flagUnit m_worst m_best m_stack)) ∧ (v1 = 1 → Q m_edges 0 m_isFresh m_isAnswer m_comeTo m_greatest m_least m_nowGreatest m_nowLeast m_does m_mostTime m_leastTime m_countUnit m_flagUnit m_worst m_best m_stack)) ∧ (v1 = 0 → Q m_blocks 0 m_isFresh m_isAnswer m_comeTo m_greatest m_least m_nowGreatest m_nowLeast m_does m_mostTime m_leastTime m_countUnit m_flagUnit m_worst m_best m_stack)) ∧ (v1 = 4 → wp_X4_work m_sets m_ways m_penalty m_blocks m_edges m_pairs m_lines m_isFresh m_isAnswer m_time m_touchMany m_touch m_line m_from m_to m_bound m_pairA m_pairB m_comeTo m_greatest m_least m_nowGreatest m_nowLeast m_does m_mostTime m_leastTime m_countUnit m_flagUnit m_worst m_best m_stack (fun m_isFresh_25 m_isAnswer_25 m_comeTo_25 m_greatest_25 m_least_25 m_nowGreatest_25 m_nowLeast_25 m_does_25 m_mostTime_25 m_leastTime_25 m_countUnit_25 m_flagUnit_25 m_worst_25 m_best_25 m_stack_25 => ∃ k30, lp_X4_count_30 0 m_sets m_ways m_penalty m_blocks m_edges m_pairs m_lines m_isFresh_25 m_isAnswer_25 m_time m_touchMany m_touch m_line m_from m_to m_bound m_pairA m_pairB m_comeTo_25 m_greatest_25 m_least_25 m_nowGreatest_25 m_nowLeast_25 m_does_25 m_mostTime_25 m_leastTime_25 m_countUnit_25 m_flagUnit_25 m_worst_25 m_best_25 m_stack_25 Q k30 0 0))) ∧ (r_9 = 0 → Q (-1) 0 m_isFresh m_isAnswer m_comeTo m_greatest m_least m_nowGreatest m_nowLeast m_does m_mostTime m_leastTime m_countUnit m_flagUnit m_worst m_best m_stack))
abbrev rm_X4_count : Room := { frames := 5, cells := 0, slots := 0, locals := 117 }
set_option maxHeartbeats 4000000 in
set_option maxRecDepth 100000 in
theorem c_X4_count (l : Launch) (D : va_G) (a : Nat → Nat) (cI : ClassId) (cZ : ClassId) (cJ : ClassId) (sz : Nat) (m_thrown : Int32) (m_sets : Int32) (m_ways : Int32) (m_penalty : Int32) (m_blocks : Int32) (m_edges : Int32) (m_pairs : Int32) (m_lines : Int32) (m_isFresh : Int32) (m_isAnswer : Int32) (m_time : Nat → Int32) (m_touchMany : Nat → Int32) (m_touch : Nat → Int32) (m_line : Nat → Int32) (m_from : Nat → Int32) (m_to : Nat → Int32) (m_bound : Nat → Int32) (m_pairA : Nat → Int32) (m_pairB : Nat → Int32) (m_comeTo : Nat → Int32) (m_greatest : Nat → Int32) (m_least : Nat → Int32) (m_nowGreatest : Nat → Int32) (m_nowLeast : Nat → Int32) (m_does : Nat → Int32) (m_mostTime : Nat → Int64) (m_leastTime : Nat → Int64) (m_countUnit : Nat → Int32) (m_flagUnit : Nat → Int32) (m_worst : Nat → Int64) (m_best : Nat → Int64) (m_stack : Nat → Int32) (v1 : Int32) (Q : Int32 → Int32 → Int32 → Int32 → (Nat → Int32) → (Nat → Int32) → (Nat → Int32) → (Nat → Int32) → (Nat → Int32) → (Nat → Int32) → (Nat → Int64) → (Nat → Int64) → (Nat → Int32) → (Nat → Int32) → (Nat → Int64) → (Nat → Int64) → (Nat → Int32) → Prop) (h : wp_X4_count v1 m_thrown m_sets m_ways m_penalty m_blocks m_edges m_pairs m_lines m_isFresh m_isAnswer m_time m_touchMany m_touch m_line m_from m_to m_bound m_pairA m_pairB m_comeTo m_greatest m_least m_nowGreatest m_nowLeast m_does m_mostTime m_leastTime m_countUnit m_flagUnit m_worst m_best m_stack Q) : Met l yX4_count wsX4_count rm_X4_count (va_Pc [.ref (a 0), .int v1] (inW D cI cZ cJ sz (wM a cI cZ cJ m_thrown m_sets m_ways m_penalty m_blocks m_edges m_pairs m_lines m_isFresh m_isAnswer m_time m_touchMany m_touch m_line m_from m_to m_bound m_pairA m_pairB m_comeTo m_greatest m_least m_nowGreatest m_nowLeast m_does m_mostTime m_leastTime m_countUnit m_flagUnit m_worst m_best m_stack))) (va_Qi (fun (r : Int32) (u : Int32 × Int32 × Int32 × (Nat → Int32) × (Nat → Int32) × (Nat → Int32) × (Nat → Int32) × (Nat → Int32) × (Nat → Int32) × (Nat → Int64) × (Nat → Int64) × (Nat → Int32) × (Nat → Int32) × (Nat → Int64) × (Nat → Int64) × (Nat → Int32)) => Q r u.1 u.2.1 u.2.2.1 u.2.2.2.1 u.2.2.2.2.1 u.2.2.2.2.2.1 u.2.2.2.2.2.2.1 u.2.2.2.2.2.2.2.1 u.2.2.2.2.2.2.2.2.1 u.2.2.2.2.2.2.2.2.2.1 u.2.2.2.2.2.2.2.2.2.2.1 u.2.2.2.2.2.2.2.2.2.2.2.1 u.2.2.2.2.2.2.2.2.2.2.2.2.1 u.2.2.2.2.2.2.2.2.2.2.2.2.2.1 u.2.2.2.2.2.2.2.2.2.2.2.2.2.2.1 u.2.2.2.2.2.2.2.2.2.2.2.2.2.2.2) (fun (u : Int32 × Int32 × Int32 × (Nat → Int32) × (Nat → Int32) × (Nat → Int32) × (Nat → Int32) × (Nat → Int32) × (Nat → Int32) × (Nat → Int64) × (Nat → Int64) × (Nat → Int32) × (Nat → Int32) × (Nat → Int64) × (Nat → Int64) × (Nat → Int32)) => outW D cI cZ cJ (va_A (wM a cI cZ cJ m_thrown m_sets m_ways m_penalty m_blocks m_edges m_pairs m_lines m_isFresh m_isAnswer m_time m_touchMany m_touch m_line m_from m_to m_bound m_pairA m_pairB m_comeTo m_greatest m_least m_nowGreatest m_nowLeast m_does m_mostTime m_leastTime m_countUnit m_flagUnit m_worst m_best m_stack) sz) (wM a cI cZ cJ u.1 m_sets m_ways m_penalty m_blocks m_edges m_pairs m_lines u.2.1 u.2.2.1 m_time m_touchMany m_touch m_line m_from m_to m_bound m_pairA m_pairB u.2.2.2.1 u.2.2.2.2.1 u.2.2.2.2.2.1 u.2.2.2.2.2.2.1 u.2.2.2.2.2.2.2.1 u.2.2.2.2.2.2.2.2.1 u.2.2.2.2.2.2.2.2.2.1 u.2.2.2.2.2.2.2.2.2.2.1 u.2.2.2.2.2.2.2.2.2.2.2.1 u.2.2.2.2.2.2.2.2.2.2.2.2.1 u.2.2.2.2.2.2.2.2.2.2.2.2.2.1 u.2.2.2.2.2.2.2.2.2.2.2.2.2.2.1 u.2.2.2.2.2.2.2.2.2.2.2.2.2.2.2)) (va_A (wM a cI cZ cJ m_thrown m_sets m_ways m_penalty m_blocks m_edges m_pairs m_lines m_isFresh m_isAnswer m_time m_touchMany m_touch m_line m_from m_to m_bound m_pairA m_pairB m_comeTo m_greatest m_least m_nowGreatest m_nowLeast m_does m_mostTime m_leastTime m_countUnit m_flagUnit m_worst m_best m_stack) sz)) 0 0 (va_A (wM a cI cZ cJ m_thrown m_sets m_ways m_penalty m_blocks m_edges m_pairs m_lines m_isFresh m_isAnswer m_time m_touchMany m_touch m_line m_from m_to m_bound m_pairA m_pairB m_comeTo m_greatest m_least m_nowGreatest m_nowLeast m_does m_mostTime m_leastTime m_countUnit m_flagUnit m_worst m_best m_stack) sz) := by
  refine Met.ofW (cc := cX4_count) (maxL := 4) (ret := (some .int)) (by decide +kernel) rfl ?_
  intro p e s m args below meth c s₁ B hml hv
  obtain ⟨rfl, hsz, hP, hK, hD0⟩ := hv
  have hx := B.exec
  have hb := B.bytes
  have hr := B.returns
  have hts := atoms_spec (ws := wsX4_count) B.pre
  have hown : s.vm.findClass RX4 = some m.cls := findClass_of_methodNamed B.named
  have hlocks := B.notSynchronized
  have hinX4 : ∀ w ∈ wsX40, w ∈ wsX4_count := by decide +kernel
  subst hsz
  have hD := hD0.self (sz := s.heap.size)
  generalize hAe : va_A (wM a cI cZ cJ m_thrown m_sets m_ways m_penalty m_blocks m_edges m_pairs m_lines m_isFresh m_isAnswer m_time m_touchMany m_touch m_line m_from m_to m_bound m_pairA m_pairB m_comeTo m_greatest m_least m_nowGreatest m_nowLeast m_does m_mostTime m_leastTime m_countUnit m_flagUnit m_worst m_best m_stack) s.heap.size = A at hD ⊢
  have hA : ∀ q : Nat, s.heap.size ≤ q → A q := fun q h => by rw [← hAe]; exact Or.inr h
  have hS : va_S A s.heap s.heap [] := va_S.rf
  have hP : va_P D vwCl (wM a cI cZ cJ m_thrown m_sets m_ways m_penalty m_blocks m_edges m_pairs m_lines m_isFresh m_isAnswer m_time m_touchMany m_touch m_line m_from m_to m_bound m_pairA m_pairB m_comeTo m_greatest m_least m_nowGreatest m_nowLeast m_does m_mostTime m_leastTime m_countUnit m_flagUnit m_worst m_best m_stack) s.heap := hP
  have hl := lv_entry ([.ref (a 0), .int v1]) (n := 4) (Nat.le_of_ble_eq_true rfl)
  rw [lg_entry_eq]
  generalize (lg_sl ([.ref (a 0), .int v1]) ++ List.replicate (4 - (lg_sl ([.ref (a 0), .int v1])).length) Slot.unset).toArray = ls at hl ⊢
  have hl : lv_has ls 4 [(0, .ref (a 0)), (1, .int v1)] := hl
  refine wz_abs (fun Qz hQz => ?_)
  unfold wp_X4_count at h
  refine lv_aload_n hx hb dX4_count_0 rfl (lv_at hl 0 rfl) ?_
  refine lv_iconst (v := 0) hx hb dX4_count_1 (by decide) ?_
  refine va_put (D := D) (ci := 4) (v := .int 0) (ty := .int) (C := RX4) (T := TX4) (N := 32) hx hb hts hinX4 tyX4 tyX4_ok nmX4 hown hK hP hD hS 0 rfl rfl 0 (by decide) (hts (.fieldLink RX4 94 "WorstPathsModel" "thrown" "I") (by decide +kernel)) (fun _ h9 => h9) rfl (by decide +kernel) rfl rfl (Nat.le_of_ble_eq_true rfl) dX4_count_2 (fun H locs hP hD hS => ?_)
  have hP : va_P D vwCl (wM a cI cZ cJ 0 m_sets m_ways m_penalty m_blocks m_edges m_pairs m_lines m_isFresh m_isAnswer m_time m_touchMany m_touch m_line m_from m_to m_bound m_pairA m_pairB m_comeTo m_greatest m_least m_nowGreatest m_nowLeast m_does m_mostTime m_leastTime m_countUnit m_flagUnit m_worst m_best m_stack) H := hP
  have hD : va_D A (wM a cI cZ cJ 0 m_sets m_ways m_penalty m_blocks m_edges m_pairs m_lines m_isFresh m_isAnswer m_time m_touchMany m_touch m_line m_from m_to m_bound m_pairA m_pairB m_comeTo m_greatest m_least m_nowGreatest m_nowLeast m_does m_mostTime m_leastTime m_countUnit m_flagUnit m_worst m_best m_stack) := hD
  refine lv_iload_n hx hb dX4_count_5 rfl (lv_at hl 1 rfl) ?_
  refine lv_iconst (v := 0) hx hb dX4_count_6 (by decide) ?_
  refine lv_bipush (v := 7) hx hb dX4_count_7 (by decide) ?_
  have hF := wz_free hD hS hA
  refine va_calli (va_runS (As := [.int v1, .int 0, .int 7]) (rest := []) ⟨hx, hb, hml, hown, hts⟩ (c_X4_within l D (wM a cI cZ cJ 0 m_sets m_ways m_penalty m_blocks m_edges m_pairs m_lines m_isFresh m_isAnswer m_time m_touchMany m_touch m_line m_from m_to m_bound m_pairA m_pairB m_comeTo m_greatest m_least m_nowGreatest m_nowLeast m_does m_mostTime m_leastTime m_countUnit m_flagUnit m_worst m_best m_stack) cI cZ cJ _ v1 0 7 _ h) (va_cwS 3 hts gX4_count_X4_within rfl rfl rfl (by decide +kernel) ⟨Nat.le_of_ble_eq_true rfl, Nat.le_of_ble_eq_true rfl⟩) ⟨wz_blind, fun U hU hW => wz_at hU hW hP hK hD⟩ rfl rfl hl.1 rfl (lv_room (Nat.le_of_ble_eq_true rfl)) dX4_count_9 ⟨Nat.zero_le _, Nat.zero_le _⟩) hS (fun q _ hq => hF q hq) hF (fun r_9 u t H locs ht hvm h hB hz1 hk1 hS => ?_)
  obtain ⟨hP, -, hD⟩ := wz_back ht hF hB
  have hP : va_P D vwCl (wM a cI cZ cJ 0 m_sets m_ways m_penalty m_blocks m_edges m_pairs m_lines m_isFresh m_isAnswer m_time m_touchMany m_touch m_line m_from m_to m_bound m_pairA m_pairB m_comeTo m_greatest m_least m_nowGreatest m_nowLeast m_does m_mostTime m_leastTime m_countUnit m_flagUnit m_worst m_best m_stack) H := hP
  have hD : va_D A (wM a cI cZ cJ 0 m_sets m_ways m_penalty m_blocks m_edges m_pairs m_lines m_isFresh m_isAnswer m_time m_touchMany m_touch m_line m_from m_to m_bound m_pairA m_pairB m_comeTo m_greatest m_least m_nowGreatest m_nowLeast m_does m_mostTime m_leastTime m_countUnit m_flagUnit m_worst m_best m_stack) := hD
  refine lv_if_ne (tgt := 17) hx hb dX4_count_12 (by decide) (fun hc => ?_) (fun hc => ?_)
  · replace h := h.1 hc
    refine lv_iconst (v := 0) hx hb dX4_count_17 (by decide) ?_
    refine lv_istore_n (lv' := [(2, .int 0), (0, .ref (a 0)), (1, .int v1)]) hx hb dX4_count_18 rfl hl (by decide) rfl (fun ls hl => ?_)
    refine lv_iload_n hx hb dX4_count_19 rfl (lv_at hl 2 rfl) ?_
    refine lv_iconst (v := 4) hx hb dX4_count_20 (by decide) ?_
    refine lv_icmp_ne (tgt := 63) hx hb dX4_count_21 (by decide) (fun hc => ?_) (fun hc => ?_)
    · replace h := h.1 hc
      refine lv_iload_n hx hb dX4_count_63 rfl (lv_at hl 2 rfl) ?_
      refine lv_if_ne (tgt := 74) hx hb dX4_count_64 (by decide) (fun hc => ?_) (fun hc => ?_)
      · replace h := h.1 hc
        refine lv_iload_n hx hb dX4_count_74 rfl (lv_at hl 2 rfl) ?_
        refine lv_iconst (v := 1) hx hb dX4_count_75 (by decide) ?_
        refine lv_icmp_ne (tgt := 86) hx hb dX4_count_76 (by decide) (fun hc => ?_) (fun hc => ?_)
        · replace h := h.1 hc
          refine lv_iload_n hx hb dX4_count_86 rfl (lv_at hl 2 rfl) ?_
          refine lv_iconst (v := 2) hx hb dX4_count_87 (by decide) ?_
          refine lv_icmp_ne (tgt := 98) hx hb dX4_count_88 (by decide) (fun hc => ?_) (fun hc => ?_)
          · replace h := h.1 hc
            refine lv_iload_n hx hb dX4_count_98 rfl (lv_at hl 2 rfl) ?_
            refine lv_iconst (v := 3) hx hb dX4_count_99 (by decide) ?_
            refine lv_icmp_ne (tgt := 110) hx hb dX4_count_100 (by decide) (fun hc => ?_) (fun hc => ?_)
            · replace h := h.1 hc
              refine lv_iload_n hx hb dX4_count_110 rfl (lv_at hl 2 rfl) ?_
              refine lv_iconst (v := 5) hx hb dX4_count_111 (by decide) ?_
              refine lv_icmp_ne (tgt := 122) hx hb dX4_count_112 (by decide) (fun hc => ?_) (fun hc => ?_)
              · replace h := h.1 hc
                refine lv_iload_n hx hb dX4_count_122 rfl (lv_at hl 2 rfl) ?_
                refine lv_bipush (v := 6) hx hb dX4_count_123 (by decide) ?_
                refine lv_icmp_ne (tgt := 135) hx hb dX4_count_125 (by decide) (fun hc => ?_) (fun hc => ?_)
                · replace h := h.1 hc
                  refine lv_aload_n hx hb dX4_count_135 rfl (lv_at hl 1 rfl) ?_
                  refine va_get (D := D) (ci := 4) (v := .int m_penalty) (C := RX4) (T := TX4) (N := 32) hx hb hts hinX4 hown hK hP 0 rfl rfl 3 (by decide) (hts (.fieldLink RX4 91 "WorstPathsModel" "penalty" "I") (by decide +kernel)) (fun _ h9 => h9) rfl dX4_count_136 ?_
                  refine wz_mono hQz ?_
                  exact W.iret (v := m_penalty) hx hb hr (fun t ht hW => ⟨⟨m_penalty, (0, m_isFresh, m_isAnswer, m_comeTo, m_greatest, m_least, m_nowGreatest, m_nowLeast, m_does, m_mostTime, m_leastTime, m_countUnit, m_flagUnit, m_worst, m_best, m_stack), rfl, h, by rw [ht]; exact hP, va_K.moved hW.alike hK, hD⟩, hS.F ht⟩) hS.2.2 dX4_count_139
                · replace h := h.2 hc
                  refine lv_aload_n hx hb dX4_count_128 rfl (lv_at hl 1 rfl) ?_
                  refine va_get (D := D) (ci := 4) (v := .int m_ways) (C := RX4) (T := TX4) (N := 32) hx hb hts hinX4 hown hK hP 0 rfl rfl 2 (by decide) (hts (.fieldLink RX4 88 "WorstPathsModel" "ways" "I") (by decide +kernel)) (fun _ h9 => h9) rfl dX4_count_129 ?_
                  refine lv_goto (tgt := 139) hx hb dX4_count_132 (by decide) ?_
                  refine wz_mono hQz ?_
                  exact W.iret (v := m_ways) hx hb hr (fun t ht hW => ⟨⟨m_ways, (0, m_isFresh, m_isAnswer, m_comeTo, m_greatest, m_least, m_nowGreatest, m_nowLeast, m_does, m_mostTime, m_leastTime, m_countUnit, m_flagUnit, m_worst, m_best, m_stack), rfl, h, by rw [ht]; exact hP, va_K.moved hW.alike hK, hD⟩, hS.F ht⟩) hS.2.2 dX4_count_139
              · replace h := h.2 hc
                refine lv_aload_n hx hb dX4_count_115 rfl (lv_at hl 1 rfl) ?_
                refine va_get (D := D) (ci := 4) (v := .int m_sets) (C := RX4) (T := TX4) (N := 32) hx hb hts hinX4 hown hK hP 0 rfl rfl 1 (by decide) (hts (.fieldLink RX4 84 "WorstPathsModel" "sets" "I") (by decide +kernel)) (fun _ h9 => h9) rfl dX4_count_116 ?_
                refine lv_goto (tgt := 139) hx hb dX4_count_119 (by decide) ?_
                refine wz_mono hQz ?_
                exact W.iret (v := m_sets) hx hb hr (fun t ht hW => ⟨⟨m_sets, (0, m_isFresh, m_isAnswer, m_comeTo, m_greatest, m_least, m_nowGreatest, m_nowLeast, m_does, m_mostTime, m_leastTime, m_countUnit, m_flagUnit, m_worst, m_best, m_stack), rfl, h, by rw [ht]; exact hP, va_K.moved hW.alike hK, hD⟩, hS.F ht⟩) hS.2.2 dX4_count_139
            · replace h := h.2 hc
              refine lv_aload_n hx hb dX4_count_103 rfl (lv_at hl 1 rfl) ?_
              refine va_get (D := D) (ci := 4) (v := .int m_lines) (C := RX4) (T := TX4) (N := 32) hx hb hts hinX4 hown hK hP 0 rfl rfl 7 (by decide) (hts (.fieldLink RX4 113 "WorstPathsModel" "lines" "I") (by decide +kernel)) (fun _ h9 => h9) rfl dX4_count_104 ?_
              refine lv_goto (tgt := 139) hx hb dX4_count_107 (by decide) ?_
              refine wz_mono hQz ?_
              exact W.iret (v := m_lines) hx hb hr (fun t ht hW => ⟨⟨m_lines, (0, m_isFresh, m_isAnswer, m_comeTo, m_greatest, m_least, m_nowGreatest, m_nowLeast, m_does, m_mostTime, m_leastTime, m_countUnit, m_flagUnit, m_worst, m_best, m_stack), rfl, h, by rw [ht]; exact hP, va_K.moved hW.alike hK, hD⟩, hS.F ht⟩) hS.2.2 dX4_count_139
          · replace h := h.2 hc
            refine lv_aload_n hx hb dX4_count_91 rfl (lv_at hl 1 rfl) ?_
            refine va_get (D := D) (ci := 4) (v := .int m_pairs) (C := RX4) (T := TX4) (N := 32) hx hb hts hinX4 hown hK hP 0 rfl rfl 6 (by decide) (hts (.fieldLink RX4 122 "WorstPathsModel" "pairs" "I") (by decide +kernel)) (fun _ h9 => h9) rfl dX4_count_92 ?_
            refine lv_goto (tgt := 139) hx hb dX4_count_95 (by decide) ?_
            refine wz_mono hQz ?_
            exact W.iret (v := m_pairs) hx hb hr (fun t ht hW => ⟨⟨m_pairs, (0, m_isFresh, m_isAnswer, m_comeTo, m_greatest, m_least, m_nowGreatest, m_nowLeast, m_does, m_mostTime, m_leastTime, m_countUnit, m_flagUnit, m_worst, m_best, m_stack), rfl, h, by rw [ht]; exact hP, va_K.moved hW.alike hK, hD⟩, hS.F ht⟩) hS.2.2 dX4_count_139
        · replace h := h.2 hc
          refine lv_aload_n hx hb dX4_count_79 rfl (lv_at hl 1 rfl) ?_
          refine va_get (D := D) (ci := 4) (v := .int m_edges) (C := RX4) (T := TX4) (N := 32) hx hb hts hinX4 hown hK hP 0 rfl rfl 5 (by decide) (hts (.fieldLink RX4 119 "WorstPathsModel" "edges" "I") (by decide +kernel)) (fun _ h9 => h9) rfl dX4_count_80 ?_
          refine lv_goto (tgt := 139) hx hb dX4_count_83 (by decide) ?_
          refine wz_mono hQz ?_
          exact W.iret (v := m_edges) hx hb hr (fun t ht hW => ⟨⟨m_edges, (0, m_isFresh, m_isAnswer, m_comeTo, m_greatest, m_least, m_nowGreatest, m_nowLeast, m_does, m_mostTime, m_leastTime, m_countUnit, m_flagUnit, m_worst, m_best, m_stack), rfl, h, by rw [ht]; exact hP, va_K.moved hW.alike hK, hD⟩, hS.F ht⟩) hS.2.2 dX4_count_139
      · replace h := h.2 hc
        refine lv_aload_n hx hb dX4_count_67 rfl (lv_at hl 1 rfl) ?_
        refine va_get (D := D) (ci := 4) (v := .int m_blocks) (C := RX4) (T := TX4) (N := 32) hx hb hts hinX4 hown hK hP 0 rfl rfl 4 (by decide) (hts (.fieldLink RX4 106 "WorstPathsModel" "blocks" "I") (by decide +kernel)) (fun _ h9 => h9) rfl dX4_count_68 ?_
        refine lv_goto (tgt := 139) hx hb dX4_count_71 (by decide) ?_
        refine wz_mono hQz ?_
        exact W.iret (v := m_blocks) hx hb hr (fun t ht hW => ⟨⟨m_blocks, (0, m_isFresh, m_isAnswer, m_comeTo, m_greatest, m_least, m_nowGreatest, m_nowLeast, m_does, m_mostTime, m_leastTime, m_countUnit, m_flagUnit, m_worst, m_best, m_stack), rfl, h, by rw [ht]; exact hP, va_K.moved hW.alike hK, hD⟩, hS.F ht⟩) hS.2.2 dX4_count_139
    · replace h := h.2 hc
      refine lv_aload_n hx hb dX4_count_24 rfl (lv_at hl 1 rfl) ?_
      have hF := wz_free hD hS hA
      refine va_callv (va_runV (As := []) (rest := []) ⟨hx, hb, hml, hown, hts⟩ (c_X4_work l D a cI cZ cJ _ 0 m_sets m_ways m_penalty m_blocks m_edges m_pairs m_lines m_isFresh m_isAnswer m_time m_touchMany m_touch m_line m_from m_to m_bound m_pairA m_pairB m_comeTo m_greatest m_least m_nowGreatest m_nowLeast m_does m_mostTime m_leastTime m_countUnit m_flagUnit m_worst m_best m_stack _ h) (cwV 0 hts gX4_count_X4_work rfl rfl rfl (by decide +kernel) ⟨Nat.le_of_ble_eq_true rfl, Nat.le_of_ble_eq_true rfl⟩) ⟨wz_blind, va_recv hK hP (ci := 4) (q0 := 0) rfl rfl, fun U hU hW => wz_at hU hW hP hK hD⟩ rfl rfl hl.1 rfl (lv_room (Nat.le_of_ble_eq_true rfl)) dX4_count_25 ⟨Nat.zero_le _, Nat.zero_le _⟩) hS (fun q _ hq => hF q hq) hF (fun u t H locs ht hvm h hB hz1 hk1 hS => ?_)
      obtain ⟨m_isFresh_25, m_isAnswer_25, m_comeTo_25, m_greatest_25, m_least_25, m_nowGreatest_25, m_nowLeast_25, m_does_25, m_mostTime_25, m_leastTime_25, m_countUnit_25, m_flagUnit_25, m_worst_25, m_best_25, m_stack_25⟩ := u
      dsimp only at h hB
      obtain ⟨hP, -, hD⟩ := wz_back ht hF hB
      have hP : va_P D vwCl (wM a cI cZ cJ 0 m_sets m_ways m_penalty m_blocks m_edges m_pairs m_lines m_isFresh_25 m_isAnswer_25 m_time m_touchMany m_touch m_line m_from m_to m_bound m_pairA m_pairB m_comeTo_25 m_greatest_25 m_least_25 m_nowGreatest_25 m_nowLeast_25 m_does_25 m_mostTime_25 m_leastTime_25 m_countUnit_25 m_flagUnit_25 m_worst_25 m_best_25 m_stack_25) H := hP
      have hD : va_D A (wM a cI cZ cJ 0 m_sets m_ways m_penalty m_blocks m_edges m_pairs m_lines m_isFresh_25 m_isAnswer_25 m_time m_touchMany m_touch m_line m_from m_to m_bound m_pairA m_pairB m_comeTo_25 m_greatest_25 m_least_25 m_nowGreatest_25 m_nowLeast_25 m_does_25 m_mostTime_25 m_leastTime_25 m_countUnit_25 m_flagUnit_25 m_worst_25 m_best_25 m_stack_25) := hD
      refine lv_iconst (v := 0) hx hb dX4_count_28 (by decide) ?_
      refine lv_istore_n (lv' := [(3, .int 0), (2, .int 0), (0, .ref (a 0)), (1, .int v1)]) hx hb dX4_count_29 rfl hl (by decide) rfl (fun ls hl => ?_)
      have LP30 : ∀ (n30 : Nat) (v2_30 : Int32) (v3_30 : Int32), lp_X4_count_30 0 m_sets m_ways m_penalty m_blocks m_edges m_pairs m_lines m_isFresh_25 m_isAnswer_25 m_time m_touchMany m_touch m_line m_from m_to m_bound m_pairA m_pairB m_comeTo_25 m_greatest_25 m_least_25 m_nowGreatest_25 m_nowLeast_25 m_does_25 m_mostTime_25 m_leastTime_25 m_countUnit_25 m_flagUnit_25 m_worst_25 m_best_25 m_stack_25 Q n30 v2_30 v3_30 → ∀ (H : Heap) (locs : List Loc), va_P D vwCl (wM a cI cZ cJ 0 m_sets m_ways m_penalty m_blocks m_edges m_pairs m_lines m_isFresh_25 m_isAnswer_25 m_time m_touchMany m_touch m_line m_from m_to m_bound m_pairA m_pairB m_comeTo_25 m_greatest_25 m_least_25 m_nowGreatest_25 m_nowLeast_25 m_does_25 m_mostTime_25 m_leastTime_25 m_countUnit_25 m_flagUnit_25 m_worst_25 m_best_25 m_stack_25) H → va_D A (wM a cI cZ cJ 0 m_sets m_ways m_penalty m_blocks m_edges m_pairs m_lines m_isFresh_25 m_isAnswer_25 m_time m_touchMany m_touch m_line m_from m_to m_bound m_pairA m_pairB m_comeTo_25 m_greatest_25 m_least_25 m_nowGreatest_25 m_nowLeast_25 m_does_25 m_mostTime_25 m_leastTime_25 m_countUnit_25 m_flagUnit_25 m_worst_25 m_best_25 m_stack_25) → va_S A s.heap H locs → ∀ (ls : Array Slot), lv_has ls 4 [(0, .ref (a 0)), (2, .int v2_30), (3, .int v3_30)] → W p l e (headSpec wsX4_count rm_X4_count).room s m ([Value.ref (a 0), Value.int v1] : List Value).toArray below meth c H locs 0 0 Qz (F0 m 30 ls []) := by
        intro n30
        induction n30 with
        | zero => intro v2_30 v3_30 h; exact h.elim
        | succ n30 ih30 =>
          intro v2_30 v3_30 h H locs hP hD hS ls hl
          unfold lp_X4_count_30 at h
          refine lv_iload_n hx hb dX4_count_30 rfl (lv_at hl 2 rfl) ?_
          refine lv_aload_n hx hb dX4_count_31 rfl (lv_at hl 0 rfl) ?_
          refine va_get (D := D) (ci := 4) (v := .int m_blocks) (C := RX4) (T := TX4) (N := 32) hx hb hts hinX4 hown hK hP 0 rfl rfl 4 (by decide) (hts (.fieldLink RX4 106 "WorstPathsModel" "blocks" "I") (by decide +kernel)) (fun _ h9 => h9) rfl dX4_count_32 ?_
          refine lv_icmp_ge (tgt := 61) hx hb dX4_count_35 (by decide) (fun hc => ?_) (fun hc => ?_)
          · replace h := h.1 hc
            refine lv_iload_n hx hb dX4_count_61 rfl (lv_at hl 1 rfl) ?_
            refine wz_mono hQz ?_
            exact W.iret (v := v2_30) hx hb hr (fun t ht hW => ⟨⟨v2_30, (0, m_isFresh_25, m_isAnswer_25, m_comeTo_25, m_greatest_25, m_least_25, m_nowGreatest_25, m_nowLeast_25, m_does_25, m_mostTime_25, m_leastTime_25, m_countUnit_25, m_flagUnit_25, m_worst_25, m_best_25, m_stack_25), rfl, h, by rw [ht]; exact hP, va_K.moved hW.alike hK, hD⟩, hS.F ht⟩) hS.2.2 dX4_count_62
          · replace h := h.2 hc
            refine lv_iload_n hx hb dX4_count_38 rfl (lv_at hl 1 rfl) ?_
            refine lv_aload_n hx hb dX4_count_39 rfl (lv_at hl 0 rfl) ?_
            refine va_get (D := D) (ci := 4) (v := .ref (a 10)) (C := RX4) (T := TX4) (N := 32) hx hb hts hinX4 hown hK hP 0 rfl rfl 18 (by decide) (hts (.fieldLink RX4 37 "WorstPathsModel" "comeTo" "[Z") (by decide +kernel)) (fun _ h9 => h9) rfl dX4_count_40 ?_
            refine lv_iload_n hx hb dX4_count_43 rfl (lv_at hl 2 rfl) ?_
            obtain ⟨hq, h⟩ := h
            refine va_zald (D := D) hx hb hK hP 10 1 rfl rfl hq dX4_count_44 ?_
            refine lv_if_eq (tgt := 52) hx hb dX4_count_45 (by decide) (fun hc => ?_) (fun hc => ?_)
            · replace h := h.1 hc
              refine lv_iconst (v := 0) hx hb dX4_count_52 (by decide) ?_
              refine lv_iadd hx hb dX4_count_53 ?_
              refine lv_istore_n (lv' := [(2, .int (v2_30 + 0)), (0, .ref (a 0)), (3, .int v3_30)]) hx hb dX4_count_54 rfl hl (by decide) rfl (fun ls hl => ?_)
              refine lv_iinc (v := (v3_30 + 1)) (lv' := [(3, .int (v3_30 + 1)), (2, .int (v2_30 + 0)), (0, .ref (a 0))]) hx hb dX4_count_55 hl (k := 2) rfl rfl (by decide) rfl (fun ls hl => ?_)
              refine lv_goto (tgt := 30) hx hb dX4_count_58 (by decide) ?_
              exact ih30 (v2_30 + 0) (v3_30 + 1) h _ _ hP hD hS _ (lv_sub hl [2, 1, 0] rfl)
            · replace h := h.2 hc
              refine lv_iconst (v := 1) hx hb dX4_count_48 (by decide) ?_
              refine lv_goto (tgt := 53) hx hb dX4_count_49 (by decide) ?_
              refine lv_iadd hx hb dX4_count_53 ?_
              refine lv_istore_n (lv' := [(2, .int (v2_30 + 1)), (0, .ref (a 0)), (3, .int v3_30)]) hx hb dX4_count_54 rfl hl (by decide) rfl (fun ls hl => ?_)
              refine lv_iinc (v := (v3_30 + 1)) (lv' := [(3, .int (v3_30 + 1)), (2, .int (v2_30 + 1)), (0, .ref (a 0))]) hx hb dX4_count_55 hl (k := 2) rfl rfl (by decide) rfl (fun ls hl => ?_)
              refine lv_goto (tgt := 30) hx hb dX4_count_58 (by decide) ?_
              exact ih30 (v2_30 + 1) (v3_30 + 1) h _ _ hP hD hS _ (lv_sub hl [2, 1, 0] rfl)
      obtain ⟨k9, h⟩ := h
      exact LP30 k9 0 0 h _ _ hP hD hS _ (lv_sub hl [2, 1, 0] rfl)
  · replace h := h.2 hc
    refine lv_iconst (v := (-1)) hx hb dX4_count_15 (by decide) ?_
    refine wz_mono hQz ?_
    exact W.iret (v := (-1)) hx hb hr (fun t ht hW => ⟨⟨(-1), (0, m_isFresh, m_isAnswer, m_comeTo, m_greatest, m_least, m_nowGreatest, m_nowLeast, m_does, m_mostTime, m_leastTime, m_countUnit, m_flagUnit, m_worst, m_best, m_stack), rfl, h, by rw [ht]; exact hP, va_K.moved hW.alike hK, hD⟩, hS.F ht⟩) hS.2.2 dX4_count_16
