def lp_X4_isRound_157 (m_blocks : Int32) (m_edges : Int32) (m_from : Nat → Int32) (m_to : Nat → Int32) (m_bound : Nat → Int32) (m_comeTo : Nat → Int32) (m_stack : Nat → Int32) (Q : Int32 → (Nat → Int32) → Prop) : Nat → Int32 → Int32 → Prop
  | 0, _, _ => False
  | n + 1, v2, v3 => (m_blocks ≤ v3 → (narrow .boolean (.int v2) = .int v2) ∧ Q v2 m_stack) ∧ (¬ m_blocks ≤ v3 → (¬ v2 = 0 → (lp_X4_isRound_157 m_blocks m_edges m_from m_to m_bound m_comeTo m_stack Q n) 1 (v3 + 1)) ∧ (v2 = 0 → vp_in v3 40001 ∧ ((¬ (m_stack (Int32.toNatClampNeg v3)) = 1 → (lp_X4_isRound_157 m_blocks m_edges m_from m_to m_bound m_comeTo m_stack Q n) 0 (v3 + 1)) ∧ ((m_stack (Int32.toNatClampNeg v3)) = 1 → (lp_X4_isRound_157 m_blocks m_edges m_from m_to m_bound m_comeTo m_stack Q n) 1 (v3 + 1)))))
def lp_X4_isRound_59 (v1 : Int32) (v2 : Int32) (m_blocks : Int32) (m_edges : Int32) (m_from : Nat → Int32) (m_to : Nat → Int32) (m_bound : Nat → Int32) (m_comeTo : Nat → Int32) (m_stack : Nat → Int32) (K38 : Int32 → (Nat → Int32) → Prop) (K46 : Int32 → Int32 → (Nat → Int32) → Prop) (Q : Int32 → (Nat → Int32) → Prop) : Nat → Int32 → Int32 → Prop
  | 0, _, _ => False
  | n + 1, v3, v4 => (m_edges ≤ v4 → vp_in v2 40001 ∧ ((¬ (m_stack (Int32.toNatClampNeg v2)) = 1 → K46 v1 (v2 + 1) m_stack) ∧ ((m_stack (Int32.toNatClampNeg v2)) = 1 → (¬ v3 = 0 → K46 v1 (v2 + 1) m_stack) ∧ (v3 = 0 → vp_in v2 40001 ∧ (K46 1 (v2 + 1) (upd m_stack (Int32.toNatClampNeg v2) 0)))))) ∧ (¬ m_edges ≤ v4 → (¬ v3 = 0 → (lp_X4_isRound_59 v1 v2 m_blocks m_edges m_from m_to m_bound m_comeTo m_stack K38 K46 Q n) 1 (v4 + 1)) ∧ (v3 = 0 → vp_in v4 80 ∧ ((¬ (m_from (Int32.toNatClampNeg v4)) = v2 → (lp_X4_isRound_59 v1 v2 m_blocks m_edges m_from m_to m_bound m_comeTo m_stack K38 K46 Q n) 0 (v4 + 1)) ∧ ((m_from (Int32.toNatClampNeg v4)) = v2 → vp_in v4 80 ∧ ((0 ≤ (m_bound (Int32.toNatClampNeg v4)) → (lp_X4_isRound_59 v1 v2 m_blocks m_edges m_from m_to m_bound m_comeTo m_stack K38 K46 Q n) 0 (v4 + 1)) ∧ (¬ 0 ≤ (m_bound (Int32.toNatClampNeg v4)) → vp_in v4 80 ∧ (vp_in (m_to (Int32.toNatClampNeg v4)) 40001 ∧ ((¬ (m_stack (Int32.toNatClampNeg (m_to (Int32.toNatClampNeg v4)))) = 1 → (lp_X4_isRound_59 v1 v2 m_blocks m_edges m_from m_to m_bound m_comeTo m_stack K38 K46 Q n) 0 (v4 + 1)) ∧ ((m_stack (Int32.toNatClampNeg (m_to (Int32.toNatClampNeg v4)))) = 1 → (lp_X4_isRound_59 v1 v2 m_blocks m_edges m_from m_to m_bound m_comeTo m_stack K38 K46 Q n) 1 (v4 + 1))))))))))
def lp_X4_isRound_46 (m_blocks : Int32) (m_edges : Int32) (m_from : Nat → Int32) (m_to : Nat → Int32) (m_bound : Nat → Int32) (m_comeTo : Nat → Int32) (K38 : Int32 → (Nat → Int32) → Prop) (Q : Int32 → (Nat → Int32) → Prop) : Nat → Int32 → Int32 → (Nat → Int32) → Prop
  | 0, _, _, _ => False
  | n + 1, v1, v2, m_stack => (m_blocks ≤ v2 → K38 v1 m_stack) ∧ (¬ m_blocks ≤ v2 → ∃ k59, lp_X4_isRound_59 v1 v2 m_blocks m_edges m_from m_to m_bound m_comeTo m_stack K38 (lp_X4_isRound_46 m_blocks m_edges m_from m_to m_bound m_comeTo K38 Q n) Q k59 0 0)
def lp_X4_isRound_38 (m_blocks : Int32) (m_edges : Int32) (m_from : Nat → Int32) (m_to : Nat → Int32) (m_bound : Nat → Int32) (m_comeTo : Nat → Int32) (Q : Int32 → (Nat → Int32) → Prop) : Nat → Int32 → (Nat → Int32) → Prop
  | 0, _, _ => False
  | n + 1, v1, m_stack => (v1 = 0 → ∃ k157, lp_X4_isRound_157 m_blocks m_edges m_from m_to m_bound m_comeTo m_stack Q k157 0 0) ∧ (¬ v1 = 0 → ∃ k46, lp_X4_isRound_46 m_blocks m_edges m_from m_to m_bound m_comeTo (lp_X4_isRound_38 m_blocks m_edges m_from m_to m_bound m_comeTo Q n) Q k46 0 0 m_stack)
def lp_X4_isRound_2 (m_blocks : Int32) (m_edges : Int32) (m_from : Nat → Int32) (m_to : Nat → Int32) (m_bound : Nat → Int32) (m_comeTo : Nat → Int32) (Q : Int32 → (Nat → Int32) → Prop) : Nat → Int32 → (Nat → Int32) → Prop
  | 0, _, _ => False
  | n + 1, v1, m_stack => (m_blocks ≤ v1 → ∃ k38, lp_X4_isRound_38 m_blocks m_edges m_from m_to m_bound m_comeTo Q k38 1 m_stack) ∧ (¬ m_blocks ≤ v1 → vp_in v1 40 ∧ (((m_comeTo (Int32.toNatClampNeg v1)) = 0 → vp_in v1 40001 ∧ ((lp_X4_isRound_2 m_blocks m_edges m_from m_to m_bound m_comeTo Q n) (v1 + 1) (upd m_stack (Int32.toNatClampNeg v1) 0))) ∧ (¬ (m_comeTo (Int32.toNatClampNeg v1)) = 0 → vp_in v1 40001 ∧ ((lp_X4_isRound_2 m_blocks m_edges m_from m_to m_bound m_comeTo Q n) (v1 + 1) (upd m_stack (Int32.toNatClampNeg v1) 1)))))
def wp_X4_isRound (m_blocks : Int32) (m_edges : Int32) (m_from : Nat → Int32) (m_to : Nat → Int32) (m_bound : Nat → Int32) (m_comeTo : Nat → Int32) (m_stack : Nat → Int32) (Q : Int32 → (Nat → Int32) → Prop) : Prop := ∃ k2, lp_X4_isRound_2 m_blocks m_edges m_from m_to m_bound m_comeTo Q k2 0 m_stack
abbrev rm_X4_isRound : Room := { frames := 0, cells := 0, slots := 0, locals := 0 }
set_option maxHeartbeats 4000000 in
set_option maxRecDepth 100000 in
theorem c_X4_isRound (l : Launch) (D : va_G) (a : Nat → Nat) (cI : ClassId) (cZ : ClassId) (cJ : ClassId) (sz : Nat) (m_thrown : Int32) (m_sets : Int32) (m_ways : Int32) (m_penalty : Int32) (m_blocks : Int32) (m_edges : Int32) (m_pairs : Int32) (m_lines : Int32) (m_isFresh : Int32) (m_isAnswer : Int32) (m_time : Nat → Int32) (m_touchMany : Nat → Int32) (m_touch : Nat → Int32) (m_line : Nat → Int32) (m_from : Nat → Int32) (m_to : Nat → Int32) (m_bound : Nat → Int32) (m_pairA : Nat → Int32) (m_pairB : Nat → Int32) (m_comeTo : Nat → Int32) (m_greatest : Nat → Int32) (m_least : Nat → Int32) (m_nowGreatest : Nat → Int32) (m_nowLeast : Nat → Int32) (m_does : Nat → Int32) (m_mostTime : Nat → Int64) (m_leastTime : Nat → Int64) (m_countUnit : Nat → Int32) (m_flagUnit : Nat → Int32) (m_worst : Nat → Int64) (m_best : Nat → Int64) (m_stack : Nat → Int32) (Q : Int32 → (Nat → Int32) → Prop) (h : wp_X4_isRound m_blocks m_edges m_from m_to m_bound m_comeTo m_stack Q) : Met l yX4_isRound wsX4_isRound rm_X4_isRound (va_Pc [.ref (a 0)] (inW D cI cZ cJ sz (wM a cI cZ cJ m_thrown m_sets m_ways m_penalty m_blocks m_edges m_pairs m_lines m_isFresh m_isAnswer m_time m_touchMany m_touch m_line m_from m_to m_bound m_pairA m_pairB m_comeTo m_greatest m_least m_nowGreatest m_nowLeast m_does m_mostTime m_leastTime m_countUnit m_flagUnit m_worst m_best m_stack))) (va_Qi (fun (r : Int32) (u : (Nat → Int32)) => Q r u) (fun (u : (Nat → Int32)) => outW D cI cZ cJ (va_A (wM a cI cZ cJ m_thrown m_sets m_ways m_penalty m_blocks m_edges m_pairs m_lines m_isFresh m_isAnswer m_time m_touchMany m_touch m_line m_from m_to m_bound m_pairA m_pairB m_comeTo m_greatest m_least m_nowGreatest m_nowLeast m_does m_mostTime m_leastTime m_countUnit m_flagUnit m_worst m_best m_stack) sz) (wM a cI cZ cJ m_thrown m_sets m_ways m_penalty m_blocks m_edges m_pairs m_lines m_isFresh m_isAnswer m_time m_touchMany m_touch m_line m_from m_to m_bound m_pairA m_pairB m_comeTo m_greatest m_least m_nowGreatest m_nowLeast m_does m_mostTime m_leastTime m_countUnit m_flagUnit m_worst m_best u)) (va_A (wM a cI cZ cJ m_thrown m_sets m_ways m_penalty m_blocks m_edges m_pairs m_lines m_isFresh m_isAnswer m_time m_touchMany m_touch m_line m_from m_to m_bound m_pairA m_pairB m_comeTo m_greatest m_least m_nowGreatest m_nowLeast m_does m_mostTime m_leastTime m_countUnit m_flagUnit m_worst m_best m_stack) sz)) 0 0 (va_A (wM a cI cZ cJ m_thrown m_sets m_ways m_penalty m_blocks m_edges m_pairs m_lines m_isFresh m_isAnswer m_time m_touchMany m_touch m_line m_from m_to m_bound m_pairA m_pairB m_comeTo m_greatest m_least m_nowGreatest m_nowLeast m_does m_mostTime m_leastTime m_countUnit m_flagUnit m_worst m_best m_stack) sz) := by
  refine Met.ofW (cc := cX4_isRound) (maxL := 5) (ret := (some .boolean)) (by decide +kernel) rfl ?_
  intro p e s m args below meth c s₁ B hml hv
  obtain ⟨rfl, hsz, hP, hK, hD0⟩ := hv
  have hx := B.exec
  have hb := B.bytes
  have hr := B.returns
  have hts := atoms_spec (ws := wsX4_isRound) B.pre
  have hown : s.vm.findClass RX4 = some m.cls := findClass_of_methodNamed B.named
  have hlocks := B.notSynchronized
  have hinX4 : ∀ w ∈ wsX40, w ∈ wsX4_isRound := by decide +kernel
  subst hsz
  have hD := hD0.self (sz := s.heap.size)
  generalize hAe : va_A (wM a cI cZ cJ m_thrown m_sets m_ways m_penalty m_blocks m_edges m_pairs m_lines m_isFresh m_isAnswer m_time m_touchMany m_touch m_line m_from m_to m_bound m_pairA m_pairB m_comeTo m_greatest m_least m_nowGreatest m_nowLeast m_does m_mostTime m_leastTime m_countUnit m_flagUnit m_worst m_best m_stack) s.heap.size = A at hD ⊢
  have hA : ∀ q : Nat, s.heap.size ≤ q → A q := fun q h => by rw [← hAe]; exact Or.inr h
  have hS : va_S A s.heap s.heap [] := va_S.rf
  have hP : va_P D vwCl (wM a cI cZ cJ m_thrown m_sets m_ways m_penalty m_blocks m_edges m_pairs m_lines m_isFresh m_isAnswer m_time m_touchMany m_touch m_line m_from m_to m_bound m_pairA m_pairB m_comeTo m_greatest m_least m_nowGreatest m_nowLeast m_does m_mostTime m_leastTime m_countUnit m_flagUnit m_worst m_best m_stack) s.heap := hP
  have hl := lv_entry ([.ref (a 0)]) (n := 5) (Nat.le_of_ble_eq_true rfl)
  rw [lg_entry_eq]
  generalize (lg_sl ([.ref (a 0)]) ++ List.replicate (5 - (lg_sl ([.ref (a 0)])).length) Slot.unset).toArray = ls at hl ⊢
  have hl : lv_has ls 5 [(0, .ref (a 0))] := hl
  refine wz_abs (fun Qz hQz => ?_)
  unfold wp_X4_isRound at h
  refine lv_iconst (v := 0) hx hb dX4_isRound_0 (by decide) ?_
  refine lv_istore_n (lv' := [(1, .int 0), (0, .ref (a 0))]) hx hb dX4_isRound_1 rfl hl (by decide) rfl (fun ls hl => ?_)
  have LP2 : ∀ (n2 : Nat) (v1_2 : Int32) (m_stack_2 : Nat → Int32), lp_X4_isRound_2 m_blocks m_edges m_from m_to m_bound m_comeTo Q n2 v1_2 m_stack_2 → ∀ (H : Heap) (locs : List Loc), va_P D vwCl (wM a cI cZ cJ m_thrown m_sets m_ways m_penalty m_blocks m_edges m_pairs m_lines m_isFresh m_isAnswer m_time m_touchMany m_touch m_line m_from m_to m_bound m_pairA m_pairB m_comeTo m_greatest m_least m_nowGreatest m_nowLeast m_does m_mostTime m_leastTime m_countUnit m_flagUnit m_worst m_best m_stack_2) H → va_D A (wM a cI cZ cJ m_thrown m_sets m_ways m_penalty m_blocks m_edges m_pairs m_lines m_isFresh m_isAnswer m_time m_touchMany m_touch m_line m_from m_to m_bound m_pairA m_pairB m_comeTo m_greatest m_least m_nowGreatest m_nowLeast m_does m_mostTime m_leastTime m_countUnit m_flagUnit m_worst m_best m_stack_2) → va_S A s.heap H locs → ∀ (ls : Array Slot), lv_has ls 5 [(0, .ref (a 0)), (1, .int v1_2)] → W p l e (headSpec wsX4_isRound rm_X4_isRound).room s m ([Value.ref (a 0)] : List Value).toArray below meth c H locs 0 0 Qz (F0 m 2 ls []) := by
    intro n2
    induction n2 with
    | zero => intro v1_2 m_stack_2 h; exact h.elim
    | succ n2 ih2 =>
      intro v1_2 m_stack_2 h H locs hP hD hS ls hl
      unfold lp_X4_isRound_2 at h
      refine lv_iload_n hx hb dX4_isRound_2 rfl (lv_at hl 1 rfl) ?_
      refine lv_aload_n hx hb dX4_isRound_3 rfl (lv_at hl 0 rfl) ?_
      refine va_get (D := D) (ci := 4) (v := .int m_blocks) (C := RX4) (T := TX4) (N := 32) hx hb hts hinX4 hown hK hP 0 rfl rfl 4 (by decide) (hts (.fieldLink RX4 106 "WorstPathsModel" "blocks" "I") (by decide +kernel)) (fun _ h9 => h9) rfl dX4_isRound_4 ?_
      refine lv_icmp_ge (tgt := 36) hx hb dX4_isRound_7 (by decide) (fun hc => ?_) (fun hc => ?_)
      · replace h := h.1 hc
        refine lv_iconst (v := 1) hx hb dX4_isRound_36 (by decide) ?_
        refine lv_istore_n (lv' := [(1, .int 1), (0, .ref (a 0))]) hx hb dX4_isRound_37 rfl hl (by decide) rfl (fun ls hl => ?_)
        have LP38 : ∀ (n38 : Nat) (v1_38 : Int32) (m_stack_38 : Nat → Int32), lp_X4_isRound_38 m_blocks m_edges m_from m_to m_bound m_comeTo Q n38 v1_38 m_stack_38 → ∀ (H : Heap) (locs : List Loc), va_P D vwCl (wM a cI cZ cJ m_thrown m_sets m_ways m_penalty m_blocks m_edges m_pairs m_lines m_isFresh m_isAnswer m_time m_touchMany m_touch m_line m_from m_to m_bound m_pairA m_pairB m_comeTo m_greatest m_least m_nowGreatest m_nowLeast m_does m_mostTime m_leastTime m_countUnit m_flagUnit m_worst m_best m_stack_38) H → va_D A (wM a cI cZ cJ m_thrown m_sets m_ways m_penalty m_blocks m_edges m_pairs m_lines m_isFresh m_isAnswer m_time m_touchMany m_touch m_line m_from m_to m_bound m_pairA m_pairB m_comeTo m_greatest m_least m_nowGreatest m_nowLeast m_does m_mostTime m_leastTime m_countUnit m_flagUnit m_worst m_best m_stack_38) → va_S A s.heap H locs → ∀ (ls : Array Slot), lv_has ls 5 [(0, .ref (a 0)), (1, .int v1_38)] → W p l e (headSpec wsX4_isRound rm_X4_isRound).room s m ([Value.ref (a 0)] : List Value).toArray below meth c H locs 0 0 Qz (F0 m 38 ls []) := by
          intro n38
          induction n38 with
          | zero => intro v1_38 m_stack_38 h; exact h.elim
          | succ n38 ih38 =>
            intro v1_38 m_stack_38 h H locs hP hD hS ls hl
            unfold lp_X4_isRound_38 at h
            refine lv_iload_n hx hb dX4_isRound_38 rfl (lv_at hl 1 rfl) ?_
            refine lv_if_eq (tgt := 153) hx hb dX4_isRound_39 (by decide) (fun hc => ?_) (fun hc => ?_)
            · replace h := h.1 hc
              refine lv_iconst (v := 0) hx hb dX4_isRound_153 (by decide) ?_
              refine lv_istore_n (lv' := [(2, .int 0), (0, .ref (a 0)), (1, .int v1_38)]) hx hb dX4_isRound_154 rfl hl (by decide) rfl (fun ls hl => ?_)
              refine lv_iconst (v := 0) hx hb dX4_isRound_155 (by decide) ?_
              refine lv_istore_n (lv' := [(3, .int 0), (2, .int 0), (0, .ref (a 0)), (1, .int v1_38)]) hx hb dX4_isRound_156 rfl hl (by decide) rfl (fun ls hl => ?_)
              have LP157 : ∀ (n157 : Nat) (v2_157 : Int32) (v3_157 : Int32), lp_X4_isRound_157 m_blocks m_edges m_from m_to m_bound m_comeTo m_stack_38 Q n157 v2_157 v3_157 → ∀ (H : Heap) (locs : List Loc), va_P D vwCl (wM a cI cZ cJ m_thrown m_sets m_ways m_penalty m_blocks m_edges m_pairs m_lines m_isFresh m_isAnswer m_time m_touchMany m_touch m_line m_from m_to m_bound m_pairA m_pairB m_comeTo m_greatest m_least m_nowGreatest m_nowLeast m_does m_mostTime m_leastTime m_countUnit m_flagUnit m_worst m_best m_stack_38) H → va_D A (wM a cI cZ cJ m_thrown m_sets m_ways m_penalty m_blocks m_edges m_pairs m_lines m_isFresh m_isAnswer m_time m_touchMany m_touch m_line m_from m_to m_bound m_pairA m_pairB m_comeTo m_greatest m_least m_nowGreatest m_nowLeast m_does m_mostTime m_leastTime m_countUnit m_flagUnit m_worst m_best m_stack_38) → va_S A s.heap H locs → ∀ (ls : Array Slot), lv_has ls 5 [(0, .ref (a 0)), (2, .int v2_157), (3, .int v3_157)] → W p l e (headSpec wsX4_isRound rm_X4_isRound).room s m ([Value.ref (a 0)] : List Value).toArray below meth c H locs 0 0 Qz (F0 m 157 ls []) := by
                intro n157
                induction n157 with
                | zero => intro v2_157 v3_157 h; exact h.elim
                | succ n157 ih157 =>
                  intro v2_157 v3_157 h H locs hP hD hS ls hl
                  unfold lp_X4_isRound_157 at h
                  refine lv_iload_n hx hb dX4_isRound_157 rfl (lv_at hl 2 rfl) ?_
                  refine lv_aload_n hx hb dX4_isRound_158 rfl (lv_at hl 0 rfl) ?_
                  refine va_get (D := D) (ci := 4) (v := .int m_blocks) (C := RX4) (T := TX4) (N := 32) hx hb hts hinX4 hown hK hP 0 rfl rfl 4 (by decide) (hts (.fieldLink RX4 106 "WorstPathsModel" "blocks" "I") (by decide +kernel)) (fun _ h9 => h9) rfl dX4_isRound_159 ?_
                  refine lv_icmp_ge (tgt := 191) hx hb dX4_isRound_162 (by decide) (fun hc => ?_) (fun hc => ?_)
                  · replace h := h.1 hc
                    refine lv_iload_n hx hb dX4_isRound_191 rfl (lv_at hl 1 rfl) ?_
                    refine wz_mono hQz ?_
                    obtain ⟨hn9, h⟩ := h
                    exact W.zret (v := v2_157) hx hb hr hn9 (fun t ht hW => ⟨⟨v2_157, (m_stack_38), rfl, h, by rw [ht]; exact hP, va_K.moved hW.alike hK, hD⟩, hS.F ht⟩) hS.2.2 dX4_isRound_192
                  · replace h := h.2 hc
                    refine lv_iload_n hx hb dX4_isRound_165 rfl (lv_at hl 1 rfl) ?_
                    refine lv_if_ne (tgt := 179) hx hb dX4_isRound_166 (by decide) (fun hc => ?_) (fun hc => ?_)
                    · replace h := h.1 hc
                      refine lv_iconst (v := 1) hx hb dX4_isRound_179 (by decide) ?_
                      refine lv_goto (tgt := 184) hx hb dX4_isRound_180 (by decide) ?_
                      refine lv_istore_n (lv' := [(2, .int 1), (0, .ref (a 0)), (3, .int v3_157)]) hx hb dX4_isRound_184 rfl hl (by decide) rfl (fun ls hl => ?_)
                      refine lv_iinc (v := (v3_157 + 1)) (lv' := [(3, .int (v3_157 + 1)), (2, .int 1), (0, .ref (a 0))]) hx hb dX4_isRound_185 hl (k := 2) rfl rfl (by decide) rfl (fun ls hl => ?_)
                      refine lv_goto (tgt := 157) hx hb dX4_isRound_188 (by decide) ?_
                      exact ih157 1 (v3_157 + 1) h _ _ hP hD hS _ (lv_sub hl [2, 1, 0] rfl)
                    · replace h := h.2 hc
                      refine lv_aload_n hx hb dX4_isRound_169 rfl (lv_at hl 0 rfl) ?_
                      refine va_get (D := D) (ci := 4) (v := .ref (a 22)) (C := RX4) (T := TX4) (N := 32) hx hb hts hinX4 hown hK hP 0 rfl rfl 31 (by decide) (hts (.fieldLink RX4 77 "WorstPathsModel" "stack" "[I") (by decide +kernel)) (fun _ h9 => h9) rfl dX4_isRound_170 ?_
                      refine lv_iload_n hx hb dX4_isRound_173 rfl (lv_at hl 2 rfl) ?_
                      obtain ⟨hq, h⟩ := h
                      refine va_iald (D := D) hx hb hK hP 22 0 rfl rfl hq dX4_isRound_174 ?_
                      refine lv_iconst (v := 1) hx hb dX4_isRound_175 (by decide) ?_
                      refine lv_icmp_ne (tgt := 183) hx hb dX4_isRound_176 (by decide) (fun hc => ?_) (fun hc => ?_)
                      · replace h := h.1 hc
                        refine lv_iconst (v := 0) hx hb dX4_isRound_183 (by decide) ?_
                        refine lv_istore_n (lv' := [(2, .int 0), (0, .ref (a 0)), (3, .int v3_157)]) hx hb dX4_isRound_184 rfl hl (by decide) rfl (fun ls hl => ?_)
                        refine lv_iinc (v := (v3_157 + 1)) (lv' := [(3, .int (v3_157 + 1)), (2, .int 0), (0, .ref (a 0))]) hx hb dX4_isRound_185 hl (k := 2) rfl rfl (by decide) rfl (fun ls hl => ?_)
                        refine lv_goto (tgt := 157) hx hb dX4_isRound_188 (by decide) ?_
                        exact ih157 0 (v3_157 + 1) h _ _ hP hD hS _ (lv_sub hl [2, 1, 0] rfl)
                      · replace h := h.2 hc
                        refine lv_iconst (v := 1) hx hb dX4_isRound_179 (by decide) ?_
                        refine lv_goto (tgt := 184) hx hb dX4_isRound_180 (by decide) ?_
                        refine lv_istore_n (lv' := [(2, .int 1), (0, .ref (a 0)), (3, .int v3_157)]) hx hb dX4_isRound_184 rfl hl (by decide) rfl (fun ls hl => ?_)
                        refine lv_iinc (v := (v3_157 + 1)) (lv' := [(3, .int (v3_157 + 1)), (2, .int 1), (0, .ref (a 0))]) hx hb dX4_isRound_185 hl (k := 2) rfl rfl (by decide) rfl (fun ls hl => ?_)
                        refine lv_goto (tgt := 157) hx hb dX4_isRound_188 (by decide) ?_
                        exact ih157 1 (v3_157 + 1) h _ _ hP hD hS _ (lv_sub hl [2, 1, 0] rfl)
              obtain ⟨k9, h⟩ := h
              exact LP157 k9 0 0 h _ _ hP hD hS _ (lv_sub hl [2, 1, 0] rfl)
            · replace h := h.2 hc
              refine lv_iconst (v := 0) hx hb dX4_isRound_42 (by decide) ?_
              refine lv_istore_n (lv' := [(1, .int 0), (0, .ref (a 0))]) hx hb dX4_isRound_43 rfl hl (by decide) rfl (fun ls hl => ?_)
              refine lv_iconst (v := 0) hx hb dX4_isRound_44 (by decide) ?_
              refine lv_istore_n (lv' := [(2, .int 0), (1, .int 0), (0, .ref (a 0))]) hx hb dX4_isRound_45 rfl hl (by decide) rfl (fun ls hl => ?_)
              have LP46 : ∀ (n46 : Nat) (v1_46 : Int32) (v2_46 : Int32) (m_stack_46 : Nat → Int32), lp_X4_isRound_46 m_blocks m_edges m_from m_to m_bound m_comeTo (lp_X4_isRound_38 m_blocks m_edges m_from m_to m_bound m_comeTo Q n38) Q n46 v1_46 v2_46 m_stack_46 → ∀ (H : Heap) (locs : List Loc), va_P D vwCl (wM a cI cZ cJ m_thrown m_sets m_ways m_penalty m_blocks m_edges m_pairs m_lines m_isFresh m_isAnswer m_time m_touchMany m_touch m_line m_from m_to m_bound m_pairA m_pairB m_comeTo m_greatest m_least m_nowGreatest m_nowLeast m_does m_mostTime m_leastTime m_countUnit m_flagUnit m_worst m_best m_stack_46) H → va_D A (wM a cI cZ cJ m_thrown m_sets m_ways m_penalty m_blocks m_edges m_pairs m_lines m_isFresh m_isAnswer m_time m_touchMany m_touch m_line m_from m_to m_bound m_pairA m_pairB m_comeTo m_greatest m_least m_nowGreatest m_nowLeast m_does m_mostTime m_leastTime m_countUnit m_flagUnit m_worst m_best m_stack_46) → va_S A s.heap H locs → ∀ (ls : Array Slot), lv_has ls 5 [(0, .ref (a 0)), (1, .int v1_46), (2, .int v2_46)] → W p l e (headSpec wsX4_isRound rm_X4_isRound).room s m ([Value.ref (a 0)] : List Value).toArray below meth c H locs 0 0 Qz (F0 m 46 ls []) := by
                intro n46
                induction n46 with
                | zero => intro v1_46 v2_46 m_stack_46 h; exact h.elim
                | succ n46 ih46 =>
                  intro v1_46 v2_46 m_stack_46 h H locs hP hD hS ls hl
                  unfold lp_X4_isRound_46 at h
                  refine lv_iload_n hx hb dX4_isRound_46 rfl (lv_at hl 2 rfl) ?_
                  refine lv_aload_n hx hb dX4_isRound_47 rfl (lv_at hl 0 rfl) ?_
                  refine va_get (D := D) (ci := 4) (v := .int m_blocks) (C := RX4) (T := TX4) (N := 32) hx hb hts hinX4 hown hK hP 0 rfl rfl 4 (by decide) (hts (.fieldLink RX4 106 "WorstPathsModel" "blocks" "I") (by decide +kernel)) (fun _ h9 => h9) rfl dX4_isRound_48 ?_
                  refine lv_icmp_ge (tgt := 150) hx hb dX4_isRound_51 (by decide) (fun hc => ?_) (fun hc => ?_)
                  · replace h := h.1 hc
                    refine lv_goto (tgt := 38) hx hb dX4_isRound_150 (by decide) ?_
                    exact ih38 v1_46 m_stack_46 h _ _ hP hD hS _ (lv_sub hl [0, 1] rfl)
                  · replace h := h.2 hc
                    refine lv_iconst (v := 0) hx hb dX4_isRound_54 (by decide) ?_
                    refine lv_istore_n (lv' := [(3, .int 0), (0, .ref (a 0)), (1, .int v1_46), (2, .int v2_46)]) hx hb dX4_isRound_55 rfl hl (by decide) rfl (fun ls hl => ?_)
                    refine lv_iconst (v := 0) hx hb dX4_isRound_56 (by decide) ?_
                    refine lv_istore (lv' := [(4, .int 0), (3, .int 0), (0, .ref (a 0)), (1, .int v1_46), (2, .int v2_46)]) hx hb dX4_isRound_57 hl (by decide) rfl (fun ls hl => ?_)
                    have LP59 : ∀ (n59 : Nat) (v3_59 : Int32) (v4_59 : Int32), lp_X4_isRound_59 v1_46 v2_46 m_blocks m_edges m_from m_to m_bound m_comeTo m_stack_46 (lp_X4_isRound_38 m_blocks m_edges m_from m_to m_bound m_comeTo Q n38) (lp_X4_isRound_46 m_blocks m_edges m_from m_to m_bound m_comeTo (lp_X4_isRound_38 m_blocks m_edges m_from m_to m_bound m_comeTo Q n38) Q n46) Q n59 v3_59 v4_59 → ∀ (H : Heap) (locs : List Loc), va_P D vwCl (wM a cI cZ cJ m_thrown m_sets m_ways m_penalty m_blocks m_edges m_pairs m_lines m_isFresh m_isAnswer m_time m_touchMany m_touch m_line m_from m_to m_bound m_pairA m_pairB m_comeTo m_greatest m_least m_nowGreatest m_nowLeast m_does m_mostTime m_leastTime m_countUnit m_flagUnit m_worst m_best m_stack_46) H → va_D A (wM a cI cZ cJ m_thrown m_sets m_ways m_penalty m_blocks m_edges m_pairs m_lines m_isFresh m_isAnswer m_time m_touchMany m_touch m_line m_from m_to m_bound m_pairA m_pairB m_comeTo m_greatest m_least m_nowGreatest m_nowLeast m_does m_mostTime m_leastTime m_countUnit m_flagUnit m_worst m_best m_stack_46) → va_S A s.heap H locs → ∀ (ls : Array Slot), lv_has ls 5 [(0, .ref (a 0)), (1, .int v1_46), (2, .int v2_46), (3, .int v3_59), (4, .int v4_59)] → W p l e (headSpec wsX4_isRound rm_X4_isRound).room s m ([Value.ref (a 0)] : List Value).toArray below meth c H locs 0 0 Qz (F0 m 59 ls []) := by
                      intro n59
                      induction n59 with
                      | zero => intro v3_59 v4_59 h; exact h.elim
                      | succ n59 ih59 =>
                        intro v3_59 v4_59 h H locs hP hD hS ls hl
                        unfold lp_X4_isRound_59 at h
                        refine lv_iload hx hb dX4_isRound_59 (lv_at hl 4 rfl) ?_
                        refine lv_aload_n hx hb dX4_isRound_61 rfl (lv_at hl 0 rfl) ?_
                        refine va_get (D := D) (ci := 4) (v := .int m_edges) (C := RX4) (T := TX4) (N := 32) hx hb hts hinX4 hown hK hP 0 rfl rfl 5 (by decide) (hts (.fieldLink RX4 119 "WorstPathsModel" "edges" "I") (by decide +kernel)) (fun _ h9 => h9) rfl dX4_isRound_62 ?_
                        refine lv_icmp_ge (tgt := 121) hx hb dX4_isRound_65 (by decide) (fun hc => ?_) (fun hc => ?_)
                        · replace h := h.1 hc
                          refine lv_aload_n hx hb dX4_isRound_121 rfl (lv_at hl 0 rfl) ?_
                          refine va_get (D := D) (ci := 4) (v := .ref (a 22)) (C := RX4) (T := TX4) (N := 32) hx hb hts hinX4 hown hK hP 0 rfl rfl 31 (by decide) (hts (.fieldLink RX4 77 "WorstPathsModel" "stack" "[I") (by decide +kernel)) (fun _ h9 => h9) rfl dX4_isRound_122 ?_
                          refine lv_iload_n hx hb dX4_isRound_125 rfl (lv_at hl 2 rfl) ?_
                          obtain ⟨hq, h⟩ := h
                          refine va_iald (D := D) hx hb hK hP 22 0 rfl rfl hq dX4_isRound_126 ?_
                          refine lv_iconst (v := 1) hx hb dX4_isRound_127 (by decide) ?_
                          refine lv_icmp_ne (tgt := 144) hx hb dX4_isRound_128 (by decide) (fun hc => ?_) (fun hc => ?_)
                          · replace h := h.1 hc
                            refine lv_iinc (v := (v2_46 + 1)) (lv' := [(2, .int (v2_46 + 1)), (0, .ref (a 0)), (1, .int v1_46), (3, .int v3_59), (4, .int v4_59)]) hx hb dX4_isRound_144 hl (k := 2) rfl rfl (by decide) rfl (fun ls hl => ?_)
                            refine lv_goto (tgt := 46) hx hb dX4_isRound_147 (by decide) ?_
                            exact ih46 v1_46 (v2_46 + 1) m_stack_46 h _ _ hP hD hS _ (lv_sub hl [1, 2, 0] rfl)
                          · replace h := h.2 hc
                            refine lv_iload_n hx hb dX4_isRound_131 rfl (lv_at hl 3 rfl) ?_
                            refine lv_if_ne (tgt := 144) hx hb dX4_isRound_132 (by decide) (fun hc => ?_) (fun hc => ?_)
                            · replace h := h.1 hc
                              refine lv_iinc (v := (v2_46 + 1)) (lv' := [(2, .int (v2_46 + 1)), (0, .ref (a 0)), (1, .int v1_46), (3, .int v3_59), (4, .int v4_59)]) hx hb dX4_isRound_144 hl (k := 2) rfl rfl (by decide) rfl (fun ls hl => ?_)
                              refine lv_goto (tgt := 46) hx hb dX4_isRound_147 (by decide) ?_
                              exact ih46 v1_46 (v2_46 + 1) m_stack_46 h _ _ hP hD hS _ (lv_sub hl [1, 2, 0] rfl)
                            · replace h := h.2 hc
                              refine lv_aload_n hx hb dX4_isRound_135 rfl (lv_at hl 0 rfl) ?_
                              refine va_get (D := D) (ci := 4) (v := .ref (a 22)) (C := RX4) (T := TX4) (N := 32) hx hb hts hinX4 hown hK hP 0 rfl rfl 31 (by decide) (hts (.fieldLink RX4 77 "WorstPathsModel" "stack" "[I") (by decide +kernel)) (fun _ h9 => h9) rfl dX4_isRound_136 ?_
                              refine lv_iload_n hx hb dX4_isRound_139 rfl (lv_at hl 2 rfl) ?_
                              refine lv_iconst (v := 0) hx hb dX4_isRound_140 (by decide) ?_
                              obtain ⟨hq, h⟩ := h
                              refine va_iast (D := D) hx hb hK hP hD hS 22 0 rfl rfl hq dX4_isRound_141 (fun H locs hP hD hS => ?_)
                              have hP : va_P D vwCl (wM a cI cZ cJ m_thrown m_sets m_ways m_penalty m_blocks m_edges m_pairs m_lines m_isFresh m_isAnswer m_time m_touchMany m_touch m_line m_from m_to m_bound m_pairA m_pairB m_comeTo m_greatest m_least m_nowGreatest m_nowLeast m_does m_mostTime m_leastTime m_countUnit m_flagUnit m_worst m_best (upd m_stack_46 (Int32.toNatClampNeg v2_46) 0)) H := hP
                              have hD : va_D A (wM a cI cZ cJ m_thrown m_sets m_ways m_penalty m_blocks m_edges m_pairs m_lines m_isFresh m_isAnswer m_time m_touchMany m_touch m_line m_from m_to m_bound m_pairA m_pairB m_comeTo m_greatest m_least m_nowGreatest m_nowLeast m_does m_mostTime m_leastTime m_countUnit m_flagUnit m_worst m_best (upd m_stack_46 (Int32.toNatClampNeg v2_46) 0)) := hD
                              refine lv_iconst (v := 1) hx hb dX4_isRound_142 (by decide) ?_
                              refine lv_istore_n (lv' := [(1, .int 1), (0, .ref (a 0)), (2, .int v2_46), (3, .int v3_59), (4, .int v4_59)]) hx hb dX4_isRound_143 rfl hl (by decide) rfl (fun ls hl => ?_)
                              refine lv_iinc (v := (v2_46 + 1)) (lv' := [(2, .int (v2_46 + 1)), (1, .int 1), (0, .ref (a 0)), (3, .int v3_59), (4, .int v4_59)]) hx hb dX4_isRound_144 hl (k := 2) rfl rfl (by decide) rfl (fun ls hl => ?_)
                              refine lv_goto (tgt := 46) hx hb dX4_isRound_147 (by decide) ?_
                              exact ih46 1 (v2_46 + 1) (upd m_stack_46 (Int32.toNatClampNeg v2_46) 0) h _ _ hP hD hS _ (lv_sub hl [2, 1, 0] rfl)
                        · replace h := h.2 hc
                          refine lv_iload_n hx hb dX4_isRound_68 rfl (lv_at hl 3 rfl) ?_
                          refine lv_if_ne (tgt := 109) hx hb dX4_isRound_69 (by decide) (fun hc => ?_) (fun hc => ?_)
                          · replace h := h.1 hc
                            refine lv_iconst (v := 1) hx hb dX4_isRound_109 (by decide) ?_
                            refine lv_goto (tgt := 114) hx hb dX4_isRound_110 (by decide) ?_
                            refine lv_istore_n (lv' := [(3, .int 1), (0, .ref (a 0)), (1, .int v1_46), (2, .int v2_46), (4, .int v4_59)]) hx hb dX4_isRound_114 rfl hl (by decide) rfl (fun ls hl => ?_)
                            refine lv_iinc (v := (v4_59 + 1)) (lv' := [(4, .int (v4_59 + 1)), (3, .int 1), (0, .ref (a 0)), (1, .int v1_46), (2, .int v2_46)]) hx hb dX4_isRound_115 hl (k := 4) rfl rfl (by decide) rfl (fun ls hl => ?_)
                            refine lv_goto (tgt := 59) hx hb dX4_isRound_118 (by decide) ?_
                            exact ih59 1 (v4_59 + 1) h _ _ hP hD hS _ (lv_sub hl [2, 3, 4, 1, 0] rfl)
                          · replace h := h.2 hc
                            refine lv_aload_n hx hb dX4_isRound_72 rfl (lv_at hl 0 rfl) ?_
                            refine va_get (D := D) (ci := 4) (v := .ref (a 5)) (C := RX4) (T := TX4) (N := 32) hx hb hts hinX4 hown hK hP 0 rfl rfl 12 (by decide) (hts (.fieldLink RX4 22 "WorstPathsModel" "from" "[I") (by decide +kernel)) (fun _ h9 => h9) rfl dX4_isRound_73 ?_
                            refine lv_iload hx hb dX4_isRound_76 (lv_at hl 4 rfl) ?_
                            obtain ⟨hq, h⟩ := h
                            refine va_iald (D := D) hx hb hK hP 5 0 rfl rfl hq dX4_isRound_78 ?_
                            refine lv_iload_n hx hb dX4_isRound_79 rfl (lv_at hl 2 rfl) ?_
                            refine lv_icmp_ne (tgt := 113) hx hb dX4_isRound_80 (by decide) (fun hc => ?_) (fun hc => ?_)
                            · replace h := h.1 hc
                              refine lv_iconst (v := 0) hx hb dX4_isRound_113 (by decide) ?_
                              refine lv_istore_n (lv' := [(3, .int 0), (0, .ref (a 0)), (1, .int v1_46), (2, .int v2_46), (4, .int v4_59)]) hx hb dX4_isRound_114 rfl hl (by decide) rfl (fun ls hl => ?_)
                              refine lv_iinc (v := (v4_59 + 1)) (lv' := [(4, .int (v4_59 + 1)), (3, .int 0), (0, .ref (a 0)), (1, .int v1_46), (2, .int v2_46)]) hx hb dX4_isRound_115 hl (k := 4) rfl rfl (by decide) rfl (fun ls hl => ?_)
                              refine lv_goto (tgt := 59) hx hb dX4_isRound_118 (by decide) ?_
                              exact ih59 0 (v4_59 + 1) h _ _ hP hD hS _ (lv_sub hl [2, 3, 4, 1, 0] rfl)
                            · replace h := h.2 hc
                              refine lv_aload_n hx hb dX4_isRound_83 rfl (lv_at hl 0 rfl) ?_
                              refine va_get (D := D) (ci := 4) (v := .ref (a 7)) (C := RX4) (T := TX4) (N := 32) hx hb hts hinX4 hown hK hP 0 rfl rfl 14 (by decide) (hts (.fieldLink RX4 28 "WorstPathsModel" "bound" "[I") (by decide +kernel)) (fun _ h9 => h9) rfl dX4_isRound_84 ?_
                              refine lv_iload hx hb dX4_isRound_87 (lv_at hl 4 rfl) ?_
                              obtain ⟨hq, h⟩ := h
                              refine va_iald (D := D) hx hb hK hP 7 0 rfl rfl hq dX4_isRound_89 ?_
                              refine lv_if_ge (tgt := 113) hx hb dX4_isRound_90 (by decide) (fun hc => ?_) (fun hc => ?_)
                              · replace h := h.1 hc
                                refine lv_iconst (v := 0) hx hb dX4_isRound_113 (by decide) ?_
                                refine lv_istore_n (lv' := [(3, .int 0), (0, .ref (a 0)), (1, .int v1_46), (2, .int v2_46), (4, .int v4_59)]) hx hb dX4_isRound_114 rfl hl (by decide) rfl (fun ls hl => ?_)
                                refine lv_iinc (v := (v4_59 + 1)) (lv' := [(4, .int (v4_59 + 1)), (3, .int 0), (0, .ref (a 0)), (1, .int v1_46), (2, .int v2_46)]) hx hb dX4_isRound_115 hl (k := 4) rfl rfl (by decide) rfl (fun ls hl => ?_)
                                refine lv_goto (tgt := 59) hx hb dX4_isRound_118 (by decide) ?_
                                exact ih59 0 (v4_59 + 1) h _ _ hP hD hS _ (lv_sub hl [2, 3, 4, 1, 0] rfl)
                              · replace h := h.2 hc
                                refine lv_aload_n hx hb dX4_isRound_93 rfl (lv_at hl 0 rfl) ?_
                                refine va_get (D := D) (ci := 4) (v := .ref (a 22)) (C := RX4) (T := TX4) (N := 32) hx hb hts hinX4 hown hK hP 0 rfl rfl 31 (by decide) (hts (.fieldLink RX4 77 "WorstPathsModel" "stack" "[I") (by decide +kernel)) (fun _ h9 => h9) rfl dX4_isRound_94 ?_
                                refine lv_aload_n hx hb dX4_isRound_97 rfl (lv_at hl 0 rfl) ?_
                                refine va_get (D := D) (ci := 4) (v := .ref (a 6)) (C := RX4) (T := TX4) (N := 32) hx hb hts hinX4 hown hK hP 0 rfl rfl 13 (by decide) (hts (.fieldLink RX4 25 "WorstPathsModel" "to" "[I") (by decide +kernel)) (fun _ h9 => h9) rfl dX4_isRound_98 ?_
                                refine lv_iload hx hb dX4_isRound_101 (lv_at hl 4 rfl) ?_
                                obtain ⟨hq, h⟩ := h
                                refine va_iald (D := D) hx hb hK hP 6 0 rfl rfl hq dX4_isRound_103 ?_
                                obtain ⟨hq, h⟩ := h
                                refine va_iald (D := D) hx hb hK hP 22 0 rfl rfl hq dX4_isRound_104 ?_
                                refine lv_iconst (v := 1) hx hb dX4_isRound_105 (by decide) ?_
                                refine lv_icmp_ne (tgt := 113) hx hb dX4_isRound_106 (by decide) (fun hc => ?_) (fun hc => ?_)
                                · replace h := h.1 hc
                                  refine lv_iconst (v := 0) hx hb dX4_isRound_113 (by decide) ?_
                                  refine lv_istore_n (lv' := [(3, .int 0), (0, .ref (a 0)), (1, .int v1_46), (2, .int v2_46), (4, .int v4_59)]) hx hb dX4_isRound_114 rfl hl (by decide) rfl (fun ls hl => ?_)
                                  refine lv_iinc (v := (v4_59 + 1)) (lv' := [(4, .int (v4_59 + 1)), (3, .int 0), (0, .ref (a 0)), (1, .int v1_46), (2, .int v2_46)]) hx hb dX4_isRound_115 hl (k := 4) rfl rfl (by decide) rfl (fun ls hl => ?_)
                                  refine lv_goto (tgt := 59) hx hb dX4_isRound_118 (by decide) ?_
                                  exact ih59 0 (v4_59 + 1) h _ _ hP hD hS _ (lv_sub hl [2, 3, 4, 1, 0] rfl)
                                · replace h := h.2 hc
                                  refine lv_iconst (v := 1) hx hb dX4_isRound_109 (by decide) ?_
                                  refine lv_goto (tgt := 114) hx hb dX4_isRound_110 (by decide) ?_
                                  refine lv_istore_n (lv' := [(3, .int 1), (0, .ref (a 0)), (1, .int v1_46), (2, .int v2_46), (4, .int v4_59)]) hx hb dX4_isRound_114 rfl hl (by decide) rfl (fun ls hl => ?_)
                                  refine lv_iinc (v := (v4_59 + 1)) (lv' := [(4, .int (v4_59 + 1)), (3, .int 1), (0, .ref (a 0)), (1, .int v1_46), (2, .int v2_46)]) hx hb dX4_isRound_115 hl (k := 4) rfl rfl (by decide) rfl (fun ls hl => ?_)
                                  refine lv_goto (tgt := 59) hx hb dX4_isRound_118 (by decide) ?_
                                  exact ih59 1 (v4_59 + 1) h _ _ hP hD hS _ (lv_sub hl [2, 3, 4, 1, 0] rfl)
                    obtain ⟨k9, h⟩ := h
                    exact LP59 k9 0 0 h _ _ hP hD hS _ (lv_sub hl [2, 3, 4, 1, 0] rfl)
              obtain ⟨k9, h⟩ := h
              exact LP46 k9 0 0 m_stack_38 h _ _ hP hD hS _ (lv_sub hl [2, 1, 0] rfl)
        obtain ⟨k9, h⟩ := h
        exact LP38 k9 1 m_stack_2 h _ _ hP hD hS _ (lv_sub hl [1, 0] rfl)
      · replace h := h.2 hc
        refine lv_aload_n hx hb dX4_isRound_10 rfl (lv_at hl 0 rfl) ?_
        refine va_get (D := D) (ci := 4) (v := .ref (a 22)) (C := RX4) (T := TX4) (N := 32) hx hb hts hinX4 hown hK hP 0 rfl rfl 31 (by decide) (hts (.fieldLink RX4 77 "WorstPathsModel" "stack" "[I") (by decide +kernel)) (fun _ h9 => h9) rfl dX4_isRound_11 ?_
        refine lv_iload_n hx hb dX4_isRound_14 rfl (lv_at hl 1 rfl) ?_
        refine lv_aload_n hx hb dX4_isRound_15 rfl (lv_at hl 0 rfl) ?_
        refine va_get (D := D) (ci := 4) (v := .ref (a 10)) (C := RX4) (T := TX4) (N := 32) hx hb hts hinX4 hown hK hP 0 rfl rfl 18 (by decide) (hts (.fieldLink RX4 37 "WorstPathsModel" "comeTo" "[Z") (by decide +kernel)) (fun _ h9 => h9) rfl dX4_isRound_16 ?_
        refine lv_iload_n hx hb dX4_isRound_19 rfl (lv_at hl 1 rfl) ?_
        obtain ⟨hq, h⟩ := h
        refine va_zald (D := D) hx hb hK hP 10 1 rfl rfl hq dX4_isRound_20 ?_
        refine lv_if_eq (tgt := 28) hx hb dX4_isRound_21 (by decide) (fun hc => ?_) (fun hc => ?_)
        · replace h := h.1 hc
          refine lv_iconst (v := 0) hx hb dX4_isRound_28 (by decide) ?_
          obtain ⟨hq, h⟩ := h
          refine va_iast (D := D) hx hb hK hP hD hS 22 0 rfl rfl hq dX4_isRound_29 (fun H locs hP hD hS => ?_)
          have hP : va_P D vwCl (wM a cI cZ cJ m_thrown m_sets m_ways m_penalty m_blocks m_edges m_pairs m_lines m_isFresh m_isAnswer m_time m_touchMany m_touch m_line m_from m_to m_bound m_pairA m_pairB m_comeTo m_greatest m_least m_nowGreatest m_nowLeast m_does m_mostTime m_leastTime m_countUnit m_flagUnit m_worst m_best (upd m_stack_2 (Int32.toNatClampNeg v1_2) 0)) H := hP
          have hD : va_D A (wM a cI cZ cJ m_thrown m_sets m_ways m_penalty m_blocks m_edges m_pairs m_lines m_isFresh m_isAnswer m_time m_touchMany m_touch m_line m_from m_to m_bound m_pairA m_pairB m_comeTo m_greatest m_least m_nowGreatest m_nowLeast m_does m_mostTime m_leastTime m_countUnit m_flagUnit m_worst m_best (upd m_stack_2 (Int32.toNatClampNeg v1_2) 0)) := hD
          refine lv_iinc (v := (v1_2 + 1)) (lv' := [(1, .int (v1_2 + 1)), (0, .ref (a 0))]) hx hb dX4_isRound_30 hl (k := 1) rfl rfl (by decide) rfl (fun ls hl => ?_)
          refine lv_goto (tgt := 2) hx hb dX4_isRound_33 (by decide) ?_
          exact ih2 (v1_2 + 1) (upd m_stack_2 (Int32.toNatClampNeg v1_2) 0) h _ _ hP hD hS _ (lv_sub hl [1, 0] rfl)
        · replace h := h.2 hc
          refine lv_iconst (v := 1) hx hb dX4_isRound_24 (by decide) ?_
          refine lv_goto (tgt := 29) hx hb dX4_isRound_25 (by decide) ?_
          obtain ⟨hq, h⟩ := h
          refine va_iast (D := D) hx hb hK hP hD hS 22 0 rfl rfl hq dX4_isRound_29 (fun H locs hP hD hS => ?_)
          have hP : va_P D vwCl (wM a cI cZ cJ m_thrown m_sets m_ways m_penalty m_blocks m_edges m_pairs m_lines m_isFresh m_isAnswer m_time m_touchMany m_touch m_line m_from m_to m_bound m_pairA m_pairB m_comeTo m_greatest m_least m_nowGreatest m_nowLeast m_does m_mostTime m_leastTime m_countUnit m_flagUnit m_worst m_best (upd m_stack_2 (Int32.toNatClampNeg v1_2) 1)) H := hP
          have hD : va_D A (wM a cI cZ cJ m_thrown m_sets m_ways m_penalty m_blocks m_edges m_pairs m_lines m_isFresh m_isAnswer m_time m_touchMany m_touch m_line m_from m_to m_bound m_pairA m_pairB m_comeTo m_greatest m_least m_nowGreatest m_nowLeast m_does m_mostTime m_leastTime m_countUnit m_flagUnit m_worst m_best (upd m_stack_2 (Int32.toNatClampNeg v1_2) 1)) := hD
          refine lv_iinc (v := (v1_2 + 1)) (lv' := [(1, .int (v1_2 + 1)), (0, .ref (a 0))]) hx hb dX4_isRound_30 hl (k := 1) rfl rfl (by decide) rfl (fun ls hl => ?_)
          refine lv_goto (tgt := 2) hx hb dX4_isRound_33 (by decide) ?_
          exact ih2 (v1_2 + 1) (upd m_stack_2 (Int32.toNatClampNeg v1_2) 1) h _ _ hP hD hS _ (lv_sub hl [1, 0] rfl)
  obtain ⟨k9, h⟩ := h
  exact LP2 k9 0 m_stack h _ _ hP hD hS _ (lv_sub hl [1, 0] rfl)
def lp_X4_isInPair_4 (v1 : Int32) (m_pairs : Int32) (m_pairA : Nat → Int32) (m_pairB : Nat → Int32) (Q : Int32 → Prop) : Nat → Int32 → Int32 → Prop
  | 0, _, _ => False
  | n + 1, v2, v3 => (m_pairs ≤ v3 → (narrow .boolean (.int v2) = .int v2) ∧ Q v2) ∧ (¬ m_pairs ≤ v3 → (¬ v2 = 0 → (lp_X4_isInPair_4 v1 m_pairs m_pairA m_pairB Q n) 1 (v3 + 1)) ∧ (v2 = 0 → vp_in v3 3 ∧ (((m_pairA (Int32.toNatClampNeg v3)) = v1 → (lp_X4_isInPair_4 v1 m_pairs m_pairA m_pairB Q n) 1 (v3 + 1)) ∧ (¬ (m_pairA (Int32.toNatClampNeg v3)) = v1 → vp_in v3 3 ∧ ((¬ (m_pairB (Int32.toNatClampNeg v3)) = v1 → (lp_X4_isInPair_4 v1 m_pairs m_pairA m_pairB Q n) 0 (v3 + 1)) ∧ ((m_pairB (Int32.toNatClampNeg v3)) = v1 → (lp_X4_isInPair_4 v1 m_pairs m_pairA m_pairB Q n) 1 (v3 + 1)))))))
def wp_X4_isInPair (v1 : Int32) (m_pairs : Int32) (m_pairA : Nat → Int32) (m_pairB : Nat → Int32) (Q : Int32 → Prop) : Prop := ∃ k4, lp_X4_isInPair_4 v1 m_pairs m_pairA m_pairB Q k4 0 0
abbrev rm_X4_isInPair : Room := { frames := 0, cells := 0, slots := 0, locals := 0 }
set_option maxHeartbeats 4000000 in
set_option maxRecDepth 100000 in
theorem c_X4_isInPair (l : Launch) (D : va_G) (a : Nat → Nat) (cI : ClassId) (cZ : ClassId) (cJ : ClassId) (sz : Nat) (m_thrown : Int32) (m_sets : Int32) (m_ways : Int32) (m_penalty : Int32) (m_blocks : Int32) (m_edges : Int32) (m_pairs : Int32) (m_lines : Int32) (m_isFresh : Int32) (m_isAnswer : Int32) (m_time : Nat → Int32) (m_touchMany : Nat → Int32) (m_touch : Nat → Int32) (m_line : Nat → Int32) (m_from : Nat → Int32) (m_to : Nat → Int32) (m_bound : Nat → Int32) (m_pairA : Nat → Int32) (m_pairB : Nat → Int32) (m_comeTo : Nat → Int32) (m_greatest : Nat → Int32) (m_least : Nat → Int32) (m_nowGreatest : Nat → Int32) (m_nowLeast : Nat → Int32) (m_does : Nat → Int32) (m_mostTime : Nat → Int64) (m_leastTime : Nat → Int64) (m_countUnit : Nat → Int32) (m_flagUnit : Nat → Int32) (m_worst : Nat → Int64) (m_best : Nat → Int64) (m_stack : Nat → Int32) (v1 : Int32) (Q : Int32 → Prop) (h : wp_X4_isInPair v1 m_pairs m_pairA m_pairB Q) : Met l yX4_isInPair wsX4_isInPair rm_X4_isInPair (va_Pc [.ref (a 0), .int v1] (inW D cI cZ cJ sz (wM a cI cZ cJ m_thrown m_sets m_ways m_penalty m_blocks m_edges m_pairs m_lines m_isFresh m_isAnswer m_time m_touchMany m_touch m_line m_from m_to m_bound m_pairA m_pairB m_comeTo m_greatest m_least m_nowGreatest m_nowLeast m_does m_mostTime m_leastTime m_countUnit m_flagUnit m_worst m_best m_stack))) (va_Qi (fun (r : Int32) (u : Unit) => Q r) (fun (u : Unit) => outW D cI cZ cJ (va_A (wM a cI cZ cJ m_thrown m_sets m_ways m_penalty m_blocks m_edges m_pairs m_lines m_isFresh m_isAnswer m_time m_touchMany m_touch m_line m_from m_to m_bound m_pairA m_pairB m_comeTo m_greatest m_least m_nowGreatest m_nowLeast m_does m_mostTime m_leastTime m_countUnit m_flagUnit m_worst m_best m_stack) sz) (wM a cI cZ cJ m_thrown m_sets m_ways m_penalty m_blocks m_edges m_pairs m_lines m_isFresh m_isAnswer m_time m_touchMany m_touch m_line m_from m_to m_bound m_pairA m_pairB m_comeTo m_greatest m_least m_nowGreatest m_nowLeast m_does m_mostTime m_leastTime m_countUnit m_flagUnit m_worst m_best m_stack)) (va_A (wM a cI cZ cJ m_thrown m_sets m_ways m_penalty m_blocks m_edges m_pairs m_lines m_isFresh m_isAnswer m_time m_touchMany m_touch m_line m_from m_to m_bound m_pairA m_pairB m_comeTo m_greatest m_least m_nowGreatest m_nowLeast m_does m_mostTime m_leastTime m_countUnit m_flagUnit m_worst m_best m_stack) sz)) 0 0 (va_A (wM a cI cZ cJ m_thrown m_sets m_ways m_penalty m_blocks m_edges m_pairs m_lines m_isFresh m_isAnswer m_time m_touchMany m_touch m_line m_from m_to m_bound m_pairA m_pairB m_comeTo m_greatest m_least m_nowGreatest m_nowLeast m_does m_mostTime m_leastTime m_countUnit m_flagUnit m_worst m_best m_stack) sz) := by
  refine Met.ofW (cc := cX4_isInPair) (maxL := 4) (ret := (some .boolean)) (by decide +kernel) rfl ?_
  intro p e s m args below meth c s₁ B hml hv
  obtain ⟨rfl, hsz, hP, hK, hD0⟩ := hv
  have hx := B.exec
  have hb := B.bytes
  have hr := B.returns
  have hts := atoms_spec (ws := wsX4_isInPair) B.pre
  have hown : s.vm.findClass RX4 = some m.cls := findClass_of_methodNamed B.named
  have hlocks := B.notSynchronized
  have hinX4 : ∀ w ∈ wsX40, w ∈ wsX4_isInPair := by decide +kernel
  subst hsz
  have hD := hD0.self (sz := s.heap.size)
  generalize hAe : va_A (wM a cI cZ cJ m_thrown m_sets m_ways m_penalty m_blocks m_edges m_pairs m_lines m_isFresh m_isAnswer m_time m_touchMany m_touch m_line m_from m_to m_bound m_pairA m_pairB m_comeTo m_greatest m_least m_nowGreatest m_nowLeast m_does m_mostTime m_leastTime m_countUnit m_flagUnit m_worst m_best m_stack) s.heap.size = A at hD ⊢
  have hA : ∀ q : Nat, s.heap.size ≤ q → A q := fun q h => by rw [← hAe]; exact Or.inr h
  have hS : va_S A s.heap s.heap [] := va_S.rf
  have hP : va_P D vwCl (wM a cI cZ cJ m_thrown m_sets m_ways m_penalty m_blocks m_edges m_pairs m_lines m_isFresh m_isAnswer m_time m_touchMany m_touch m_line m_from m_to m_bound m_pairA m_pairB m_comeTo m_greatest m_least m_nowGreatest m_nowLeast m_does m_mostTime m_leastTime m_countUnit m_flagUnit m_worst m_best m_stack) s.heap := hP
  have hl := lv_entry ([.ref (a 0), .int v1]) (n := 4) (Nat.le_of_ble_eq_true rfl)
  rw [lg_entry_eq]
  generalize (lg_sl ([.ref (a 0), .int v1]) ++ List.replicate (4 - (lg_sl ([.ref (a 0), .int v1])).length) Slot.unset).toArray = ls at hl ⊢
  have hl : lv_has ls 4 [(0, .ref (a 0)), (1, .int v1)] := hl
  refine wz_abs (fun Qz hQz => ?_)
  unfold wp_X4_isInPair at h
  refine lv_iconst (v := 0) hx hb dX4_isInPair_0 (by decide) ?_
  refine lv_istore_n (lv' := [(2, .int 0), (0, .ref (a 0)), (1, .int v1)]) hx hb dX4_isInPair_1 rfl hl (by decide) rfl (fun ls hl => ?_)
  refine lv_iconst (v := 0) hx hb dX4_isInPair_2 (by decide) ?_
  refine lv_istore_n (lv' := [(3, .int 0), (2, .int 0), (0, .ref (a 0)), (1, .int v1)]) hx hb dX4_isInPair_3 rfl hl (by decide) rfl (fun ls hl => ?_)
  have LP4 : ∀ (n4 : Nat) (v2_4 : Int32) (v3_4 : Int32), lp_X4_isInPair_4 v1 m_pairs m_pairA m_pairB Q n4 v2_4 v3_4 → ∀ (H : Heap) (locs : List Loc), va_P D vwCl (wM a cI cZ cJ m_thrown m_sets m_ways m_penalty m_blocks m_edges m_pairs m_lines m_isFresh m_isAnswer m_time m_touchMany m_touch m_line m_from m_to m_bound m_pairA m_pairB m_comeTo m_greatest m_least m_nowGreatest m_nowLeast m_does m_mostTime m_leastTime m_countUnit m_flagUnit m_worst m_best m_stack) H → va_D A (wM a cI cZ cJ m_thrown m_sets m_ways m_penalty m_blocks m_edges m_pairs m_lines m_isFresh m_isAnswer m_time m_touchMany m_touch m_line m_from m_to m_bound m_pairA m_pairB m_comeTo m_greatest m_least m_nowGreatest m_nowLeast m_does m_mostTime m_leastTime m_countUnit m_flagUnit m_worst m_best m_stack) → va_S A s.heap H locs → ∀ (ls : Array Slot), lv_has ls 4 [(0, .ref (a 0)), (1, .int v1), (2, .int v2_4), (3, .int v3_4)] → W p l e (headSpec wsX4_isInPair rm_X4_isInPair).room s m ([Value.ref (a 0), Value.int v1] : List Value).toArray below meth c H locs 0 0 Qz (F0 m 4 ls []) := by
    intro n4
    induction n4 with
    | zero => intro v2_4 v3_4 h; exact h.elim
    | succ n4 ih4 =>
      intro v2_4 v3_4 h H locs hP hD hS ls hl
      unfold lp_X4_isInPair_4 at h
      refine lv_iload_n hx hb dX4_isInPair_4 rfl (lv_at hl 3 rfl) ?_
      refine lv_aload_n hx hb dX4_isInPair_5 rfl (lv_at hl 0 rfl) ?_
      refine va_get (D := D) (ci := 4) (v := .int m_pairs) (C := RX4) (T := TX4) (N := 32) hx hb hts hinX4 hown hK hP 0 rfl rfl 6 (by decide) (hts (.fieldLink RX4 122 "WorstPathsModel" "pairs" "I") (by decide +kernel)) (fun _ h9 => h9) rfl dX4_isInPair_6 ?_
      refine lv_icmp_ge (tgt := 48) hx hb dX4_isInPair_9 (by decide) (fun hc => ?_) (fun hc => ?_)
      · replace h := h.1 hc
        refine lv_iload_n hx hb dX4_isInPair_48 rfl (lv_at hl 2 rfl) ?_
        refine wz_mono hQz ?_
        obtain ⟨hn9, h⟩ := h
        exact W.zret (v := v2_4) hx hb hr hn9 (fun t ht hW => ⟨⟨v2_4, (), rfl, h, by rw [ht]; exact hP, va_K.moved hW.alike hK, hD⟩, hS.F ht⟩) hS.2.2 dX4_isInPair_49
      · replace h := h.2 hc
        refine lv_iload_n hx hb dX4_isInPair_12 rfl (lv_at hl 2 rfl) ?_
        refine lv_if_ne (tgt := 36) hx hb dX4_isInPair_13 (by decide) (fun hc => ?_) (fun hc => ?_)
        · replace h := h.1 hc
          refine lv_iconst (v := 1) hx hb dX4_isInPair_36 (by decide) ?_
          refine lv_goto (tgt := 41) hx hb dX4_isInPair_37 (by decide) ?_
          refine lv_istore_n (lv' := [(2, .int 1), (0, .ref (a 0)), (1, .int v1), (3, .int v3_4)]) hx hb dX4_isInPair_41 rfl hl (by decide) rfl (fun ls hl => ?_)
          refine lv_iinc (v := (v3_4 + 1)) (lv' := [(3, .int (v3_4 + 1)), (2, .int 1), (0, .ref (a 0)), (1, .int v1)]) hx hb dX4_isInPair_42 hl (k := 3) rfl rfl (by decide) rfl (fun ls hl => ?_)
          refine lv_goto (tgt := 4) hx hb dX4_isInPair_45 (by decide) ?_
          exact ih4 1 (v3_4 + 1) h _ _ hP hD hS _ (lv_sub hl [2, 3, 1, 0] rfl)
        · replace h := h.2 hc
          refine lv_aload_n hx hb dX4_isInPair_16 rfl (lv_at hl 0 rfl) ?_
          refine va_get (D := D) (ci := 4) (v := .ref (a 8)) (C := RX4) (T := TX4) (N := 32) hx hb hts hinX4 hown hK hP 0 rfl rfl 15 (by decide) (hts (.fieldLink RX4 31 "WorstPathsModel" "pairA" "[I") (by decide +kernel)) (fun _ h9 => h9) rfl dX4_isInPair_17 ?_
          refine lv_iload_n hx hb dX4_isInPair_20 rfl (lv_at hl 3 rfl) ?_
          obtain ⟨hq, h⟩ := h
          refine va_iald (D := D) hx hb hK hP 8 0 rfl rfl hq dX4_isInPair_21 ?_
          refine lv_iload_n hx hb dX4_isInPair_22 rfl (lv_at hl 1 rfl) ?_
          refine lv_icmp_eq (tgt := 36) hx hb dX4_isInPair_23 (by decide) (fun hc => ?_) (fun hc => ?_)
          · replace h := h.1 hc
            refine lv_iconst (v := 1) hx hb dX4_isInPair_36 (by decide) ?_
            refine lv_goto (tgt := 41) hx hb dX4_isInPair_37 (by decide) ?_
            refine lv_istore_n (lv' := [(2, .int 1), (0, .ref (a 0)), (1, .int v1), (3, .int v3_4)]) hx hb dX4_isInPair_41 rfl hl (by decide) rfl (fun ls hl => ?_)
            refine lv_iinc (v := (v3_4 + 1)) (lv' := [(3, .int (v3_4 + 1)), (2, .int 1), (0, .ref (a 0)), (1, .int v1)]) hx hb dX4_isInPair_42 hl (k := 3) rfl rfl (by decide) rfl (fun ls hl => ?_)
            refine lv_goto (tgt := 4) hx hb dX4_isInPair_45 (by decide) ?_
            exact ih4 1 (v3_4 + 1) h _ _ hP hD hS _ (lv_sub hl [2, 3, 1, 0] rfl)
          · replace h := h.2 hc
            refine lv_aload_n hx hb dX4_isInPair_26 rfl (lv_at hl 0 rfl) ?_
            refine va_get (D := D) (ci := 4) (v := .ref (a 9)) (C := RX4) (T := TX4) (N := 32) hx hb hts hinX4 hown hK hP 0 rfl rfl 16 (by decide) (hts (.fieldLink RX4 34 "WorstPathsModel" "pairB" "[I") (by decide +kernel)) (fun _ h9 => h9) rfl dX4_isInPair_27 ?_
            refine lv_iload_n hx hb dX4_isInPair_30 rfl (lv_at hl 3 rfl) ?_
            obtain ⟨hq, h⟩ := h
            refine va_iald (D := D) hx hb hK hP 9 0 rfl rfl hq dX4_isInPair_31 ?_
            refine lv_iload_n hx hb dX4_isInPair_32 rfl (lv_at hl 1 rfl) ?_
            refine lv_icmp_ne (tgt := 40) hx hb dX4_isInPair_33 (by decide) (fun hc => ?_) (fun hc => ?_)
            · replace h := h.1 hc
              refine lv_iconst (v := 0) hx hb dX4_isInPair_40 (by decide) ?_
              refine lv_istore_n (lv' := [(2, .int 0), (0, .ref (a 0)), (1, .int v1), (3, .int v3_4)]) hx hb dX4_isInPair_41 rfl hl (by decide) rfl (fun ls hl => ?_)
              refine lv_iinc (v := (v3_4 + 1)) (lv' := [(3, .int (v3_4 + 1)), (2, .int 0), (0, .ref (a 0)), (1, .int v1)]) hx hb dX4_isInPair_42 hl (k := 3) rfl rfl (by decide) rfl (fun ls hl => ?_)
              refine lv_goto (tgt := 4) hx hb dX4_isInPair_45 (by decide) ?_
              exact ih4 0 (v3_4 + 1) h _ _ hP hD hS _ (lv_sub hl [2, 3, 1, 0] rfl)
            · replace h := h.2 hc
              refine lv_iconst (v := 1) hx hb dX4_isInPair_36 (by decide) ?_
              refine lv_goto (tgt := 41) hx hb dX4_isInPair_37 (by decide) ?_
              refine lv_istore_n (lv' := [(2, .int 1), (0, .ref (a 0)), (1, .int v1), (3, .int v3_4)]) hx hb dX4_isInPair_41 rfl hl (by decide) rfl (fun ls hl => ?_)
              refine lv_iinc (v := (v3_4 + 1)) (lv' := [(3, .int (v3_4 + 1)), (2, .int 1), (0, .ref (a 0)), (1, .int v1)]) hx hb dX4_isInPair_42 hl (k := 3) rfl rfl (by decide) rfl (fun ls hl => ?_)
              refine lv_goto (tgt := 4) hx hb dX4_isInPair_45 (by decide) ?_
              exact ih4 1 (v3_4 + 1) h _ _ hP hD hS _ (lv_sub hl [2, 3, 1, 0] rfl)
  obtain ⟨k9, h⟩ := h
  exact LP4 k9 0 0 h _ _ hP hD hS _ (lv_sub hl [2, 3, 1, 0] rfl)
def jn_X4_countPlaces_62 (v1 : Int32) (v2 : Int32) (m_blocks : Int32) (m_edges : Int32) (m_pairs : Int32) (m_bound : Nat → Int32) (m_pairA : Nat → Int32) (m_pairB : Nat → Int32) (m_countUnit : Nat → Int32) (m_flagUnit : Nat → Int32) (K7 : Int32 → Int32 → (Nat → Int32) → (Nat → Int32) → Prop) (Q : Int32 → (Nat → Int32) → (Nat → Int32) → Prop) : Prop := wp_X4_isInPair v2 m_pairs m_pairA m_pairB (fun r_64 => (r_64 = 0 → K7 v1 (v2 + 1) m_countUnit m_flagUnit) ∧ (¬ r_64 = 0 → (40000 < v1 → K7 v1 (v2 + 1) m_countUnit m_flagUnit) ∧ (¬ 40000 < v1 → vp_in v2 80 ∧ (K7 (v1 * 2) (v2 + 1) m_countUnit (upd m_flagUnit (Int32.toNatClampNeg v2) v1)))))
def lp_X4_countPlaces_7 (m_blocks : Int32) (m_edges : Int32) (m_pairs : Int32) (m_bound : Nat → Int32) (m_pairA : Nat → Int32) (m_pairB : Nat → Int32) (Q : Int32 → (Nat → Int32) → (Nat → Int32) → Prop) : Nat → Int32 → Int32 → (Nat → Int32) → (Nat → Int32) → Prop
  | 0, _, _, _, _ => False
  | n + 1, v1, v2, m_countUnit, m_flagUnit => (m_edges ≤ v2 → (v1 ≤ 40000 → Q v1 m_countUnit m_flagUnit) ∧ (¬ v1 ≤ 40000 → Q (-1) m_countUnit m_flagUnit)) ∧ (¬ m_edges ≤ v2 → vp_in v2 80 ∧ (vp_in v2 80 ∧ (vp_in v2 80 ∧ (((m_bound (Int32.toNatClampNeg v2)) < 0 → jn_X4_countPlaces_62 v1 v2 m_blocks m_edges m_pairs m_bound m_pairA m_pairB (upd m_countUnit (Int32.toNatClampNeg v2) 0) (upd m_flagUnit (Int32.toNatClampNeg v2) 0) (lp_X4_countPlaces_7 m_blocks m_edges m_pairs m_bound m_pairA m_pairB Q n) Q) ∧ (¬ (m_bound (Int32.toNatClampNeg v2)) < 0 → (40000 < v1 → jn_X4_countPlaces_62 v1 v2 m_blocks m_edges m_pairs m_bound m_pairA m_pairB (upd m_countUnit (Int32.toNatClampNeg v2) 0) (upd m_flagUnit (Int32.toNatClampNeg v2) 0) (lp_X4_countPlaces_7 m_blocks m_edges m_pairs m_bound m_pairA m_pairB Q n) Q) ∧ (¬ 40000 < v1 → vp_in v2 80 ∧ (vp_in v2 80 ∧ (jn_X4_countPlaces_62 (v1 * ((m_bound (Int32.toNatClampNeg v2)) + 1)) v2 m_blocks m_edges m_pairs m_bound m_pairA m_pairB (upd (upd m_countUnit (Int32.toNatClampNeg v2) 0) (Int32.toNatClampNeg v2) v1) (upd m_flagUnit (Int32.toNatClampNeg v2) 0) (lp_X4_countPlaces_7 m_blocks m_edges m_pairs m_bound m_pairA m_pairB Q n) Q))))))))
def wp_X4_countPlaces (m_blocks : Int32) (m_edges : Int32) (m_pairs : Int32) (m_bound : Nat → Int32) (m_pairA : Nat → Int32) (m_pairB : Nat → Int32) (m_countUnit : Nat → Int32) (m_flagUnit : Nat → Int32) (Q : Int32 → (Nat → Int32) → (Nat → Int32) → Prop) : Prop := ∃ k7, lp_X4_countPlaces_7 m_blocks m_edges m_pairs m_bound m_pairA m_pairB Q k7 m_blocks 0 m_countUnit m_flagUnit
abbrev rm_X4_countPlaces : Room := { frames := 1, cells := 0, slots := 0, locals := 23 }
set_option maxHeartbeats 4000000 in
set_option maxRecDepth 100000 in
theorem c_X4_countPlaces (l : Launch) (D : va_G) (a : Nat → Nat) (cI : ClassId) (cZ : ClassId) (cJ : ClassId) (sz : Nat) (m_thrown : Int32) (m_sets : Int32) (m_ways : Int32) (m_penalty : Int32) (m_blocks : Int32) (m_edges : Int32) (m_pairs : Int32) (m_lines : Int32) (m_isFresh : Int32) (m_isAnswer : Int32) (m_time : Nat → Int32) (m_touchMany : Nat → Int32) (m_touch : Nat → Int32) (m_line : Nat → Int32) (m_from : Nat → Int32) (m_to : Nat → Int32) (m_bound : Nat → Int32) (m_pairA : Nat → Int32) (m_pairB : Nat → Int32) (m_comeTo : Nat → Int32) (m_greatest : Nat → Int32) (m_least : Nat → Int32) (m_nowGreatest : Nat → Int32) (m_nowLeast : Nat → Int32) (m_does : Nat → Int32) (m_mostTime : Nat → Int64) (m_leastTime : Nat → Int64) (m_countUnit : Nat → Int32) (m_flagUnit : Nat → Int32) (m_worst : Nat → Int64) (m_best : Nat → Int64) (m_stack : Nat → Int32) (Q : Int32 → (Nat → Int32) → (Nat → Int32) → Prop) (h : wp_X4_countPlaces m_blocks m_edges m_pairs m_bound m_pairA m_pairB m_countUnit m_flagUnit Q) : Met l yX4_countPlaces wsX4_countPlaces rm_X4_countPlaces (va_Pc [.ref (a 0)] (inW D cI cZ cJ sz (wM a cI cZ cJ m_thrown m_sets m_ways m_penalty m_blocks m_edges m_pairs m_lines m_isFresh m_isAnswer m_time m_touchMany m_touch m_line m_from m_to m_bound m_pairA m_pairB m_comeTo m_greatest m_least m_nowGreatest m_nowLeast m_does m_mostTime m_leastTime m_countUnit m_flagUnit m_worst m_best m_stack))) (va_Qi (fun (r : Int32) (u : (Nat → Int32) × (Nat → Int32)) => Q r u.1 u.2) (fun (u : (Nat → Int32) × (Nat → Int32)) => outW D cI cZ cJ (va_A (wM a cI cZ cJ m_thrown m_sets m_ways m_penalty m_blocks m_edges m_pairs m_lines m_isFresh m_isAnswer m_time m_touchMany m_touch m_line m_from m_to m_bound m_pairA m_pairB m_comeTo m_greatest m_least m_nowGreatest m_nowLeast m_does m_mostTime m_leastTime m_countUnit m_flagUnit m_worst m_best m_stack) sz) (wM a cI cZ cJ m_thrown m_sets m_ways m_penalty m_blocks m_edges m_pairs m_lines m_isFresh m_isAnswer m_time m_touchMany m_touch m_line m_from m_to m_bound m_pairA m_pairB m_comeTo m_greatest m_least m_nowGreatest m_nowLeast m_does m_mostTime m_leastTime u.1 u.2 m_worst m_best m_stack)) (va_A (wM a cI cZ cJ m_thrown m_sets m_ways m_penalty m_blocks m_edges m_pairs m_lines m_isFresh m_isAnswer m_time m_touchMany m_touch m_line m_from m_to m_bound m_pairA m_pairB m_comeTo m_greatest m_least m_nowGreatest m_nowLeast m_does m_mostTime m_leastTime m_countUnit m_flagUnit m_worst m_best m_stack) sz)) 0 0 (va_A (wM a cI cZ cJ m_thrown m_sets m_ways m_penalty m_blocks m_edges m_pairs m_lines m_isFresh m_isAnswer m_time m_touchMany m_touch m_line m_from m_to m_bound m_pairA m_pairB m_comeTo m_greatest m_least m_nowGreatest m_nowLeast m_does m_mostTime m_leastTime m_countUnit m_flagUnit m_worst m_best m_stack) sz) := by
  refine Met.ofW (cc := cX4_countPlaces) (maxL := 3) (ret := (some .int)) (by decide +kernel) rfl ?_
  intro p e s m args below meth c s₁ B hml hv
  obtain ⟨rfl, hsz, hP, hK, hD0⟩ := hv
  have hx := B.exec
  have hb := B.bytes
  have hr := B.returns
  have hts := atoms_spec (ws := wsX4_countPlaces) B.pre
  have hown : s.vm.findClass RX4 = some m.cls := findClass_of_methodNamed B.named
  have hlocks := B.notSynchronized
  have hinX4 : ∀ w ∈ wsX40, w ∈ wsX4_countPlaces := by decide +kernel
  subst hsz
  have hD := hD0.self (sz := s.heap.size)
  generalize hAe : va_A (wM a cI cZ cJ m_thrown m_sets m_ways m_penalty m_blocks m_edges m_pairs m_lines m_isFresh m_isAnswer m_time m_touchMany m_touch m_line m_from m_to m_bound m_pairA m_pairB m_comeTo m_greatest m_least m_nowGreatest m_nowLeast m_does m_mostTime m_leastTime m_countUnit m_flagUnit m_worst m_best m_stack) s.heap.size = A at hD ⊢
  have hA : ∀ q : Nat, s.heap.size ≤ q → A q := fun q h => by rw [← hAe]; exact Or.inr h
  have hS : va_S A s.heap s.heap [] := va_S.rf
  have hP : va_P D vwCl (wM a cI cZ cJ m_thrown m_sets m_ways m_penalty m_blocks m_edges m_pairs m_lines m_isFresh m_isAnswer m_time m_touchMany m_touch m_line m_from m_to m_bound m_pairA m_pairB m_comeTo m_greatest m_least m_nowGreatest m_nowLeast m_does m_mostTime m_leastTime m_countUnit m_flagUnit m_worst m_best m_stack) s.heap := hP
  have hl := lv_entry ([.ref (a 0)]) (n := 3) (Nat.le_of_ble_eq_true rfl)
  rw [lg_entry_eq]
  generalize (lg_sl ([.ref (a 0)]) ++ List.replicate (3 - (lg_sl ([.ref (a 0)])).length) Slot.unset).toArray = ls at hl ⊢
  have hl : lv_has ls 3 [(0, .ref (a 0))] := hl
  refine wz_abs (fun Qz hQz => ?_)
  unfold wp_X4_countPlaces at h
  refine lv_aload_n hx hb dX4_countPlaces_0 rfl (lv_at hl 0 rfl) ?_
  refine va_get (D := D) (ci := 4) (v := .int m_blocks) (C := RX4) (T := TX4) (N := 32) hx hb hts hinX4 hown hK hP 0 rfl rfl 4 (by decide) (hts (.fieldLink RX4 106 "WorstPathsModel" "blocks" "I") (by decide +kernel)) (fun _ h9 => h9) rfl dX4_countPlaces_1 ?_
  refine lv_istore_n (lv' := [(1, .int m_blocks), (0, .ref (a 0))]) hx hb dX4_countPlaces_4 rfl hl (by decide) rfl (fun ls hl => ?_)
  refine lv_iconst (v := 0) hx hb dX4_countPlaces_5 (by decide) ?_
  refine lv_istore_n (lv' := [(2, .int 0), (1, .int m_blocks), (0, .ref (a 0))]) hx hb dX4_countPlaces_6 rfl hl (by decide) rfl (fun ls hl => ?_)
  have LP7 : ∀ (n7 : Nat) (v1_7 : Int32) (v2_7 : Int32) (m_countUnit_7 : Nat → Int32) (m_flagUnit_7 : Nat → Int32), lp_X4_countPlaces_7 m_blocks m_edges m_pairs m_bound m_pairA m_pairB Q n7 v1_7 v2_7 m_countUnit_7 m_flagUnit_7 → ∀ (H : Heap) (locs : List Loc), va_P D vwCl (wM a cI cZ cJ m_thrown m_sets m_ways m_penalty m_blocks m_edges m_pairs m_lines m_isFresh m_isAnswer m_time m_touchMany m_touch m_line m_from m_to m_bound m_pairA m_pairB m_comeTo m_greatest m_least m_nowGreatest m_nowLeast m_does m_mostTime m_leastTime m_countUnit_7 m_flagUnit_7 m_worst m_best m_stack) H → va_D A (wM a cI cZ cJ m_thrown m_sets m_ways m_penalty m_blocks m_edges m_pairs m_lines m_isFresh m_isAnswer m_time m_touchMany m_touch m_line m_from m_to m_bound m_pairA m_pairB m_comeTo m_greatest m_least m_nowGreatest m_nowLeast m_does m_mostTime m_leastTime m_countUnit_7 m_flagUnit_7 m_worst m_best m_stack) → va_S A s.heap H locs → ∀ (ls : Array Slot), lv_has ls 3 [(0, .ref (a 0)), (1, .int v1_7), (2, .int v2_7)] → W p l e (headSpec wsX4_countPlaces rm_X4_countPlaces).room s m ([Value.ref (a 0)] : List Value).toArray below meth c H locs 0 0 Qz (F0 m 7 ls []) := by
    intro n7
    induction n7 with
    | zero => intro v1_7 v2_7 m_countUnit_7 m_flagUnit_7 h; exact h.elim
    | succ n7 ih7 =>
      intro v1_7 v2_7 m_countUnit_7 m_flagUnit_7 h H locs hP hD hS ls hl
      unfold lp_X4_countPlaces_7 at h
      refine lv_iload_n hx hb dX4_countPlaces_7 rfl (lv_at hl 2 rfl) ?_
      refine lv_aload_n hx hb dX4_countPlaces_8 rfl (lv_at hl 0 rfl) ?_
      refine va_get (D := D) (ci := 4) (v := .int m_edges) (C := RX4) (T := TX4) (N := 32) hx hb hts hinX4 hown hK hP 0 rfl rfl 5 (by decide) (hts (.fieldLink RX4 119 "WorstPathsModel" "edges" "I") (by decide +kernel)) (fun _ h9 => h9) rfl dX4_countPlaces_9 ?_
      refine lv_icmp_ge (tgt := 93) hx hb dX4_countPlaces_12 (by decide) (fun hc => ?_) (fun hc => ?_)
      · replace h := h.1 hc
        refine lv_iload_n hx hb dX4_countPlaces_93 rfl (lv_at hl 1 rfl) ?_
        refine lv_ldc (v := 40000) hx hb hown (hts (.constant RX4 69 (40000)) (by decide +kernel)) dX4_countPlaces_94 ?_
        refine lv_icmp_le (tgt := 103) hx hb dX4_countPlaces_96 (by decide) (fun hc => ?_) (fun hc => ?_)
        · replace h := h.1 hc
          refine lv_iload_n hx hb dX4_countPlaces_103 rfl (lv_at hl 1 rfl) ?_
          refine wz_mono hQz ?_
          exact W.iret (v := v1_7) hx hb hr (fun t ht hW => ⟨⟨v1_7, (m_countUnit_7, m_flagUnit_7), rfl, h, by rw [ht]; exact hP, va_K.moved hW.alike hK, hD⟩, hS.F ht⟩) hS.2.2 dX4_countPlaces_104
        · replace h := h.2 hc
          refine lv_iconst (v := (-1)) hx hb dX4_countPlaces_99 (by decide) ?_
          refine lv_goto (tgt := 104) hx hb dX4_countPlaces_100 (by decide) ?_
          refine wz_mono hQz ?_
          exact W.iret (v := (-1)) hx hb hr (fun t ht hW => ⟨⟨(-1), (m_countUnit_7, m_flagUnit_7), rfl, h, by rw [ht]; exact hP, va_K.moved hW.alike hK, hD⟩, hS.F ht⟩) hS.2.2 dX4_countPlaces_104
      · replace h := h.2 hc
        refine lv_aload_n hx hb dX4_countPlaces_15 rfl (lv_at hl 0 rfl) ?_
        refine va_get (D := D) (ci := 4) (v := .ref (a 18)) (C := RX4) (T := TX4) (N := 32) hx hb hts hinX4 hown hK hP 0 rfl rfl 27 (by decide) (hts (.fieldLink RX4 63 "WorstPathsModel" "countUnit" "[I") (by decide +kernel)) (fun _ h9 => h9) rfl dX4_countPlaces_16 ?_
        refine lv_iload_n hx hb dX4_countPlaces_19 rfl (lv_at hl 2 rfl) ?_
        refine lv_iconst (v := 0) hx hb dX4_countPlaces_20 (by decide) ?_
        obtain ⟨hq, h⟩ := h
        refine va_iast (D := D) hx hb hK hP hD hS 18 0 rfl rfl hq dX4_countPlaces_21 (fun H locs hP hD hS => ?_)
        have hP : va_P D vwCl (wM a cI cZ cJ m_thrown m_sets m_ways m_penalty m_blocks m_edges m_pairs m_lines m_isFresh m_isAnswer m_time m_touchMany m_touch m_line m_from m_to m_bound m_pairA m_pairB m_comeTo m_greatest m_least m_nowGreatest m_nowLeast m_does m_mostTime m_leastTime (upd m_countUnit_7 (Int32.toNatClampNeg v2_7) 0) m_flagUnit_7 m_worst m_best m_stack) H := hP
        have hD : va_D A (wM a cI cZ cJ m_thrown m_sets m_ways m_penalty m_blocks m_edges m_pairs m_lines m_isFresh m_isAnswer m_time m_touchMany m_touch m_line m_from m_to m_bound m_pairA m_pairB m_comeTo m_greatest m_least m_nowGreatest m_nowLeast m_does m_mostTime m_leastTime (upd m_countUnit_7 (Int32.toNatClampNeg v2_7) 0) m_flagUnit_7 m_worst m_best m_stack) := hD
        refine lv_aload_n hx hb dX4_countPlaces_22 rfl (lv_at hl 0 rfl) ?_
        refine va_get (D := D) (ci := 4) (v := .ref (a 19)) (C := RX4) (T := TX4) (N := 32) hx hb hts hinX4 hown hK hP 0 rfl rfl 28 (by decide) (hts (.fieldLink RX4 66 "WorstPathsModel" "flagUnit" "[I") (by decide +kernel)) (fun _ h9 => h9) rfl dX4_countPlaces_23 ?_
        refine lv_iload_n hx hb dX4_countPlaces_26 rfl (lv_at hl 2 rfl) ?_
        refine lv_iconst (v := 0) hx hb dX4_countPlaces_27 (by decide) ?_
        obtain ⟨hq, h⟩ := h
        refine va_iast (D := D) hx hb hK hP hD hS 19 0 rfl rfl hq dX4_countPlaces_28 (fun H locs hP hD hS => ?_)
        have hP : va_P D vwCl (wM a cI cZ cJ m_thrown m_sets m_ways m_penalty m_blocks m_edges m_pairs m_lines m_isFresh m_isAnswer m_time m_touchMany m_touch m_line m_from m_to m_bound m_pairA m_pairB m_comeTo m_greatest m_least m_nowGreatest m_nowLeast m_does m_mostTime m_leastTime (upd m_countUnit_7 (Int32.toNatClampNeg v2_7) 0) (upd m_flagUnit_7 (Int32.toNatClampNeg v2_7) 0) m_worst m_best m_stack) H := hP
        have hD : va_D A (wM a cI cZ cJ m_thrown m_sets m_ways m_penalty m_blocks m_edges m_pairs m_lines m_isFresh m_isAnswer m_time m_touchMany m_touch m_line m_from m_to m_bound m_pairA m_pairB m_comeTo m_greatest m_least m_nowGreatest m_nowLeast m_does m_mostTime m_leastTime (upd m_countUnit_7 (Int32.toNatClampNeg v2_7) 0) (upd m_flagUnit_7 (Int32.toNatClampNeg v2_7) 0) m_worst m_best m_stack) := hD
        refine lv_aload_n hx hb dX4_countPlaces_29 rfl (lv_at hl 0 rfl) ?_
        refine va_get (D := D) (ci := 4) (v := .ref (a 7)) (C := RX4) (T := TX4) (N := 32) hx hb hts hinX4 hown hK hP 0 rfl rfl 14 (by decide) (hts (.fieldLink RX4 28 "WorstPathsModel" "bound" "[I") (by decide +kernel)) (fun _ h9 => h9) rfl dX4_countPlaces_30 ?_
        refine lv_iload_n hx hb dX4_countPlaces_33 rfl (lv_at hl 2 rfl) ?_
        obtain ⟨hq, h⟩ := h
        refine va_iald (D := D) hx hb hK hP 7 0 rfl rfl hq dX4_countPlaces_34 ?_
        have JP62 : ∀ (v1_62 : Int32) (m_countUnit_62 : Nat → Int32), jn_X4_countPlaces_62 v1_62 v2_7 m_blocks m_edges m_pairs m_bound m_pairA m_pairB m_countUnit_62 (upd m_flagUnit_7 (Int32.toNatClampNeg v2_7) 0) (lp_X4_countPlaces_7 m_blocks m_edges m_pairs m_bound m_pairA m_pairB Q n7) Q → ∀ (H : Heap) (locs : List Loc), va_P D vwCl (wM a cI cZ cJ m_thrown m_sets m_ways m_penalty m_blocks m_edges m_pairs m_lines m_isFresh m_isAnswer m_time m_touchMany m_touch m_line m_from m_to m_bound m_pairA m_pairB m_comeTo m_greatest m_least m_nowGreatest m_nowLeast m_does m_mostTime m_leastTime m_countUnit_62 (upd m_flagUnit_7 (Int32.toNatClampNeg v2_7) 0) m_worst m_best m_stack) H → va_D A (wM a cI cZ cJ m_thrown m_sets m_ways m_penalty m_blocks m_edges m_pairs m_lines m_isFresh m_isAnswer m_time m_touchMany m_touch m_line m_from m_to m_bound m_pairA m_pairB m_comeTo m_greatest m_least m_nowGreatest m_nowLeast m_does m_mostTime m_leastTime m_countUnit_62 (upd m_flagUnit_7 (Int32.toNatClampNeg v2_7) 0) m_worst m_best m_stack) → va_S A s.heap H locs → ∀ (ls : Array Slot), lv_has ls 3 [(0, .ref (a 0)), (1, .int v1_62), (2, .int v2_7)] → W p l e (headSpec wsX4_countPlaces rm_X4_countPlaces).room s m ([Value.ref (a 0)] : List Value).toArray below meth c H locs 0 0 Qz (F0 m 62 ls []) := by
          intro v1_62 m_countUnit_62 h H locs hP hD hS ls hl
          unfold jn_X4_countPlaces_62 at h
          refine lv_aload_n hx hb dX4_countPlaces_62 rfl (lv_at hl 0 rfl) ?_
          refine lv_iload_n hx hb dX4_countPlaces_63 rfl (lv_at hl 2 rfl) ?_
          have hF := wz_free hD hS hA
          refine va_calli (va_runV (As := [.int v2_7]) (rest := []) ⟨hx, hb, hml, hown, hts⟩ (c_X4_isInPair l D a cI cZ cJ _ m_thrown m_sets m_ways m_penalty m_blocks m_edges m_pairs m_lines m_isFresh m_isAnswer m_time m_touchMany m_touch m_line m_from m_to m_bound m_pairA m_pairB m_comeTo m_greatest m_least m_nowGreatest m_nowLeast m_does m_mostTime m_leastTime m_countUnit_62 (upd m_flagUnit_7 (Int32.toNatClampNeg v2_7) 0) m_worst m_best m_stack v2_7 _ h) (cwV 1 hts gX4_countPlaces_X4_isInPair rfl rfl rfl (by decide +kernel) ⟨Nat.le_of_ble_eq_true rfl, Nat.le_of_ble_eq_true rfl⟩) ⟨wz_blind, va_recv hK hP (ci := 4) (q0 := 0) rfl rfl, fun U hU hW => wz_at hU hW hP hK hD⟩ rfl rfl hl.1 rfl (lv_room (Nat.le_of_ble_eq_true rfl)) dX4_countPlaces_64 ⟨Nat.zero_le _, Nat.zero_le _⟩) hS (fun q _ hq => hF q hq) hF (fun r_64 u t H locs ht hvm h hB hz1 hk1 hS => ?_)
          obtain ⟨hP, -, hD⟩ := wz_back ht hF hB
          have hP : va_P D vwCl (wM a cI cZ cJ m_thrown m_sets m_ways m_penalty m_blocks m_edges m_pairs m_lines m_isFresh m_isAnswer m_time m_touchMany m_touch m_line m_from m_to m_bound m_pairA m_pairB m_comeTo m_greatest m_least m_nowGreatest m_nowLeast m_does m_mostTime m_leastTime m_countUnit_62 (upd m_flagUnit_7 (Int32.toNatClampNeg v2_7) 0) m_worst m_best m_stack) H := hP
          have hD : va_D A (wM a cI cZ cJ m_thrown m_sets m_ways m_penalty m_blocks m_edges m_pairs m_lines m_isFresh m_isAnswer m_time m_touchMany m_touch m_line m_from m_to m_bound m_pairA m_pairB m_comeTo m_greatest m_least m_nowGreatest m_nowLeast m_does m_mostTime m_leastTime m_countUnit_62 (upd m_flagUnit_7 (Int32.toNatClampNeg v2_7) 0) m_worst m_best m_stack) := hD
          refine lv_if_eq (tgt := 87) hx hb dX4_countPlaces_67 (by decide) (fun hc => ?_) (fun hc => ?_)
          · replace h := h.1 hc
            refine lv_iinc (v := (v2_7 + 1)) (lv' := [(2, .int (v2_7 + 1)), (0, .ref (a 0)), (1, .int v1_62)]) hx hb dX4_countPlaces_87 hl (k := 2) rfl rfl (by decide) rfl (fun ls hl => ?_)
            refine lv_goto (tgt := 7) hx hb dX4_countPlaces_90 (by decide) ?_
            exact ih7 v1_62 (v2_7 + 1) m_countUnit_62 (upd m_flagUnit_7 (Int32.toNatClampNeg v2_7) 0) h _ _ hP hD hS _ (lv_sub hl [1, 2, 0] rfl)
          · replace h := h.2 hc
            refine lv_iload_n hx hb dX4_countPlaces_70 rfl (lv_at hl 1 rfl) ?_
            refine lv_ldc (v := 40000) hx hb hown (hts (.constant RX4 69 (40000)) (by decide +kernel)) dX4_countPlaces_71 ?_
            refine lv_icmp_gt (tgt := 87) hx hb dX4_countPlaces_73 (by decide) (fun hc => ?_) (fun hc => ?_)
            · replace h := h.1 hc
              refine lv_iinc (v := (v2_7 + 1)) (lv' := [(2, .int (v2_7 + 1)), (0, .ref (a 0)), (1, .int v1_62)]) hx hb dX4_countPlaces_87 hl (k := 2) rfl rfl (by decide) rfl (fun ls hl => ?_)
              refine lv_goto (tgt := 7) hx hb dX4_countPlaces_90 (by decide) ?_
              exact ih7 v1_62 (v2_7 + 1) m_countUnit_62 (upd m_flagUnit_7 (Int32.toNatClampNeg v2_7) 0) h _ _ hP hD hS _ (lv_sub hl [1, 2, 0] rfl)
            · replace h := h.2 hc
              refine lv_aload_n hx hb dX4_countPlaces_76 rfl (lv_at hl 0 rfl) ?_
              refine va_get (D := D) (ci := 4) (v := .ref (a 19)) (C := RX4) (T := TX4) (N := 32) hx hb hts hinX4 hown hK hP 0 rfl rfl 28 (by decide) (hts (.fieldLink RX4 66 "WorstPathsModel" "flagUnit" "[I") (by decide +kernel)) (fun _ h9 => h9) rfl dX4_countPlaces_77 ?_
              refine lv_iload_n hx hb dX4_countPlaces_80 rfl (lv_at hl 2 rfl) ?_
              refine lv_iload_n hx hb dX4_countPlaces_81 rfl (lv_at hl 1 rfl) ?_
              obtain ⟨hq, h⟩ := h
              refine va_iast (D := D) hx hb hK hP hD hS 19 0 rfl rfl hq dX4_countPlaces_82 (fun H locs hP hD hS => ?_)
              have hP : va_P D vwCl (wM a cI cZ cJ m_thrown m_sets m_ways m_penalty m_blocks m_edges m_pairs m_lines m_isFresh m_isAnswer m_time m_touchMany m_touch m_line m_from m_to m_bound m_pairA m_pairB m_comeTo m_greatest m_least m_nowGreatest m_nowLeast m_does m_mostTime m_leastTime m_countUnit_62 (upd (upd m_flagUnit_7 (Int32.toNatClampNeg v2_7) 0) (Int32.toNatClampNeg v2_7) v1_62) m_worst m_best m_stack) H := hP
              have hD : va_D A (wM a cI cZ cJ m_thrown m_sets m_ways m_penalty m_blocks m_edges m_pairs m_lines m_isFresh m_isAnswer m_time m_touchMany m_touch m_line m_from m_to m_bound m_pairA m_pairB m_comeTo m_greatest m_least m_nowGreatest m_nowLeast m_does m_mostTime m_leastTime m_countUnit_62 (upd (upd m_flagUnit_7 (Int32.toNatClampNeg v2_7) 0) (Int32.toNatClampNeg v2_7) v1_62) m_worst m_best m_stack) := hD
              refine lv_iload_n hx hb dX4_countPlaces_83 rfl (lv_at hl 1 rfl) ?_
              refine lv_iconst (v := 2) hx hb dX4_countPlaces_84 (by decide) ?_
              refine lv_imul hx hb dX4_countPlaces_85 ?_
              refine lv_istore_n (lv' := [(1, .int (v1_62 * 2)), (0, .ref (a 0)), (2, .int v2_7)]) hx hb dX4_countPlaces_86 rfl hl (by decide) rfl (fun ls hl => ?_)
              refine lv_iinc (v := (v2_7 + 1)) (lv' := [(2, .int (v2_7 + 1)), (1, .int (v1_62 * 2)), (0, .ref (a 0))]) hx hb dX4_countPlaces_87 hl (k := 2) rfl rfl (by decide) rfl (fun ls hl => ?_)
              refine lv_goto (tgt := 7) hx hb dX4_countPlaces_90 (by decide) ?_
              exact ih7 (v1_62 * 2) (v2_7 + 1) m_countUnit_62 (upd (upd m_flagUnit_7 (Int32.toNatClampNeg v2_7) 0) (Int32.toNatClampNeg v2_7) v1_62) h _ _ hP hD hS _ (lv_sub hl [2, 1, 0] rfl)
        refine lv_if_lt (tgt := 62) hx hb dX4_countPlaces_35 (by decide) (fun hc => ?_) (fun hc => ?_)
        · replace h := h.1 hc
          exact JP62 v1_7 (upd m_countUnit_7 (Int32.toNatClampNeg v2_7) 0) h _ _ hP hD hS _ (lv_sub hl [0, 1, 2] rfl)
        · replace h := h.2 hc
          refine lv_iload_n hx hb dX4_countPlaces_38 rfl (lv_at hl 1 rfl) ?_
          refine lv_ldc (v := 40000) hx hb hown (hts (.constant RX4 69 (40000)) (by decide +kernel)) dX4_countPlaces_39 ?_
          refine lv_icmp_gt (tgt := 62) hx hb dX4_countPlaces_41 (by decide) (fun hc => ?_) (fun hc => ?_)
          · replace h := h.1 hc
            exact JP62 v1_7 (upd m_countUnit_7 (Int32.toNatClampNeg v2_7) 0) h _ _ hP hD hS _ (lv_sub hl [0, 1, 2] rfl)
          · replace h := h.2 hc
            refine lv_aload_n hx hb dX4_countPlaces_44 rfl (lv_at hl 0 rfl) ?_
            refine va_get (D := D) (ci := 4) (v := .ref (a 18)) (C := RX4) (T := TX4) (N := 32) hx hb hts hinX4 hown hK hP 0 rfl rfl 27 (by decide) (hts (.fieldLink RX4 63 "WorstPathsModel" "countUnit" "[I") (by decide +kernel)) (fun _ h9 => h9) rfl dX4_countPlaces_45 ?_
            refine lv_iload_n hx hb dX4_countPlaces_48 rfl (lv_at hl 2 rfl) ?_
            refine lv_iload_n hx hb dX4_countPlaces_49 rfl (lv_at hl 1 rfl) ?_
            obtain ⟨hq, h⟩ := h
            refine va_iast (D := D) hx hb hK hP hD hS 18 0 rfl rfl hq dX4_countPlaces_50 (fun H locs hP hD hS => ?_)
            have hP : va_P D vwCl (wM a cI cZ cJ m_thrown m_sets m_ways m_penalty m_blocks m_edges m_pairs m_lines m_isFresh m_isAnswer m_time m_touchMany m_touch m_line m_from m_to m_bound m_pairA m_pairB m_comeTo m_greatest m_least m_nowGreatest m_nowLeast m_does m_mostTime m_leastTime (upd (upd m_countUnit_7 (Int32.toNatClampNeg v2_7) 0) (Int32.toNatClampNeg v2_7) v1_7) (upd m_flagUnit_7 (Int32.toNatClampNeg v2_7) 0) m_worst m_best m_stack) H := hP
            have hD : va_D A (wM a cI cZ cJ m_thrown m_sets m_ways m_penalty m_blocks m_edges m_pairs m_lines m_isFresh m_isAnswer m_time m_touchMany m_touch m_line m_from m_to m_bound m_pairA m_pairB m_comeTo m_greatest m_least m_nowGreatest m_nowLeast m_does m_mostTime m_leastTime (upd (upd m_countUnit_7 (Int32.toNatClampNeg v2_7) 0) (Int32.toNatClampNeg v2_7) v1_7) (upd m_flagUnit_7 (Int32.toNatClampNeg v2_7) 0) m_worst m_best m_stack) := hD
            refine lv_iload_n hx hb dX4_countPlaces_51 rfl (lv_at hl 1 rfl) ?_
            refine lv_aload_n hx hb dX4_countPlaces_52 rfl (lv_at hl 0 rfl) ?_
            refine va_get (D := D) (ci := 4) (v := .ref (a 7)) (C := RX4) (T := TX4) (N := 32) hx hb hts hinX4 hown hK hP 0 rfl rfl 14 (by decide) (hts (.fieldLink RX4 28 "WorstPathsModel" "bound" "[I") (by decide +kernel)) (fun _ h9 => h9) rfl dX4_countPlaces_53 ?_
            refine lv_iload_n hx hb dX4_countPlaces_56 rfl (lv_at hl 2 rfl) ?_
            obtain ⟨hq, h⟩ := h
            refine va_iald (D := D) hx hb hK hP 7 0 rfl rfl hq dX4_countPlaces_57 ?_
            refine lv_iconst (v := 1) hx hb dX4_countPlaces_58 (by decide) ?_
            refine lv_iadd hx hb dX4_countPlaces_59 ?_
            refine lv_imul hx hb dX4_countPlaces_60 ?_
            refine lv_istore_n (lv' := [(1, .int (v1_7 * ((m_bound (Int32.toNatClampNeg v2_7)) + 1))), (0, .ref (a 0)), (2, .int v2_7)]) hx hb dX4_countPlaces_61 rfl hl (by decide) rfl (fun ls hl => ?_)
            exact JP62 (v1_7 * ((m_bound (Int32.toNatClampNeg v2_7)) + 1)) (upd (upd m_countUnit_7 (Int32.toNatClampNeg v2_7) 0) (Int32.toNatClampNeg v2_7) v1_7) h _ _ hP hD hS _ (lv_sub hl [1, 0, 2] rfl)
  obtain ⟨k9, h⟩ := h
  exact LP7 k9 m_blocks 0 m_countUnit m_flagUnit h _ _ hP hD hS _ (lv_sub hl [2, 1, 0] rfl)
def wp_X4_isTaken (v1 : Int32) (v2 : Int32) (m_flagUnit : Nat → Int32) (Q : Int32 → Prop) : Prop := vp_in v2 80 ∧ ((¬ ((m_flagUnit (Int32.toNatClampNeg v2)) : Int32) = 0) ∧ ((¬ (2 : Int32) = 0) ∧ ((¬ ((v1 / (m_flagUnit (Int32.toNatClampNeg v2))) - (v1 / (m_flagUnit (Int32.toNatClampNeg v2))) / 2 * 2) = 1 → Q 0) ∧ (((v1 / (m_flagUnit (Int32.toNatClampNeg v2))) - (v1 / (m_flagUnit (Int32.toNatClampNeg v2))) / 2 * 2) = 1 → Q 1))))
abbrev rm_X4_isTaken : Room := { frames := 0, cells := 0, slots := 0, locals := 0 }
set_option maxHeartbeats 4000000 in
set_option maxRecDepth 100000 in
theorem c_X4_isTaken (l : Launch) (D : va_G) (a : Nat → Nat) (cI : ClassId) (cZ : ClassId) (cJ : ClassId) (sz : Nat) (m_thrown : Int32) (m_sets : Int32) (m_ways : Int32) (m_penalty : Int32) (m_blocks : Int32) (m_edges : Int32) (m_pairs : Int32) (m_lines : Int32) (m_isFresh : Int32) (m_isAnswer : Int32) (m_time : Nat → Int32) (m_touchMany : Nat → Int32) (m_touch : Nat → Int32) (m_line : Nat → Int32) (m_from : Nat → Int32) (m_to : Nat → Int32) (m_bound : Nat → Int32) (m_pairA : Nat → Int32) (m_pairB : Nat → Int32) (m_comeTo : Nat → Int32) (m_greatest : Nat → Int32) (m_least : Nat → Int32) (m_nowGreatest : Nat → Int32) (m_nowLeast : Nat → Int32) (m_does : Nat → Int32) (m_mostTime : Nat → Int64) (m_leastTime : Nat → Int64) (m_countUnit : Nat → Int32) (m_flagUnit : Nat → Int32) (m_worst : Nat → Int64) (m_best : Nat → Int64) (m_stack : Nat → Int32) (v1 : Int32) (v2 : Int32) (Q : Int32 → Prop) (h : wp_X4_isTaken v1 v2 m_flagUnit Q) : Met l yX4_isTaken wsX4_isTaken rm_X4_isTaken (va_Pc [.ref (a 0), .int v1, .int v2] (inW D cI cZ cJ sz (wM a cI cZ cJ m_thrown m_sets m_ways m_penalty m_blocks m_edges m_pairs m_lines m_isFresh m_isAnswer m_time m_touchMany m_touch m_line m_from m_to m_bound m_pairA m_pairB m_comeTo m_greatest m_least m_nowGreatest m_nowLeast m_does m_mostTime m_leastTime m_countUnit m_flagUnit m_worst m_best m_stack))) (va_Qi (fun (r : Int32) (u : Unit) => Q r) (fun (u : Unit) => outW D cI cZ cJ (va_A (wM a cI cZ cJ m_thrown m_sets m_ways m_penalty m_blocks m_edges m_pairs m_lines m_isFresh m_isAnswer m_time m_touchMany m_touch m_line m_from m_to m_bound m_pairA m_pairB m_comeTo m_greatest m_least m_nowGreatest m_nowLeast m_does m_mostTime m_leastTime m_countUnit m_flagUnit m_worst m_best m_stack) sz) (wM a cI cZ cJ m_thrown m_sets m_ways m_penalty m_blocks m_edges m_pairs m_lines m_isFresh m_isAnswer m_time m_touchMany m_touch m_line m_from m_to m_bound m_pairA m_pairB m_comeTo m_greatest m_least m_nowGreatest m_nowLeast m_does m_mostTime m_leastTime m_countUnit m_flagUnit m_worst m_best m_stack)) (va_A (wM a cI cZ cJ m_thrown m_sets m_ways m_penalty m_blocks m_edges m_pairs m_lines m_isFresh m_isAnswer m_time m_touchMany m_touch m_line m_from m_to m_bound m_pairA m_pairB m_comeTo m_greatest m_least m_nowGreatest m_nowLeast m_does m_mostTime m_leastTime m_countUnit m_flagUnit m_worst m_best m_stack) sz)) 0 0 (va_A (wM a cI cZ cJ m_thrown m_sets m_ways m_penalty m_blocks m_edges m_pairs m_lines m_isFresh m_isAnswer m_time m_touchMany m_touch m_line m_from m_to m_bound m_pairA m_pairB m_comeTo m_greatest m_least m_nowGreatest m_nowLeast m_does m_mostTime m_leastTime m_countUnit m_flagUnit m_worst m_best m_stack) sz) := by
  refine Met.ofW (cc := cX4_isTaken) (maxL := 3) (ret := (some .boolean)) (by decide +kernel) rfl ?_
  intro p e s m args below meth c s₁ B hml hv
  obtain ⟨rfl, hsz, hP, hK, hD0⟩ := hv
  have hx := B.exec
  have hb := B.bytes
  have hr := B.returns
  have hts := atoms_spec (ws := wsX4_isTaken) B.pre
  have hown : s.vm.findClass RX4 = some m.cls := findClass_of_methodNamed B.named
  have hlocks := B.notSynchronized
  have hinX4 : ∀ w ∈ wsX40, w ∈ wsX4_isTaken := by decide +kernel
  subst hsz
  have hD := hD0.self (sz := s.heap.size)
  generalize hAe : va_A (wM a cI cZ cJ m_thrown m_sets m_ways m_penalty m_blocks m_edges m_pairs m_lines m_isFresh m_isAnswer m_time m_touchMany m_touch m_line m_from m_to m_bound m_pairA m_pairB m_comeTo m_greatest m_least m_nowGreatest m_nowLeast m_does m_mostTime m_leastTime m_countUnit m_flagUnit m_worst m_best m_stack) s.heap.size = A at hD ⊢
  have hA : ∀ q : Nat, s.heap.size ≤ q → A q := fun q h => by rw [← hAe]; exact Or.inr h
  have hS : va_S A s.heap s.heap [] := va_S.rf
  have hP : va_P D vwCl (wM a cI cZ cJ m_thrown m_sets m_ways m_penalty m_blocks m_edges m_pairs m_lines m_isFresh m_isAnswer m_time m_touchMany m_touch m_line m_from m_to m_bound m_pairA m_pairB m_comeTo m_greatest m_least m_nowGreatest m_nowLeast m_does m_mostTime m_leastTime m_countUnit m_flagUnit m_worst m_best m_stack) s.heap := hP
  have hl := lv_entry ([.ref (a 0), .int v1, .int v2]) (n := 3) (Nat.le_of_ble_eq_true rfl)
  rw [lg_entry_eq]
  generalize (lg_sl ([.ref (a 0), .int v1, .int v2]) ++ List.replicate (3 - (lg_sl ([.ref (a 0), .int v1, .int v2])).length) Slot.unset).toArray = ls at hl ⊢
  have hl : lv_has ls 3 [(0, .ref (a 0)), (1, .int v1), (2, .int v2)] := hl
  refine wz_abs (fun Qz hQz => ?_)
  unfold wp_X4_isTaken at h
  refine lv_iload_n hx hb dX4_isTaken_0 rfl (lv_at hl 1 rfl) ?_
  refine lv_aload_n hx hb dX4_isTaken_1 rfl (lv_at hl 0 rfl) ?_
  refine va_get (D := D) (ci := 4) (v := .ref (a 19)) (C := RX4) (T := TX4) (N := 32) hx hb hts hinX4 hown hK hP 0 rfl rfl 28 (by decide) (hts (.fieldLink RX4 66 "WorstPathsModel" "flagUnit" "[I") (by decide +kernel)) (fun _ h9 => h9) rfl dX4_isTaken_2 ?_
  refine lv_iload_n hx hb dX4_isTaken_5 rfl (lv_at hl 2 rfl) ?_
  obtain ⟨hq, h⟩ := h
  refine va_iald (D := D) hx hb hK hP 19 0 rfl rfl hq dX4_isTaken_6 ?_
  obtain ⟨hq, h⟩ := h
  refine lv_idiv hx hb dX4_isTaken_7 hq ?_
  refine lv_iconst (v := 2) hx hb dX4_isTaken_8 (by decide) ?_
  obtain ⟨hq, h⟩ := h
  refine lv_irem hx hb dX4_isTaken_9 hq ?_
  refine lv_iconst (v := 1) hx hb dX4_isTaken_10 (by decide) ?_
  refine lv_icmp_ne (tgt := 18) hx hb dX4_isTaken_11 (by decide) (fun hc => ?_) (fun hc => ?_)
  · replace h := h.1 hc
    refine lv_iconst (v := 0) hx hb dX4_isTaken_18 (by decide) ?_
    refine wz_mono hQz ?_
    exact W.zret (v := 0) hx hb hr rfl (fun t ht hW => ⟨⟨0, (), rfl, h, by rw [ht]; exact hP, va_K.moved hW.alike hK, hD⟩, hS.F ht⟩) hS.2.2 dX4_isTaken_19
  · replace h := h.2 hc
    refine lv_iconst (v := 1) hx hb dX4_isTaken_14 (by decide) ?_
    refine lv_goto (tgt := 19) hx hb dX4_isTaken_15 (by decide) ?_
    refine wz_mono hQz ?_
    exact W.zret (v := 1) hx hb hr rfl (fun t ht hW => ⟨⟨1, (), rfl, h, by rw [ht]; exact hP, va_K.moved hW.alike hK, hD⟩, hS.F ht⟩) hS.2.2 dX4_isTaken_19
def jn_X4_allows_81 (v1 : Int32) (v2 : Int32) (v4 : Int32) (m_pairs : Int32) (m_bound : Nat → Int32) (m_pairA : Nat → Int32) (m_pairB : Nat → Int32) (m_countUnit : Nat → Int32) (m_flagUnit : Nat → Int32) (K42 : Int32 → Int32 → Prop) (Q : Int32 → Prop) : Prop := vp_in v4 3 ∧ ((¬ (m_pairB (Int32.toNatClampNeg v4)) = v2 → K42 1 (v4 + 1)) ∧ ((m_pairB (Int32.toNatClampNeg v4)) = v2 → vp_in v4 3 ∧ (wp_X4_isTaken v1 (m_pairA (Int32.toNatClampNeg v4)) m_flagUnit (fun r_101 => (¬ r_101 = 0 → K42 0 (v4 + 1)) ∧ (r_101 = 0 → K42 1 (v4 + 1))))))
def lp_X4_allows_42 (v1 : Int32) (v2 : Int32) (m_pairs : Int32) (m_bound : Nat → Int32) (m_pairA : Nat → Int32) (m_pairB : Nat → Int32) (m_countUnit : Nat → Int32) (m_flagUnit : Nat → Int32) (Q : Int32 → Prop) : Nat → Int32 → Int32 → Prop
  | 0, _, _ => False
  | n + 1, v3, v4 => (m_pairs ≤ v4 → (narrow .boolean (.int v3) = .int v3) ∧ Q v3) ∧ (¬ m_pairs ≤ v4 → (v3 = 0 → (lp_X4_allows_42 v1 v2 m_pairs m_bound m_pairA m_pairB m_countUnit m_flagUnit Q n) 0 (v4 + 1)) ∧ (¬ v3 = 0 → vp_in v4 3 ∧ ((¬ (m_pairA (Int32.toNatClampNeg v4)) = v2 → jn_X4_allows_81 v1 v2 v4 m_pairs m_bound m_pairA m_pairB m_countUnit m_flagUnit (lp_X4_allows_42 v1 v2 m_pairs m_bound m_pairA m_pairB m_countUnit m_flagUnit Q n) Q) ∧ ((m_pairA (Int32.toNatClampNeg v4)) = v2 → vp_in v4 3 ∧ (wp_X4_isTaken v1 (m_pairB (Int32.toNatClampNeg v4)) m_flagUnit (fun r_75 => (¬ r_75 = 0 → (lp_X4_allows_42 v1 v2 m_pairs m_bound m_pairA m_pairB m_countUnit m_flagUnit Q n) 0 (v4 + 1)) ∧ (r_75 = 0 → jn_X4_allows_81 v1 v2 v4 m_pairs m_bound m_pairA m_pairB m_countUnit m_flagUnit (lp_X4_allows_42 v1 v2 m_pairs m_bound m_pairA m_pairB m_countUnit m_flagUnit Q n) Q)))))))
def wp_X4_allows (v1 : Int32) (v2 : Int32) (m_pairs : Int32) (m_bound : Nat → Int32) (m_pairA : Nat → Int32) (m_pairB : Nat → Int32) (m_countUnit : Nat → Int32) (m_flagUnit : Nat → Int32) (Q : Int32 → Prop) : Prop := vp_in v2 80 ∧ (((m_bound (Int32.toNatClampNeg v2)) < 0 → ∃ k42, lp_X4_allows_42 v1 v2 m_pairs m_bound m_pairA m_pairB m_countUnit m_flagUnit Q k42 1 0) ∧ (¬ (m_bound (Int32.toNatClampNeg v2)) < 0 → vp_in v2 80 ∧ ((¬ ((m_countUnit (Int32.toNatClampNeg v2)) : Int32) = 0) ∧ (vp_in v2 80 ∧ ((¬ (((m_bound (Int32.toNatClampNeg v2)) + 1) : Int32) = 0) ∧ (vp_in v2 80 ∧ ((¬ ((v1 / (m_countUnit (Int32.toNatClampNeg v2))) - (v1 / (m_countUnit (Int32.toNatClampNeg v2))) / ((m_bound (Int32.toNatClampNeg v2)) + 1) * ((m_bound (Int32.toNatClampNeg v2)) + 1)) = (m_bound (Int32.toNatClampNeg v2)) → ∃ k42, lp_X4_allows_42 v1 v2 m_pairs m_bound m_pairA m_pairB m_countUnit m_flagUnit Q k42 1 0) ∧ (((v1 / (m_countUnit (Int32.toNatClampNeg v2))) - (v1 / (m_countUnit (Int32.toNatClampNeg v2))) / ((m_bound (Int32.toNatClampNeg v2)) + 1) * ((m_bound (Int32.toNatClampNeg v2)) + 1)) = (m_bound (Int32.toNatClampNeg v2)) → Q 0))))))))
abbrev rm_X4_allows : Room := { frames := 1, cells := 0, slots := 0, locals := 22 }
set_option maxHeartbeats 4000000 in
set_option maxRecDepth 100000 in
theorem c_X4_allows (l : Launch) (D : va_G) (a : Nat → Nat) (cI : ClassId) (cZ : ClassId) (cJ : ClassId) (sz : Nat) (m_thrown : Int32) (m_sets : Int32) (m_ways : Int32) (m_penalty : Int32) (m_blocks : Int32) (m_edges : Int32) (m_pairs : Int32) (m_lines : Int32) (m_isFresh : Int32) (m_isAnswer : Int32) (m_time : Nat → Int32) (m_touchMany : Nat → Int32) (m_touch : Nat → Int32) (m_line : Nat → Int32) (m_from : Nat → Int32) (m_to : Nat → Int32) (m_bound : Nat → Int32) (m_pairA : Nat → Int32) (m_pairB : Nat → Int32) (m_comeTo : Nat → Int32) (m_greatest : Nat → Int32) (m_least : Nat → Int32) (m_nowGreatest : Nat → Int32) (m_nowLeast : Nat → Int32) (m_does : Nat → Int32) (m_mostTime : Nat → Int64) (m_leastTime : Nat → Int64) (m_countUnit : Nat → Int32) (m_flagUnit : Nat → Int32) (m_worst : Nat → Int64) (m_best : Nat → Int64) (m_stack : Nat → Int32) (v1 : Int32) (v2 : Int32) (Q : Int32 → Prop) (h : wp_X4_allows v1 v2 m_pairs m_bound m_pairA m_pairB m_countUnit m_flagUnit Q) : Met l yX4_allows wsX4_allows rm_X4_allows (va_Pc [.ref (a 0), .int v1, .int v2] (inW D cI cZ cJ sz (wM a cI cZ cJ m_thrown m_sets m_ways m_penalty m_blocks m_edges m_pairs m_lines m_isFresh m_isAnswer m_time m_touchMany m_touch m_line m_from m_to m_bound m_pairA m_pairB m_comeTo m_greatest m_least m_nowGreatest m_nowLeast m_does m_mostTime m_leastTime m_countUnit m_flagUnit m_worst m_best m_stack))) (va_Qi (fun (r : Int32) (u : Unit) => Q r) (fun (u : Unit) => outW D cI cZ cJ (va_A (wM a cI cZ cJ m_thrown m_sets m_ways m_penalty m_blocks m_edges m_pairs m_lines m_isFresh m_isAnswer m_time m_touchMany m_touch m_line m_from m_to m_bound m_pairA m_pairB m_comeTo m_greatest m_least m_nowGreatest m_nowLeast m_does m_mostTime m_leastTime m_countUnit m_flagUnit m_worst m_best m_stack) sz) (wM a cI cZ cJ m_thrown m_sets m_ways m_penalty m_blocks m_edges m_pairs m_lines m_isFresh m_isAnswer m_time m_touchMany m_touch m_line m_from m_to m_bound m_pairA m_pairB m_comeTo m_greatest m_least m_nowGreatest m_nowLeast m_does m_mostTime m_leastTime m_countUnit m_flagUnit m_worst m_best m_stack)) (va_A (wM a cI cZ cJ m_thrown m_sets m_ways m_penalty m_blocks m_edges m_pairs m_lines m_isFresh m_isAnswer m_time m_touchMany m_touch m_line m_from m_to m_bound m_pairA m_pairB m_comeTo m_greatest m_least m_nowGreatest m_nowLeast m_does m_mostTime m_leastTime m_countUnit m_flagUnit m_worst m_best m_stack) sz)) 0 0 (va_A (wM a cI cZ cJ m_thrown m_sets m_ways m_penalty m_blocks m_edges m_pairs m_lines m_isFresh m_isAnswer m_time m_touchMany m_touch m_line m_from m_to m_bound m_pairA m_pairB m_comeTo m_greatest m_least m_nowGreatest m_nowLeast m_does m_mostTime m_leastTime m_countUnit m_flagUnit m_worst m_best m_stack) sz) := by
  refine Met.ofW (cc := cX4_allows) (maxL := 5) (ret := (some .boolean)) (by decide +kernel) rfl ?_
  intro p e s m args below meth c s₁ B hml hv
  obtain ⟨rfl, hsz, hP, hK, hD0⟩ := hv
  have hx := B.exec
  have hb := B.bytes
  have hr := B.returns
  have hts := atoms_spec (ws := wsX4_allows) B.pre
  have hown : s.vm.findClass RX4 = some m.cls := findClass_of_methodNamed B.named
  have hlocks := B.notSynchronized
  have hinX4 : ∀ w ∈ wsX40, w ∈ wsX4_allows := by decide +kernel
  subst hsz
  have hD := hD0.self (sz := s.heap.size)
  generalize hAe : va_A (wM a cI cZ cJ m_thrown m_sets m_ways m_penalty m_blocks m_edges m_pairs m_lines m_isFresh m_isAnswer m_time m_touchMany m_touch m_line m_from m_to m_bound m_pairA m_pairB m_comeTo m_greatest m_least m_nowGreatest m_nowLeast m_does m_mostTime m_leastTime m_countUnit m_flagUnit m_worst m_best m_stack) s.heap.size = A at hD ⊢
  have hA : ∀ q : Nat, s.heap.size ≤ q → A q := fun q h => by rw [← hAe]; exact Or.inr h
  have hS : va_S A s.heap s.heap [] := va_S.rf
  have hP : va_P D vwCl (wM a cI cZ cJ m_thrown m_sets m_ways m_penalty m_blocks m_edges m_pairs m_lines m_isFresh m_isAnswer m_time m_touchMany m_touch m_line m_from m_to m_bound m_pairA m_pairB m_comeTo m_greatest m_least m_nowGreatest m_nowLeast m_does m_mostTime m_leastTime m_countUnit m_flagUnit m_worst m_best m_stack) s.heap := hP
  have hl := lv_entry ([.ref (a 0), .int v1, .int v2]) (n := 5) (Nat.le_of_ble_eq_true rfl)
  rw [lg_entry_eq]
  generalize (lg_sl ([.ref (a 0), .int v1, .int v2]) ++ List.replicate (5 - (lg_sl ([.ref (a 0), .int v1, .int v2])).length) Slot.unset).toArray = ls at hl ⊢
  have hl : lv_has ls 5 [(0, .ref (a 0)), (1, .int v1), (2, .int v2)] := hl
  refine wz_abs (fun Qz hQz => ?_)
  unfold wp_X4_allows at h
  refine lv_aload_n hx hb dX4_allows_0 rfl (lv_at hl 0 rfl) ?_
  refine va_get (D := D) (ci := 4) (v := .ref (a 7)) (C := RX4) (T := TX4) (N := 32) hx hb hts hinX4 hown hK hP 0 rfl rfl 14 (by decide) (hts (.fieldLink RX4 28 "WorstPathsModel" "bound" "[I") (by decide +kernel)) (fun _ h9 => h9) rfl dX4_allows_1 ?_
  refine lv_iload_n hx hb dX4_allows_4 rfl (lv_at hl 2 rfl) ?_
  obtain ⟨hq, h⟩ := h
  refine va_iald (D := D) hx hb hK hP 7 0 rfl rfl hq dX4_allows_5 ?_
  refine lv_if_lt (tgt := 37) hx hb dX4_allows_6 (by decide) (fun hc => ?_) (fun hc => ?_)
  · replace h := h.1 hc
    refine lv_iconst (v := 1) hx hb dX4_allows_37 (by decide) ?_
    refine lv_istore_n (lv' := [(3, .int 1), (0, .ref (a 0)), (1, .int v1), (2, .int v2)]) hx hb dX4_allows_38 rfl hl (by decide) rfl (fun ls hl => ?_)
    refine lv_iconst (v := 0) hx hb dX4_allows_39 (by decide) ?_
    refine lv_istore (lv' := [(4, .int 0), (3, .int 1), (0, .ref (a 0)), (1, .int v1), (2, .int v2)]) hx hb dX4_allows_40 hl (by decide) rfl (fun ls hl => ?_)
    have LP42 : ∀ (n42 : Nat) (v3_42 : Int32) (v4_42 : Int32), lp_X4_allows_42 v1 v2 m_pairs m_bound m_pairA m_pairB m_countUnit m_flagUnit Q n42 v3_42 v4_42 → ∀ (H : Heap) (locs : List Loc), va_P D vwCl (wM a cI cZ cJ m_thrown m_sets m_ways m_penalty m_blocks m_edges m_pairs m_lines m_isFresh m_isAnswer m_time m_touchMany m_touch m_line m_from m_to m_bound m_pairA m_pairB m_comeTo m_greatest m_least m_nowGreatest m_nowLeast m_does m_mostTime m_leastTime m_countUnit m_flagUnit m_worst m_best m_stack) H → va_D A (wM a cI cZ cJ m_thrown m_sets m_ways m_penalty m_blocks m_edges m_pairs m_lines m_isFresh m_isAnswer m_time m_touchMany m_touch m_line m_from m_to m_bound m_pairA m_pairB m_comeTo m_greatest m_least m_nowGreatest m_nowLeast m_does m_mostTime m_leastTime m_countUnit m_flagUnit m_worst m_best m_stack) → va_S A s.heap H locs → ∀ (ls : Array Slot), lv_has ls 5 [(0, .ref (a 0)), (1, .int v1), (2, .int v2), (3, .int v3_42), (4, .int v4_42)] → W p l e (headSpec wsX4_allows rm_X4_allows).room s m ([Value.ref (a 0), Value.int v1, Value.int v2] : List Value).toArray below meth c H locs 0 0 Qz (F0 m 42 ls []) := by
      intro n42
      induction n42 with
      | zero => intro v3_42 v4_42 h; exact h.elim
      | succ n42 ih42 =>
        intro v3_42 v4_42 h H locs hP hD hS ls hl
        unfold lp_X4_allows_42 at h
        refine lv_iload hx hb dX4_allows_42 (lv_at hl 4 rfl) ?_
        refine lv_aload_n hx hb dX4_allows_44 rfl (lv_at hl 0 rfl) ?_
        refine va_get (D := D) (ci := 4) (v := .int m_pairs) (C := RX4) (T := TX4) (N := 32) hx hb hts hinX4 hown hK hP 0 rfl rfl 6 (by decide) (hts (.fieldLink RX4 122 "WorstPathsModel" "pairs" "I") (by decide +kernel)) (fun _ h9 => h9) rfl dX4_allows_45 ?_
        refine lv_icmp_ge (tgt := 119) hx hb dX4_allows_48 (by decide) (fun hc => ?_) (fun hc => ?_)
        · replace h := h.1 hc
          refine lv_iload_n hx hb dX4_allows_119 rfl (lv_at hl 3 rfl) ?_
          refine wz_mono hQz ?_
          obtain ⟨hn9, h⟩ := h
          exact W.zret (v := v3_42) hx hb hr hn9 (fun t ht hW => ⟨⟨v3_42, (), rfl, h, by rw [ht]; exact hP, va_K.moved hW.alike hK, hD⟩, hS.F ht⟩) hS.2.2 dX4_allows_120
        · replace h := h.2 hc
          refine lv_iload_n hx hb dX4_allows_51 rfl (lv_at hl 3 rfl) ?_
          refine lv_if_eq (tgt := 111) hx hb dX4_allows_52 (by decide) (fun hc => ?_) (fun hc => ?_)
          · replace h := h.1 hc
            refine lv_iconst (v := 0) hx hb dX4_allows_111 (by decide) ?_
            refine lv_istore_n (lv' := [(3, .int 0), (0, .ref (a 0)), (1, .int v1), (2, .int v2), (4, .int v4_42)]) hx hb dX4_allows_112 rfl hl (by decide) rfl (fun ls hl => ?_)
            refine lv_iinc (v := (v4_42 + 1)) (lv' := [(4, .int (v4_42 + 1)), (3, .int 0), (0, .ref (a 0)), (1, .int v1), (2, .int v2)]) hx hb dX4_allows_113 hl (k := 4) rfl rfl (by decide) rfl (fun ls hl => ?_)
            refine lv_goto (tgt := 42) hx hb dX4_allows_116 (by decide) ?_
            exact ih42 0 (v4_42 + 1) h _ _ hP hD hS _ (lv_sub hl [2, 3, 4, 1, 0] rfl)
          · replace h := h.2 hc
            refine lv_aload_n hx hb dX4_allows_55 rfl (lv_at hl 0 rfl) ?_
            refine va_get (D := D) (ci := 4) (v := .ref (a 8)) (C := RX4) (T := TX4) (N := 32) hx hb hts hinX4 hown hK hP 0 rfl rfl 15 (by decide) (hts (.fieldLink RX4 31 "WorstPathsModel" "pairA" "[I") (by decide +kernel)) (fun _ h9 => h9) rfl dX4_allows_56 ?_
            refine lv_iload hx hb dX4_allows_59 (lv_at hl 4 rfl) ?_
            obtain ⟨hq, h⟩ := h
            refine va_iald (D := D) hx hb hK hP 8 0 rfl rfl hq dX4_allows_61 ?_
            refine lv_iload_n hx hb dX4_allows_62 rfl (lv_at hl 2 rfl) ?_
            have JP81 : jn_X4_allows_81 v1 v2 v4_42 m_pairs m_bound m_pairA m_pairB m_countUnit m_flagUnit (lp_X4_allows_42 v1 v2 m_pairs m_bound m_pairA m_pairB m_countUnit m_flagUnit Q n42) Q → ∀ (H : Heap) (locs : List Loc), va_P D vwCl (wM a cI cZ cJ m_thrown m_sets m_ways m_penalty m_blocks m_edges m_pairs m_lines m_isFresh m_isAnswer m_time m_touchMany m_touch m_line m_from m_to m_bound m_pairA m_pairB m_comeTo m_greatest m_least m_nowGreatest m_nowLeast m_does m_mostTime m_leastTime m_countUnit m_flagUnit m_worst m_best m_stack) H → va_D A (wM a cI cZ cJ m_thrown m_sets m_ways m_penalty m_blocks m_edges m_pairs m_lines m_isFresh m_isAnswer m_time m_touchMany m_touch m_line m_from m_to m_bound m_pairA m_pairB m_comeTo m_greatest m_least m_nowGreatest m_nowLeast m_does m_mostTime m_leastTime m_countUnit m_flagUnit m_worst m_best m_stack) → va_S A s.heap H locs → ∀ (ls : Array Slot), lv_has ls 5 [(0, .ref (a 0)), (1, .int v1), (2, .int v2), (4, .int v4_42)] → W p l e (headSpec wsX4_allows rm_X4_allows).room s m ([Value.ref (a 0), Value.int v1, Value.int v2] : List Value).toArray below meth c H locs 0 0 Qz (F0 m 81 ls []) := by
              intro  h H locs hP hD hS ls hl
              unfold jn_X4_allows_81 at h
              refine lv_aload_n hx hb dX4_allows_81 rfl (lv_at hl 0 rfl) ?_
              refine va_get (D := D) (ci := 4) (v := .ref (a 9)) (C := RX4) (T := TX4) (N := 32) hx hb hts hinX4 hown hK hP 0 rfl rfl 16 (by decide) (hts (.fieldLink RX4 34 "WorstPathsModel" "pairB" "[I") (by decide +kernel)) (fun _ h9 => h9) rfl dX4_allows_82 ?_
              refine lv_iload hx hb dX4_allows_85 (lv_at hl 3 rfl) ?_
              obtain ⟨hq, h⟩ := h
              refine va_iald (D := D) hx hb hK hP 9 0 rfl rfl hq dX4_allows_87 ?_
              refine lv_iload_n hx hb dX4_allows_88 rfl (lv_at hl 2 rfl) ?_
              refine lv_icmp_ne (tgt := 107) hx hb dX4_allows_89 (by decide) (fun hc => ?_) (fun hc => ?_)
              · replace h := h.1 hc
                refine lv_iconst (v := 1) hx hb dX4_allows_107 (by decide) ?_
                refine lv_goto (tgt := 112) hx hb dX4_allows_108 (by decide) ?_
                refine lv_istore_n (lv' := [(3, .int 1), (0, .ref (a 0)), (1, .int v1), (2, .int v2), (4, .int v4_42)]) hx hb dX4_allows_112 rfl hl (by decide) rfl (fun ls hl => ?_)
                refine lv_iinc (v := (v4_42 + 1)) (lv' := [(4, .int (v4_42 + 1)), (3, .int 1), (0, .ref (a 0)), (1, .int v1), (2, .int v2)]) hx hb dX4_allows_113 hl (k := 4) rfl rfl (by decide) rfl (fun ls hl => ?_)
                refine lv_goto (tgt := 42) hx hb dX4_allows_116 (by decide) ?_
                exact ih42 1 (v4_42 + 1) h _ _ hP hD hS _ (lv_sub hl [2, 3, 4, 1, 0] rfl)
              · replace h := h.2 hc
                refine lv_aload_n hx hb dX4_allows_92 rfl (lv_at hl 0 rfl) ?_
                refine lv_iload_n hx hb dX4_allows_93 rfl (lv_at hl 1 rfl) ?_
                refine lv_aload_n hx hb dX4_allows_94 rfl (lv_at hl 0 rfl) ?_
                refine va_get (D := D) (ci := 4) (v := .ref (a 8)) (C := RX4) (T := TX4) (N := 32) hx hb hts hinX4 hown hK hP 0 rfl rfl 15 (by decide) (hts (.fieldLink RX4 31 "WorstPathsModel" "pairA" "[I") (by decide +kernel)) (fun _ h9 => h9) rfl dX4_allows_95 ?_
                refine lv_iload hx hb dX4_allows_98 (lv_at hl 3 rfl) ?_
                obtain ⟨hq, h⟩ := h
                refine va_iald (D := D) hx hb hK hP 8 0 rfl rfl hq dX4_allows_100 ?_
                have hF := wz_free hD hS hA
                refine va_calli (va_runV (As := [.int v1, .int (m_pairA (Int32.toNatClampNeg v4_42))]) (rest := []) ⟨hx, hb, hml, hown, hts⟩ (c_X4_isTaken l D a cI cZ cJ _ m_thrown m_sets m_ways m_penalty m_blocks m_edges m_pairs m_lines m_isFresh m_isAnswer m_time m_touchMany m_touch m_line m_from m_to m_bound m_pairA m_pairB m_comeTo m_greatest m_least m_nowGreatest m_nowLeast m_does m_mostTime m_leastTime m_countUnit m_flagUnit m_worst m_best m_stack v1 (m_pairA (Int32.toNatClampNeg v4_42)) _ h) (cwV 2 hts gX4_allows_X4_isTaken rfl rfl rfl (by decide +kernel) ⟨Nat.le_of_ble_eq_true rfl, Nat.le_of_ble_eq_true rfl⟩) ⟨wz_blind, va_recv hK hP (ci := 4) (q0 := 0) rfl rfl, fun U hU hW => wz_at hU hW hP hK hD⟩ rfl rfl hl.1 rfl (lv_room (Nat.le_of_ble_eq_true rfl)) dX4_allows_101 ⟨Nat.zero_le _, Nat.zero_le _⟩) hS (fun q _ hq => hF q hq) hF (fun r_101 u t H locs ht hvm h hB hz1 hk1 hS => ?_)
                obtain ⟨hP, -, hD⟩ := wz_back ht hF hB
                have hP : va_P D vwCl (wM a cI cZ cJ m_thrown m_sets m_ways m_penalty m_blocks m_edges m_pairs m_lines m_isFresh m_isAnswer m_time m_touchMany m_touch m_line m_from m_to m_bound m_pairA m_pairB m_comeTo m_greatest m_least m_nowGreatest m_nowLeast m_does m_mostTime m_leastTime m_countUnit m_flagUnit m_worst m_best m_stack) H := hP
                have hD : va_D A (wM a cI cZ cJ m_thrown m_sets m_ways m_penalty m_blocks m_edges m_pairs m_lines m_isFresh m_isAnswer m_time m_touchMany m_touch m_line m_from m_to m_bound m_pairA m_pairB m_comeTo m_greatest m_least m_nowGreatest m_nowLeast m_does m_mostTime m_leastTime m_countUnit m_flagUnit m_worst m_best m_stack) := hD
                refine lv_if_ne (tgt := 111) hx hb dX4_allows_104 (by decide) (fun hc => ?_) (fun hc => ?_)
                · replace h := h.1 hc
                  refine lv_iconst (v := 0) hx hb dX4_allows_111 (by decide) ?_
                  refine lv_istore_n (lv' := [(3, .int 0), (0, .ref (a 0)), (1, .int v1), (2, .int v2), (4, .int v4_42)]) hx hb dX4_allows_112 rfl hl (by decide) rfl (fun ls hl => ?_)
                  refine lv_iinc (v := (v4_42 + 1)) (lv' := [(4, .int (v4_42 + 1)), (3, .int 0), (0, .ref (a 0)), (1, .int v1), (2, .int v2)]) hx hb dX4_allows_113 hl (k := 4) rfl rfl (by decide) rfl (fun ls hl => ?_)
                  refine lv_goto (tgt := 42) hx hb dX4_allows_116 (by decide) ?_
                  exact ih42 0 (v4_42 + 1) h _ _ hP hD hS _ (lv_sub hl [2, 3, 4, 1, 0] rfl)
                · replace h := h.2 hc
                  refine lv_iconst (v := 1) hx hb dX4_allows_107 (by decide) ?_
                  refine lv_goto (tgt := 112) hx hb dX4_allows_108 (by decide) ?_
                  refine lv_istore_n (lv' := [(3, .int 1), (0, .ref (a 0)), (1, .int v1), (2, .int v2), (4, .int v4_42)]) hx hb dX4_allows_112 rfl hl (by decide) rfl (fun ls hl => ?_)
                  refine lv_iinc (v := (v4_42 + 1)) (lv' := [(4, .int (v4_42 + 1)), (3, .int 1), (0, .ref (a 0)), (1, .int v1), (2, .int v2)]) hx hb dX4_allows_113 hl (k := 4) rfl rfl (by decide) rfl (fun ls hl => ?_)
                  refine lv_goto (tgt := 42) hx hb dX4_allows_116 (by decide) ?_
                  exact ih42 1 (v4_42 + 1) h _ _ hP hD hS _ (lv_sub hl [2, 3, 4, 1, 0] rfl)
            refine lv_icmp_ne (tgt := 81) hx hb dX4_allows_63 (by decide) (fun hc => ?_) (fun hc => ?_)
            · replace h := h.1 hc
              exact JP81  h _ _ hP hD hS _ (lv_sub hl [0, 1, 2, 4] rfl)
            · replace h := h.2 hc
              refine lv_aload_n hx hb dX4_allows_66 rfl (lv_at hl 0 rfl) ?_
              refine lv_iload_n hx hb dX4_allows_67 rfl (lv_at hl 1 rfl) ?_
              refine lv_aload_n hx hb dX4_allows_68 rfl (lv_at hl 0 rfl) ?_
              refine va_get (D := D) (ci := 4) (v := .ref (a 9)) (C := RX4) (T := TX4) (N := 32) hx hb hts hinX4 hown hK hP 0 rfl rfl 16 (by decide) (hts (.fieldLink RX4 34 "WorstPathsModel" "pairB" "[I") (by decide +kernel)) (fun _ h9 => h9) rfl dX4_allows_69 ?_
              refine lv_iload hx hb dX4_allows_72 (lv_at hl 4 rfl) ?_
              obtain ⟨hq, h⟩ := h
              refine va_iald (D := D) hx hb hK hP 9 0 rfl rfl hq dX4_allows_74 ?_
              have hF := wz_free hD hS hA
              refine va_calli (va_runV (As := [.int v1, .int (m_pairB (Int32.toNatClampNeg v4_42))]) (rest := []) ⟨hx, hb, hml, hown, hts⟩ (c_X4_isTaken l D a cI cZ cJ _ m_thrown m_sets m_ways m_penalty m_blocks m_edges m_pairs m_lines m_isFresh m_isAnswer m_time m_touchMany m_touch m_line m_from m_to m_bound m_pairA m_pairB m_comeTo m_greatest m_least m_nowGreatest m_nowLeast m_does m_mostTime m_leastTime m_countUnit m_flagUnit m_worst m_best m_stack v1 (m_pairB (Int32.toNatClampNeg v4_42)) _ h) (cwV 2 hts gX4_allows_X4_isTaken rfl rfl rfl (by decide +kernel) ⟨Nat.le_of_ble_eq_true rfl, Nat.le_of_ble_eq_true rfl⟩) ⟨wz_blind, va_recv hK hP (ci := 4) (q0 := 0) rfl rfl, fun U hU hW => wz_at hU hW hP hK hD⟩ rfl rfl hl.1 rfl (lv_room (Nat.le_of_ble_eq_true rfl)) dX4_allows_75 ⟨Nat.zero_le _, Nat.zero_le _⟩) hS (fun q _ hq => hF q hq) hF (fun r_75 u t H locs ht hvm h hB hz1 hk1 hS => ?_)
              obtain ⟨hP, -, hD⟩ := wz_back ht hF hB
              have hP : va_P D vwCl (wM a cI cZ cJ m_thrown m_sets m_ways m_penalty m_blocks m_edges m_pairs m_lines m_isFresh m_isAnswer m_time m_touchMany m_touch m_line m_from m_to m_bound m_pairA m_pairB m_comeTo m_greatest m_least m_nowGreatest m_nowLeast m_does m_mostTime m_leastTime m_countUnit m_flagUnit m_worst m_best m_stack) H := hP
              have hD : va_D A (wM a cI cZ cJ m_thrown m_sets m_ways m_penalty m_blocks m_edges m_pairs m_lines m_isFresh m_isAnswer m_time m_touchMany m_touch m_line m_from m_to m_bound m_pairA m_pairB m_comeTo m_greatest m_least m_nowGreatest m_nowLeast m_does m_mostTime m_leastTime m_countUnit m_flagUnit m_worst m_best m_stack) := hD
              refine lv_if_ne (tgt := 111) hx hb dX4_allows_78 (by decide) (fun hc => ?_) (fun hc => ?_)
              · replace h := h.1 hc
                refine lv_iconst (v := 0) hx hb dX4_allows_111 (by decide) ?_
                refine lv_istore_n (lv' := [(3, .int 0), (0, .ref (a 0)), (1, .int v1), (2, .int v2), (4, .int v4_42)]) hx hb dX4_allows_112 rfl hl (by decide) rfl (fun ls hl => ?_)
                refine lv_iinc (v := (v4_42 + 1)) (lv' := [(4, .int (v4_42 + 1)), (3, .int 0), (0, .ref (a 0)), (1, .int v1), (2, .int v2)]) hx hb dX4_allows_113 hl (k := 4) rfl rfl (by decide) rfl (fun ls hl => ?_)
                refine lv_goto (tgt := 42) hx hb dX4_allows_116 (by decide) ?_
                exact ih42 0 (v4_42 + 1) h _ _ hP hD hS _ (lv_sub hl [2, 3, 4, 1, 0] rfl)
              · replace h := h.2 hc
                exact JP81  h _ _ hP hD hS _ (lv_sub hl [0, 1, 2, 4] rfl)
    obtain ⟨k9, h⟩ := h
    exact LP42 k9 1 0 h _ _ hP hD hS _ (lv_sub hl [2, 3, 4, 1, 0] rfl)
  · replace h := h.2 hc
    refine lv_iload_n hx hb dX4_allows_9 rfl (lv_at hl 1 rfl) ?_
    refine lv_aload_n hx hb dX4_allows_10 rfl (lv_at hl 0 rfl) ?_
    refine va_get (D := D) (ci := 4) (v := .ref (a 18)) (C := RX4) (T := TX4) (N := 32) hx hb hts hinX4 hown hK hP 0 rfl rfl 27 (by decide) (hts (.fieldLink RX4 63 "WorstPathsModel" "countUnit" "[I") (by decide +kernel)) (fun _ h9 => h9) rfl dX4_allows_11 ?_
    refine lv_iload_n hx hb dX4_allows_14 rfl (lv_at hl 2 rfl) ?_
    obtain ⟨hq, h⟩ := h
    refine va_iald (D := D) hx hb hK hP 18 0 rfl rfl hq dX4_allows_15 ?_
    obtain ⟨hq, h⟩ := h
    refine lv_idiv hx hb dX4_allows_16 hq ?_
    refine lv_aload_n hx hb dX4_allows_17 rfl (lv_at hl 0 rfl) ?_
    refine va_get (D := D) (ci := 4) (v := .ref (a 7)) (C := RX4) (T := TX4) (N := 32) hx hb hts hinX4 hown hK hP 0 rfl rfl 14 (by decide) (hts (.fieldLink RX4 28 "WorstPathsModel" "bound" "[I") (by decide +kernel)) (fun _ h9 => h9) rfl dX4_allows_18 ?_
    refine lv_iload_n hx hb dX4_allows_21 rfl (lv_at hl 2 rfl) ?_
    obtain ⟨hq, h⟩ := h
    refine va_iald (D := D) hx hb hK hP 7 0 rfl rfl hq dX4_allows_22 ?_
    refine lv_iconst (v := 1) hx hb dX4_allows_23 (by decide) ?_
    refine lv_iadd hx hb dX4_allows_24 ?_
    obtain ⟨hq, h⟩ := h
    refine lv_irem hx hb dX4_allows_25 hq ?_
    refine lv_aload_n hx hb dX4_allows_26 rfl (lv_at hl 0 rfl) ?_
    refine va_get (D := D) (ci := 4) (v := .ref (a 7)) (C := RX4) (T := TX4) (N := 32) hx hb hts hinX4 hown hK hP 0 rfl rfl 14 (by decide) (hts (.fieldLink RX4 28 "WorstPathsModel" "bound" "[I") (by decide +kernel)) (fun _ h9 => h9) rfl dX4_allows_27 ?_
    refine lv_iload_n hx hb dX4_allows_30 rfl (lv_at hl 2 rfl) ?_
    obtain ⟨hq, h⟩ := h
    refine va_iald (D := D) hx hb hK hP 7 0 rfl rfl hq dX4_allows_31 ?_
    refine lv_icmp_ne (tgt := 37) hx hb dX4_allows_32 (by decide) (fun hc => ?_) (fun hc => ?_)
    · replace h := h.1 hc
      refine lv_iconst (v := 1) hx hb dX4_allows_37 (by decide) ?_
      refine lv_istore_n (lv' := [(3, .int 1), (0, .ref (a 0)), (1, .int v1), (2, .int v2)]) hx hb dX4_allows_38 rfl hl (by decide) rfl (fun ls hl => ?_)
      refine lv_iconst (v := 0) hx hb dX4_allows_39 (by decide) ?_
      refine lv_istore (lv' := [(4, .int 0), (3, .int 1), (0, .ref (a 0)), (1, .int v1), (2, .int v2)]) hx hb dX4_allows_40 hl (by decide) rfl (fun ls hl => ?_)
      have LP42 : ∀ (n42 : Nat) (v3_42 : Int32) (v4_42 : Int32), lp_X4_allows_42 v1 v2 m_pairs m_bound m_pairA m_pairB m_countUnit m_flagUnit Q n42 v3_42 v4_42 → ∀ (H : Heap) (locs : List Loc), va_P D vwCl (wM a cI cZ cJ m_thrown m_sets m_ways m_penalty m_blocks m_edges m_pairs m_lines m_isFresh m_isAnswer m_time m_touchMany m_touch m_line m_from m_to m_bound m_pairA m_pairB m_comeTo m_greatest m_least m_nowGreatest m_nowLeast m_does m_mostTime m_leastTime m_countUnit m_flagUnit m_worst m_best m_stack) H → va_D A (wM a cI cZ cJ m_thrown m_sets m_ways m_penalty m_blocks m_edges m_pairs m_lines m_isFresh m_isAnswer m_time m_touchMany m_touch m_line m_from m_to m_bound m_pairA m_pairB m_comeTo m_greatest m_least m_nowGreatest m_nowLeast m_does m_mostTime m_leastTime m_countUnit m_flagUnit m_worst m_best m_stack) → va_S A s.heap H locs → ∀ (ls : Array Slot), lv_has ls 5 [(0, .ref (a 0)), (1, .int v1), (2, .int v2), (3, .int v3_42), (4, .int v4_42)] → W p l e (headSpec wsX4_allows rm_X4_allows).room s m ([Value.ref (a 0), Value.int v1, Value.int v2] : List Value).toArray below meth c H locs 0 0 Qz (F0 m 42 ls []) := by
        intro n42
        induction n42 with
        | zero => intro v3_42 v4_42 h; exact h.elim
        | succ n42 ih42 =>
          intro v3_42 v4_42 h H locs hP hD hS ls hl
          unfold lp_X4_allows_42 at h
          refine lv_iload hx hb dX4_allows_42 (lv_at hl 4 rfl) ?_
          refine lv_aload_n hx hb dX4_allows_44 rfl (lv_at hl 0 rfl) ?_
          refine va_get (D := D) (ci := 4) (v := .int m_pairs) (C := RX4) (T := TX4) (N := 32) hx hb hts hinX4 hown hK hP 0 rfl rfl 6 (by decide) (hts (.fieldLink RX4 122 "WorstPathsModel" "pairs" "I") (by decide +kernel)) (fun _ h9 => h9) rfl dX4_allows_45 ?_
          refine lv_icmp_ge (tgt := 119) hx hb dX4_allows_48 (by decide) (fun hc => ?_) (fun hc => ?_)
          · replace h := h.1 hc
            refine lv_iload_n hx hb dX4_allows_119 rfl (lv_at hl 3 rfl) ?_
            refine wz_mono hQz ?_
            obtain ⟨hn9, h⟩ := h
            exact W.zret (v := v3_42) hx hb hr hn9 (fun t ht hW => ⟨⟨v3_42, (), rfl, h, by rw [ht]; exact hP, va_K.moved hW.alike hK, hD⟩, hS.F ht⟩) hS.2.2 dX4_allows_120
          · replace h := h.2 hc
            refine lv_iload_n hx hb dX4_allows_51 rfl (lv_at hl 3 rfl) ?_
            refine lv_if_eq (tgt := 111) hx hb dX4_allows_52 (by decide) (fun hc => ?_) (fun hc => ?_)
            · replace h := h.1 hc
              refine lv_iconst (v := 0) hx hb dX4_allows_111 (by decide) ?_
              refine lv_istore_n (lv' := [(3, .int 0), (0, .ref (a 0)), (1, .int v1), (2, .int v2), (4, .int v4_42)]) hx hb dX4_allows_112 rfl hl (by decide) rfl (fun ls hl => ?_)
              refine lv_iinc (v := (v4_42 + 1)) (lv' := [(4, .int (v4_42 + 1)), (3, .int 0), (0, .ref (a 0)), (1, .int v1), (2, .int v2)]) hx hb dX4_allows_113 hl (k := 4) rfl rfl (by decide) rfl (fun ls hl => ?_)
              refine lv_goto (tgt := 42) hx hb dX4_allows_116 (by decide) ?_
              exact ih42 0 (v4_42 + 1) h _ _ hP hD hS _ (lv_sub hl [2, 3, 4, 1, 0] rfl)
            · replace h := h.2 hc
              refine lv_aload_n hx hb dX4_allows_55 rfl (lv_at hl 0 rfl) ?_
              refine va_get (D := D) (ci := 4) (v := .ref (a 8)) (C := RX4) (T := TX4) (N := 32) hx hb hts hinX4 hown hK hP 0 rfl rfl 15 (by decide) (hts (.fieldLink RX4 31 "WorstPathsModel" "pairA" "[I") (by decide +kernel)) (fun _ h9 => h9) rfl dX4_allows_56 ?_
              refine lv_iload hx hb dX4_allows_59 (lv_at hl 4 rfl) ?_
              obtain ⟨hq, h⟩ := h
              refine va_iald (D := D) hx hb hK hP 8 0 rfl rfl hq dX4_allows_61 ?_
              refine lv_iload_n hx hb dX4_allows_62 rfl (lv_at hl 2 rfl) ?_
              have JP81 : jn_X4_allows_81 v1 v2 v4_42 m_pairs m_bound m_pairA m_pairB m_countUnit m_flagUnit (lp_X4_allows_42 v1 v2 m_pairs m_bound m_pairA m_pairB m_countUnit m_flagUnit Q n42) Q → ∀ (H : Heap) (locs : List Loc), va_P D vwCl (wM a cI cZ cJ m_thrown m_sets m_ways m_penalty m_blocks m_edges m_pairs m_lines m_isFresh m_isAnswer m_time m_touchMany m_touch m_line m_from m_to m_bound m_pairA m_pairB m_comeTo m_greatest m_least m_nowGreatest m_nowLeast m_does m_mostTime m_leastTime m_countUnit m_flagUnit m_worst m_best m_stack) H → va_D A (wM a cI cZ cJ m_thrown m_sets m_ways m_penalty m_blocks m_edges m_pairs m_lines m_isFresh m_isAnswer m_time m_touchMany m_touch m_line m_from m_to m_bound m_pairA m_pairB m_comeTo m_greatest m_least m_nowGreatest m_nowLeast m_does m_mostTime m_leastTime m_countUnit m_flagUnit m_worst m_best m_stack) → va_S A s.heap H locs → ∀ (ls : Array Slot), lv_has ls 5 [(0, .ref (a 0)), (1, .int v1), (2, .int v2), (4, .int v4_42)] → W p l e (headSpec wsX4_allows rm_X4_allows).room s m ([Value.ref (a 0), Value.int v1, Value.int v2] : List Value).toArray below meth c H locs 0 0 Qz (F0 m 81 ls []) := by
                intro  h H locs hP hD hS ls hl
                unfold jn_X4_allows_81 at h
                refine lv_aload_n hx hb dX4_allows_81 rfl (lv_at hl 0 rfl) ?_
                refine va_get (D := D) (ci := 4) (v := .ref (a 9)) (C := RX4) (T := TX4) (N := 32) hx hb hts hinX4 hown hK hP 0 rfl rfl 16 (by decide) (hts (.fieldLink RX4 34 "WorstPathsModel" "pairB" "[I") (by decide +kernel)) (fun _ h9 => h9) rfl dX4_allows_82 ?_
                refine lv_iload hx hb dX4_allows_85 (lv_at hl 3 rfl) ?_
                obtain ⟨hq, h⟩ := h
                refine va_iald (D := D) hx hb hK hP 9 0 rfl rfl hq dX4_allows_87 ?_
                refine lv_iload_n hx hb dX4_allows_88 rfl (lv_at hl 2 rfl) ?_
                refine lv_icmp_ne (tgt := 107) hx hb dX4_allows_89 (by decide) (fun hc => ?_) (fun hc => ?_)
                · replace h := h.1 hc
                  refine lv_iconst (v := 1) hx hb dX4_allows_107 (by decide) ?_
                  refine lv_goto (tgt := 112) hx hb dX4_allows_108 (by decide) ?_
                  refine lv_istore_n (lv' := [(3, .int 1), (0, .ref (a 0)), (1, .int v1), (2, .int v2), (4, .int v4_42)]) hx hb dX4_allows_112 rfl hl (by decide) rfl (fun ls hl => ?_)
                  refine lv_iinc (v := (v4_42 + 1)) (lv' := [(4, .int (v4_42 + 1)), (3, .int 1), (0, .ref (a 0)), (1, .int v1), (2, .int v2)]) hx hb dX4_allows_113 hl (k := 4) rfl rfl (by decide) rfl (fun ls hl => ?_)
                  refine lv_goto (tgt := 42) hx hb dX4_allows_116 (by decide) ?_
                  exact ih42 1 (v4_42 + 1) h _ _ hP hD hS _ (lv_sub hl [2, 3, 4, 1, 0] rfl)
                · replace h := h.2 hc
                  refine lv_aload_n hx hb dX4_allows_92 rfl (lv_at hl 0 rfl) ?_
                  refine lv_iload_n hx hb dX4_allows_93 rfl (lv_at hl 1 rfl) ?_
                  refine lv_aload_n hx hb dX4_allows_94 rfl (lv_at hl 0 rfl) ?_
                  refine va_get (D := D) (ci := 4) (v := .ref (a 8)) (C := RX4) (T := TX4) (N := 32) hx hb hts hinX4 hown hK hP 0 rfl rfl 15 (by decide) (hts (.fieldLink RX4 31 "WorstPathsModel" "pairA" "[I") (by decide +kernel)) (fun _ h9 => h9) rfl dX4_allows_95 ?_
                  refine lv_iload hx hb dX4_allows_98 (lv_at hl 3 rfl) ?_
                  obtain ⟨hq, h⟩ := h
                  refine va_iald (D := D) hx hb hK hP 8 0 rfl rfl hq dX4_allows_100 ?_
                  have hF := wz_free hD hS hA
                  refine va_calli (va_runV (As := [.int v1, .int (m_pairA (Int32.toNatClampNeg v4_42))]) (rest := []) ⟨hx, hb, hml, hown, hts⟩ (c_X4_isTaken l D a cI cZ cJ _ m_thrown m_sets m_ways m_penalty m_blocks m_edges m_pairs m_lines m_isFresh m_isAnswer m_time m_touchMany m_touch m_line m_from m_to m_bound m_pairA m_pairB m_comeTo m_greatest m_least m_nowGreatest m_nowLeast m_does m_mostTime m_leastTime m_countUnit m_flagUnit m_worst m_best m_stack v1 (m_pairA (Int32.toNatClampNeg v4_42)) _ h) (cwV 2 hts gX4_allows_X4_isTaken rfl rfl rfl (by decide +kernel) ⟨Nat.le_of_ble_eq_true rfl, Nat.le_of_ble_eq_true rfl⟩) ⟨wz_blind, va_recv hK hP (ci := 4) (q0 := 0) rfl rfl, fun U hU hW => wz_at hU hW hP hK hD⟩ rfl rfl hl.1 rfl (lv_room (Nat.le_of_ble_eq_true rfl)) dX4_allows_101 ⟨Nat.zero_le _, Nat.zero_le _⟩) hS (fun q _ hq => hF q hq) hF (fun r_101 u t H locs ht hvm h hB hz1 hk1 hS => ?_)
                  obtain ⟨hP, -, hD⟩ := wz_back ht hF hB
                  have hP : va_P D vwCl (wM a cI cZ cJ m_thrown m_sets m_ways m_penalty m_blocks m_edges m_pairs m_lines m_isFresh m_isAnswer m_time m_touchMany m_touch m_line m_from m_to m_bound m_pairA m_pairB m_comeTo m_greatest m_least m_nowGreatest m_nowLeast m_does m_mostTime m_leastTime m_countUnit m_flagUnit m_worst m_best m_stack) H := hP
                  have hD : va_D A (wM a cI cZ cJ m_thrown m_sets m_ways m_penalty m_blocks m_edges m_pairs m_lines m_isFresh m_isAnswer m_time m_touchMany m_touch m_line m_from m_to m_bound m_pairA m_pairB m_comeTo m_greatest m_least m_nowGreatest m_nowLeast m_does m_mostTime m_leastTime m_countUnit m_flagUnit m_worst m_best m_stack) := hD
                  refine lv_if_ne (tgt := 111) hx hb dX4_allows_104 (by decide) (fun hc => ?_) (fun hc => ?_)
                  · replace h := h.1 hc
                    refine lv_iconst (v := 0) hx hb dX4_allows_111 (by decide) ?_
                    refine lv_istore_n (lv' := [(3, .int 0), (0, .ref (a 0)), (1, .int v1), (2, .int v2), (4, .int v4_42)]) hx hb dX4_allows_112 rfl hl (by decide) rfl (fun ls hl => ?_)
                    refine lv_iinc (v := (v4_42 + 1)) (lv' := [(4, .int (v4_42 + 1)), (3, .int 0), (0, .ref (a 0)), (1, .int v1), (2, .int v2)]) hx hb dX4_allows_113 hl (k := 4) rfl rfl (by decide) rfl (fun ls hl => ?_)
                    refine lv_goto (tgt := 42) hx hb dX4_allows_116 (by decide) ?_
                    exact ih42 0 (v4_42 + 1) h _ _ hP hD hS _ (lv_sub hl [2, 3, 4, 1, 0] rfl)
                  · replace h := h.2 hc
                    refine lv_iconst (v := 1) hx hb dX4_allows_107 (by decide) ?_
                    refine lv_goto (tgt := 112) hx hb dX4_allows_108 (by decide) ?_
                    refine lv_istore_n (lv' := [(3, .int 1), (0, .ref (a 0)), (1, .int v1), (2, .int v2), (4, .int v4_42)]) hx hb dX4_allows_112 rfl hl (by decide) rfl (fun ls hl => ?_)
                    refine lv_iinc (v := (v4_42 + 1)) (lv' := [(4, .int (v4_42 + 1)), (3, .int 1), (0, .ref (a 0)), (1, .int v1), (2, .int v2)]) hx hb dX4_allows_113 hl (k := 4) rfl rfl (by decide) rfl (fun ls hl => ?_)
                    refine lv_goto (tgt := 42) hx hb dX4_allows_116 (by decide) ?_
                    exact ih42 1 (v4_42 + 1) h _ _ hP hD hS _ (lv_sub hl [2, 3, 4, 1, 0] rfl)
              refine lv_icmp_ne (tgt := 81) hx hb dX4_allows_63 (by decide) (fun hc => ?_) (fun hc => ?_)
              · replace h := h.1 hc
                exact JP81  h _ _ hP hD hS _ (lv_sub hl [0, 1, 2, 4] rfl)
              · replace h := h.2 hc
                refine lv_aload_n hx hb dX4_allows_66 rfl (lv_at hl 0 rfl) ?_
                refine lv_iload_n hx hb dX4_allows_67 rfl (lv_at hl 1 rfl) ?_
                refine lv_aload_n hx hb dX4_allows_68 rfl (lv_at hl 0 rfl) ?_
                refine va_get (D := D) (ci := 4) (v := .ref (a 9)) (C := RX4) (T := TX4) (N := 32) hx hb hts hinX4 hown hK hP 0 rfl rfl 16 (by decide) (hts (.fieldLink RX4 34 "WorstPathsModel" "pairB" "[I") (by decide +kernel)) (fun _ h9 => h9) rfl dX4_allows_69 ?_
                refine lv_iload hx hb dX4_allows_72 (lv_at hl 4 rfl) ?_
                obtain ⟨hq, h⟩ := h
                refine va_iald (D := D) hx hb hK hP 9 0 rfl rfl hq dX4_allows_74 ?_
                have hF := wz_free hD hS hA
                refine va_calli (va_runV (As := [.int v1, .int (m_pairB (Int32.toNatClampNeg v4_42))]) (rest := []) ⟨hx, hb, hml, hown, hts⟩ (c_X4_isTaken l D a cI cZ cJ _ m_thrown m_sets m_ways m_penalty m_blocks m_edges m_pairs m_lines m_isFresh m_isAnswer m_time m_touchMany m_touch m_line m_from m_to m_bound m_pairA m_pairB m_comeTo m_greatest m_least m_nowGreatest m_nowLeast m_does m_mostTime m_leastTime m_countUnit m_flagUnit m_worst m_best m_stack v1 (m_pairB (Int32.toNatClampNeg v4_42)) _ h) (cwV 2 hts gX4_allows_X4_isTaken rfl rfl rfl (by decide +kernel) ⟨Nat.le_of_ble_eq_true rfl, Nat.le_of_ble_eq_true rfl⟩) ⟨wz_blind, va_recv hK hP (ci := 4) (q0 := 0) rfl rfl, fun U hU hW => wz_at hU hW hP hK hD⟩ rfl rfl hl.1 rfl (lv_room (Nat.le_of_ble_eq_true rfl)) dX4_allows_75 ⟨Nat.zero_le _, Nat.zero_le _⟩) hS (fun q _ hq => hF q hq) hF (fun r_75 u t H locs ht hvm h hB hz1 hk1 hS => ?_)
                obtain ⟨hP, -, hD⟩ := wz_back ht hF hB
                have hP : va_P D vwCl (wM a cI cZ cJ m_thrown m_sets m_ways m_penalty m_blocks m_edges m_pairs m_lines m_isFresh m_isAnswer m_time m_touchMany m_touch m_line m_from m_to m_bound m_pairA m_pairB m_comeTo m_greatest m_least m_nowGreatest m_nowLeast m_does m_mostTime m_leastTime m_countUnit m_flagUnit m_worst m_best m_stack) H := hP
                have hD : va_D A (wM a cI cZ cJ m_thrown m_sets m_ways m_penalty m_blocks m_edges m_pairs m_lines m_isFresh m_isAnswer m_time m_touchMany m_touch m_line m_from m_to m_bound m_pairA m_pairB m_comeTo m_greatest m_least m_nowGreatest m_nowLeast m_does m_mostTime m_leastTime m_countUnit m_flagUnit m_worst m_best m_stack) := hD
                refine lv_if_ne (tgt := 111) hx hb dX4_allows_78 (by decide) (fun hc => ?_) (fun hc => ?_)
                · replace h := h.1 hc
                  refine lv_iconst (v := 0) hx hb dX4_allows_111 (by decide) ?_
                  refine lv_istore_n (lv' := [(3, .int 0), (0, .ref (a 0)), (1, .int v1), (2, .int v2), (4, .int v4_42)]) hx hb dX4_allows_112 rfl hl (by decide) rfl (fun ls hl => ?_)
                  refine lv_iinc (v := (v4_42 + 1)) (lv' := [(4, .int (v4_42 + 1)), (3, .int 0), (0, .ref (a 0)), (1, .int v1), (2, .int v2)]) hx hb dX4_allows_113 hl (k := 4) rfl rfl (by decide) rfl (fun ls hl => ?_)
                  refine lv_goto (tgt := 42) hx hb dX4_allows_116 (by decide) ?_
                  exact ih42 0 (v4_42 + 1) h _ _ hP hD hS _ (lv_sub hl [2, 3, 4, 1, 0] rfl)
                · replace h := h.2 hc
                  exact JP81  h _ _ hP hD hS _ (lv_sub hl [0, 1, 2, 4] rfl)
      obtain ⟨k9, h⟩ := h
      exact LP42 k9 1 0 h _ _ hP hD hS _ (lv_sub hl [2, 3, 4, 1, 0] rfl)
    · replace h := h.2 hc
      refine lv_iconst (v := 0) hx hb dX4_allows_35 (by decide) ?_
      refine wz_mono hQz ?_
      exact W.zret (v := 0) hx hb hr rfl (fun t ht hW => ⟨⟨0, (), rfl, h, by rw [ht]; exact hP, va_K.moved hW.alike hK, hD⟩, hS.F ht⟩) hS.2.2 dX4_allows_36
def jn_X4_behind_34 (v1 : Int32) (v2 : Int32) (v3 : Int32) (m_from : Nat → Int32) (m_to : Nat → Int32) (m_bound : Nat → Int32) (m_countUnit : Nat → Int32) (m_flagUnit : Nat → Int32) (Q : Int32 → Prop) : Prop := vp_in v2 80 ∧ (((m_flagUnit (Int32.toNatClampNeg v2)) ≤ 0 → Q v3) ∧ (¬ (m_flagUnit (Int32.toNatClampNeg v2)) ≤ 0 → wp_X4_isTaken v1 v2 m_flagUnit (fun r_46 => (¬ r_46 = 0 → Q v3) ∧ (r_46 = 0 → vp_in v2 80 ∧ (Q (v3 + (m_flagUnit (Int32.toNatClampNeg v2))))))))
def wp_X4_behind (v1 : Int32) (v2 : Int32) (m_from : Nat → Int32) (m_to : Nat → Int32) (m_bound : Nat → Int32) (m_countUnit : Nat → Int32) (m_flagUnit : Nat → Int32) (Q : Int32 → Prop) : Prop := vp_in v2 80 ∧ (vp_in v2 80 ∧ (vp_in v2 80 ∧ (((m_bound (Int32.toNatClampNeg v2)) < 0 → jn_X4_behind_34 v1 v2 ((v1 - (m_from (Int32.toNatClampNeg v2))) + (m_to (Int32.toNatClampNeg v2))) m_from m_to m_bound m_countUnit m_flagUnit Q) ∧ (¬ (m_bound (Int32.toNatClampNeg v2)) < 0 → vp_in v2 80 ∧ (jn_X4_behind_34 v1 v2 (((v1 - (m_from (Int32.toNatClampNeg v2))) + (m_to (Int32.toNatClampNeg v2))) + (m_countUnit (Int32.toNatClampNeg v2))) m_from m_to m_bound m_countUnit m_flagUnit Q)))))
abbrev rm_X4_behind : Room := { frames := 1, cells := 0, slots := 0, locals := 22 }
set_option maxHeartbeats 4000000 in
set_option maxRecDepth 100000 in
theorem c_X4_behind (l : Launch) (D : va_G) (a : Nat → Nat) (cI : ClassId) (cZ : ClassId) (cJ : ClassId) (sz : Nat) (m_thrown : Int32) (m_sets : Int32) (m_ways : Int32) (m_penalty : Int32) (m_blocks : Int32) (m_edges : Int32) (m_pairs : Int32) (m_lines : Int32) (m_isFresh : Int32) (m_isAnswer : Int32) (m_time : Nat → Int32) (m_touchMany : Nat → Int32) (m_touch : Nat → Int32) (m_line : Nat → Int32) (m_from : Nat → Int32) (m_to : Nat → Int32) (m_bound : Nat → Int32) (m_pairA : Nat → Int32) (m_pairB : Nat → Int32) (m_comeTo : Nat → Int32) (m_greatest : Nat → Int32) (m_least : Nat → Int32) (m_nowGreatest : Nat → Int32) (m_nowLeast : Nat → Int32) (m_does : Nat → Int32) (m_mostTime : Nat → Int64) (m_leastTime : Nat → Int64) (m_countUnit : Nat → Int32) (m_flagUnit : Nat → Int32) (m_worst : Nat → Int64) (m_best : Nat → Int64) (m_stack : Nat → Int32) (v1 : Int32) (v2 : Int32) (Q : Int32 → Prop) (h : wp_X4_behind v1 v2 m_from m_to m_bound m_countUnit m_flagUnit Q) : Met l yX4_behind wsX4_behind rm_X4_behind (va_Pc [.ref (a 0), .int v1, .int v2] (inW D cI cZ cJ sz (wM a cI cZ cJ m_thrown m_sets m_ways m_penalty m_blocks m_edges m_pairs m_lines m_isFresh m_isAnswer m_time m_touchMany m_touch m_line m_from m_to m_bound m_pairA m_pairB m_comeTo m_greatest m_least m_nowGreatest m_nowLeast m_does m_mostTime m_leastTime m_countUnit m_flagUnit m_worst m_best m_stack))) (va_Qi (fun (r : Int32) (u : Unit) => Q r) (fun (u : Unit) => outW D cI cZ cJ (va_A (wM a cI cZ cJ m_thrown m_sets m_ways m_penalty m_blocks m_edges m_pairs m_lines m_isFresh m_isAnswer m_time m_touchMany m_touch m_line m_from m_to m_bound m_pairA m_pairB m_comeTo m_greatest m_least m_nowGreatest m_nowLeast m_does m_mostTime m_leastTime m_countUnit m_flagUnit m_worst m_best m_stack) sz) (wM a cI cZ cJ m_thrown m_sets m_ways m_penalty m_blocks m_edges m_pairs m_lines m_isFresh m_isAnswer m_time m_touchMany m_touch m_line m_from m_to m_bound m_pairA m_pairB m_comeTo m_greatest m_least m_nowGreatest m_nowLeast m_does m_mostTime m_leastTime m_countUnit m_flagUnit m_worst m_best m_stack)) (va_A (wM a cI cZ cJ m_thrown m_sets m_ways m_penalty m_blocks m_edges m_pairs m_lines m_isFresh m_isAnswer m_time m_touchMany m_touch m_line m_from m_to m_bound m_pairA m_pairB m_comeTo m_greatest m_least m_nowGreatest m_nowLeast m_does m_mostTime m_leastTime m_countUnit m_flagUnit m_worst m_best m_stack) sz)) 0 0 (va_A (wM a cI cZ cJ m_thrown m_sets m_ways m_penalty m_blocks m_edges m_pairs m_lines m_isFresh m_isAnswer m_time m_touchMany m_touch m_line m_from m_to m_bound m_pairA m_pairB m_comeTo m_greatest m_least m_nowGreatest m_nowLeast m_does m_mostTime m_leastTime m_countUnit m_flagUnit m_worst m_best m_stack) sz) := by
  refine Met.ofW (cc := cX4_behind) (maxL := 4) (ret := (some .int)) (by decide +kernel) rfl ?_
  intro p e s m args below meth c s₁ B hml hv
  obtain ⟨rfl, hsz, hP, hK, hD0⟩ := hv
  have hx := B.exec
  have hb := B.bytes
  have hr := B.returns
  have hts := atoms_spec (ws := wsX4_behind) B.pre
  have hown : s.vm.findClass RX4 = some m.cls := findClass_of_methodNamed B.named
  have hlocks := B.notSynchronized
  have hinX4 : ∀ w ∈ wsX40, w ∈ wsX4_behind := by decide +kernel
  subst hsz
  have hD := hD0.self (sz := s.heap.size)
  generalize hAe : va_A (wM a cI cZ cJ m_thrown m_sets m_ways m_penalty m_blocks m_edges m_pairs m_lines m_isFresh m_isAnswer m_time m_touchMany m_touch m_line m_from m_to m_bound m_pairA m_pairB m_comeTo m_greatest m_least m_nowGreatest m_nowLeast m_does m_mostTime m_leastTime m_countUnit m_flagUnit m_worst m_best m_stack) s.heap.size = A at hD ⊢
  have hA : ∀ q : Nat, s.heap.size ≤ q → A q := fun q h => by rw [← hAe]; exact Or.inr h
  have hS : va_S A s.heap s.heap [] := va_S.rf
  have hP : va_P D vwCl (wM a cI cZ cJ m_thrown m_sets m_ways m_penalty m_blocks m_edges m_pairs m_lines m_isFresh m_isAnswer m_time m_touchMany m_touch m_line m_from m_to m_bound m_pairA m_pairB m_comeTo m_greatest m_least m_nowGreatest m_nowLeast m_does m_mostTime m_leastTime m_countUnit m_flagUnit m_worst m_best m_stack) s.heap := hP
  have hl := lv_entry ([.ref (a 0), .int v1, .int v2]) (n := 4) (Nat.le_of_ble_eq_true rfl)
  rw [lg_entry_eq]
  generalize (lg_sl ([.ref (a 0), .int v1, .int v2]) ++ List.replicate (4 - (lg_sl ([.ref (a 0), .int v1, .int v2])).length) Slot.unset).toArray = ls at hl ⊢
  have hl : lv_has ls 4 [(0, .ref (a 0)), (1, .int v1), (2, .int v2)] := hl
  refine wz_abs (fun Qz hQz => ?_)
  unfold wp_X4_behind at h
  refine lv_iload_n hx hb dX4_behind_0 rfl (lv_at hl 1 rfl) ?_
  refine lv_aload_n hx hb dX4_behind_1 rfl (lv_at hl 0 rfl) ?_
  refine va_get (D := D) (ci := 4) (v := .ref (a 5)) (C := RX4) (T := TX4) (N := 32) hx hb hts hinX4 hown hK hP 0 rfl rfl 12 (by decide) (hts (.fieldLink RX4 22 "WorstPathsModel" "from" "[I") (by decide +kernel)) (fun _ h9 => h9) rfl dX4_behind_2 ?_
  refine lv_iload_n hx hb dX4_behind_5 rfl (lv_at hl 2 rfl) ?_
  obtain ⟨hq, h⟩ := h
  refine va_iald (D := D) hx hb hK hP 5 0 rfl rfl hq dX4_behind_6 ?_
  refine lv_isub hx hb dX4_behind_7 ?_
  refine lv_aload_n hx hb dX4_behind_8 rfl (lv_at hl 0 rfl) ?_
  refine va_get (D := D) (ci := 4) (v := .ref (a 6)) (C := RX4) (T := TX4) (N := 32) hx hb hts hinX4 hown hK hP 0 rfl rfl 13 (by decide) (hts (.fieldLink RX4 25 "WorstPathsModel" "to" "[I") (by decide +kernel)) (fun _ h9 => h9) rfl dX4_behind_9 ?_
  refine lv_iload_n hx hb dX4_behind_12 rfl (lv_at hl 2 rfl) ?_
  obtain ⟨hq, h⟩ := h
  refine va_iald (D := D) hx hb hK hP 6 0 rfl rfl hq dX4_behind_13 ?_
  refine lv_iadd hx hb dX4_behind_14 ?_
  refine lv_istore_n (lv' := [(3, .int ((v1 - (m_from (Int32.toNatClampNeg v2))) + (m_to (Int32.toNatClampNeg v2)))), (0, .ref (a 0)), (1, .int v1), (2, .int v2)]) hx hb dX4_behind_15 rfl hl (by decide) rfl (fun ls hl => ?_)
  refine lv_aload_n hx hb dX4_behind_16 rfl (lv_at hl 1 rfl) ?_
  refine va_get (D := D) (ci := 4) (v := .ref (a 7)) (C := RX4) (T := TX4) (N := 32) hx hb hts hinX4 hown hK hP 0 rfl rfl 14 (by decide) (hts (.fieldLink RX4 28 "WorstPathsModel" "bound" "[I") (by decide +kernel)) (fun _ h9 => h9) rfl dX4_behind_17 ?_
  refine lv_iload_n hx hb dX4_behind_20 rfl (lv_at hl 3 rfl) ?_
  obtain ⟨hq, h⟩ := h
  refine va_iald (D := D) hx hb hK hP 7 0 rfl rfl hq dX4_behind_21 ?_
  have JP34 : ∀ (v3_34 : Int32), jn_X4_behind_34 v1 v2 v3_34 m_from m_to m_bound m_countUnit m_flagUnit Q → ∀ (H : Heap) (locs : List Loc), va_P D vwCl (wM a cI cZ cJ m_thrown m_sets m_ways m_penalty m_blocks m_edges m_pairs m_lines m_isFresh m_isAnswer m_time m_touchMany m_touch m_line m_from m_to m_bound m_pairA m_pairB m_comeTo m_greatest m_least m_nowGreatest m_nowLeast m_does m_mostTime m_leastTime m_countUnit m_flagUnit m_worst m_best m_stack) H → va_D A (wM a cI cZ cJ m_thrown m_sets m_ways m_penalty m_blocks m_edges m_pairs m_lines m_isFresh m_isAnswer m_time m_touchMany m_touch m_line m_from m_to m_bound m_pairA m_pairB m_comeTo m_greatest m_least m_nowGreatest m_nowLeast m_does m_mostTime m_leastTime m_countUnit m_flagUnit m_worst m_best m_stack) → va_S A s.heap H locs → ∀ (ls : Array Slot), lv_has ls 4 [(0, .ref (a 0)), (1, .int v1), (2, .int v2), (3, .int v3_34)] → W p l e (headSpec wsX4_behind rm_X4_behind).room s m ([Value.ref (a 0), Value.int v1, Value.int v2] : List Value).toArray below meth c H locs 0 0 Qz (F0 m 34 ls []) := by
    intro v3_34 h H locs hP hD hS ls hl
    unfold jn_X4_behind_34 at h
    refine lv_aload_n hx hb dX4_behind_34 rfl (lv_at hl 0 rfl) ?_
    refine va_get (D := D) (ci := 4) (v := .ref (a 19)) (C := RX4) (T := TX4) (N := 32) hx hb hts hinX4 hown hK hP 0 rfl rfl 28 (by decide) (hts (.fieldLink RX4 66 "WorstPathsModel" "flagUnit" "[I") (by decide +kernel)) (fun _ h9 => h9) rfl dX4_behind_35 ?_
    refine lv_iload_n hx hb dX4_behind_38 rfl (lv_at hl 2 rfl) ?_
    obtain ⟨hq, h⟩ := h
    refine va_iald (D := D) hx hb hK hP 19 0 rfl rfl hq dX4_behind_39 ?_
    refine lv_if_le (tgt := 63) hx hb dX4_behind_40 (by decide) (fun hc => ?_) (fun hc => ?_)
    · replace h := h.1 hc
      refine lv_iload_n hx hb dX4_behind_63 rfl (lv_at hl 3 rfl) ?_
      refine wz_mono hQz ?_
      exact W.iret (v := v3_34) hx hb hr (fun t ht hW => ⟨⟨v3_34, (), rfl, h, by rw [ht]; exact hP, va_K.moved hW.alike hK, hD⟩, hS.F ht⟩) hS.2.2 dX4_behind_64
    · replace h := h.2 hc
      refine lv_aload_n hx hb dX4_behind_43 rfl (lv_at hl 0 rfl) ?_
      refine lv_iload_n hx hb dX4_behind_44 rfl (lv_at hl 1 rfl) ?_
      refine lv_iload_n hx hb dX4_behind_45 rfl (lv_at hl 2 rfl) ?_
      have hF := wz_free hD hS hA
      refine va_calli (va_runV (As := [.int v1, .int v2]) (rest := []) ⟨hx, hb, hml, hown, hts⟩ (c_X4_isTaken l D a cI cZ cJ _ m_thrown m_sets m_ways m_penalty m_blocks m_edges m_pairs m_lines m_isFresh m_isAnswer m_time m_touchMany m_touch m_line m_from m_to m_bound m_pairA m_pairB m_comeTo m_greatest m_least m_nowGreatest m_nowLeast m_does m_mostTime m_leastTime m_countUnit m_flagUnit m_worst m_best m_stack v1 v2 _ h) (cwV 2 hts gX4_behind_X4_isTaken rfl rfl rfl (by decide +kernel) ⟨Nat.le_of_ble_eq_true rfl, Nat.le_of_ble_eq_true rfl⟩) ⟨wz_blind, va_recv hK hP (ci := 4) (q0 := 0) rfl rfl, fun U hU hW => wz_at hU hW hP hK hD⟩ rfl rfl hl.1 rfl (lv_room (Nat.le_of_ble_eq_true rfl)) dX4_behind_46 ⟨Nat.zero_le _, Nat.zero_le _⟩) hS (fun q _ hq => hF q hq) hF (fun r_46 u t H locs ht hvm h hB hz1 hk1 hS => ?_)
      obtain ⟨hP, -, hD⟩ := wz_back ht hF hB
      have hP : va_P D vwCl (wM a cI cZ cJ m_thrown m_sets m_ways m_penalty m_blocks m_edges m_pairs m_lines m_isFresh m_isAnswer m_time m_touchMany m_touch m_line m_from m_to m_bound m_pairA m_pairB m_comeTo m_greatest m_least m_nowGreatest m_nowLeast m_does m_mostTime m_leastTime m_countUnit m_flagUnit m_worst m_best m_stack) H := hP
      have hD : va_D A (wM a cI cZ cJ m_thrown m_sets m_ways m_penalty m_blocks m_edges m_pairs m_lines m_isFresh m_isAnswer m_time m_touchMany m_touch m_line m_from m_to m_bound m_pairA m_pairB m_comeTo m_greatest m_least m_nowGreatest m_nowLeast m_does m_mostTime m_leastTime m_countUnit m_flagUnit m_worst m_best m_stack) := hD
      refine lv_if_ne (tgt := 63) hx hb dX4_behind_49 (by decide) (fun hc => ?_) (fun hc => ?_)
      · replace h := h.1 hc
        refine lv_iload_n hx hb dX4_behind_63 rfl (lv_at hl 3 rfl) ?_
        refine wz_mono hQz ?_
        exact W.iret (v := v3_34) hx hb hr (fun t ht hW => ⟨⟨v3_34, (), rfl, h, by rw [ht]; exact hP, va_K.moved hW.alike hK, hD⟩, hS.F ht⟩) hS.2.2 dX4_behind_64
      · replace h := h.2 hc
        refine lv_iload_n hx hb dX4_behind_52 rfl (lv_at hl 3 rfl) ?_
        refine lv_aload_n hx hb dX4_behind_53 rfl (lv_at hl 0 rfl) ?_
        refine va_get (D := D) (ci := 4) (v := .ref (a 19)) (C := RX4) (T := TX4) (N := 32) hx hb hts hinX4 hown hK hP 0 rfl rfl 28 (by decide) (hts (.fieldLink RX4 66 "WorstPathsModel" "flagUnit" "[I") (by decide +kernel)) (fun _ h9 => h9) rfl dX4_behind_54 ?_
        refine lv_iload_n hx hb dX4_behind_57 rfl (lv_at hl 2 rfl) ?_
        obtain ⟨hq, h⟩ := h
        refine va_iald (D := D) hx hb hK hP 19 0 rfl rfl hq dX4_behind_58 ?_
        refine lv_iadd hx hb dX4_behind_59 ?_
        refine lv_goto (tgt := 64) hx hb dX4_behind_60 (by decide) ?_
        refine wz_mono hQz ?_
        exact W.iret (v := (v3_34 + (m_flagUnit (Int32.toNatClampNeg v2)))) hx hb hr (fun t ht hW => ⟨⟨(v3_34 + (m_flagUnit (Int32.toNatClampNeg v2))), (), rfl, h, by rw [ht]; exact hP, va_K.moved hW.alike hK, hD⟩, hS.F ht⟩) hS.2.2 dX4_behind_64
  refine lv_if_lt (tgt := 34) hx hb dX4_behind_22 (by decide) (fun hc => ?_) (fun hc => ?_)
  · replace h := h.1 hc
    exact JP34 ((v1 - (m_from (Int32.toNatClampNeg v2))) + (m_to (Int32.toNatClampNeg v2))) h _ _ hP hD hS _ (lv_sub hl [1, 2, 3, 0] rfl)
  · replace h := h.2 hc
    refine lv_iload_n hx hb dX4_behind_25 rfl (lv_at hl 0 rfl) ?_
    refine lv_aload_n hx hb dX4_behind_26 rfl (lv_at hl 1 rfl) ?_
    refine va_get (D := D) (ci := 4) (v := .ref (a 18)) (C := RX4) (T := TX4) (N := 32) hx hb hts hinX4 hown hK hP 0 rfl rfl 27 (by decide) (hts (.fieldLink RX4 63 "WorstPathsModel" "countUnit" "[I") (by decide +kernel)) (fun _ h9 => h9) rfl dX4_behind_27 ?_
    refine lv_iload_n hx hb dX4_behind_30 rfl (lv_at hl 3 rfl) ?_
    obtain ⟨hq, h⟩ := h
    refine va_iald (D := D) hx hb hK hP 18 0 rfl rfl hq dX4_behind_31 ?_
    refine lv_iadd hx hb dX4_behind_32 ?_
    refine lv_istore_n (lv' := [(3, .int (((v1 - (m_from (Int32.toNatClampNeg v2))) + (m_to (Int32.toNatClampNeg v2))) + (m_countUnit (Int32.toNatClampNeg v2)))), (0, .ref (a 0)), (1, .int v1), (2, .int v2)]) hx hb dX4_behind_33 rfl hl (by decide) rfl (fun ls hl => ?_)
    exact JP34 (((v1 - (m_from (Int32.toNatClampNeg v2))) + (m_to (Int32.toNatClampNeg v2))) + (m_countUnit (Int32.toNatClampNeg v2))) h _ _ hP hD hS _ (lv_sub hl [1, 2, 3, 0] rfl)
def lp_X4_isEnd_4 (v1 : Int32) (m_edges : Int32) (m_from : Nat → Int32) (Q : Int32 → Prop) : Nat → Int32 → Int32 → Prop
  | 0, _, _ => False
  | n + 1, v2, v3 => (m_edges ≤ v3 → (¬ v2 = 0 → Q 0) ∧ (v2 = 0 → Q 1)) ∧ (¬ m_edges ≤ v3 → (¬ v2 = 0 → (lp_X4_isEnd_4 v1 m_edges m_from Q n) 1 (v3 + 1)) ∧ (v2 = 0 → vp_in v3 80 ∧ ((¬ (m_from (Int32.toNatClampNeg v3)) = v1 → (lp_X4_isEnd_4 v1 m_edges m_from Q n) 0 (v3 + 1)) ∧ ((m_from (Int32.toNatClampNeg v3)) = v1 → (lp_X4_isEnd_4 v1 m_edges m_from Q n) 1 (v3 + 1)))))
def wp_X4_isEnd (v1 : Int32) (m_edges : Int32) (m_from : Nat → Int32) (Q : Int32 → Prop) : Prop := ∃ k4, lp_X4_isEnd_4 v1 m_edges m_from Q k4 0 0
abbrev rm_X4_isEnd : Room := { frames := 0, cells := 0, slots := 0, locals := 0 }
set_option maxHeartbeats 4000000 in
set_option maxRecDepth 100000 in
theorem c_X4_isEnd (l : Launch) (D : va_G) (a : Nat → Nat) (cI : ClassId) (cZ : ClassId) (cJ : ClassId) (sz : Nat) (m_thrown : Int32) (m_sets : Int32) (m_ways : Int32) (m_penalty : Int32) (m_blocks : Int32) (m_edges : Int32) (m_pairs : Int32) (m_lines : Int32) (m_isFresh : Int32) (m_isAnswer : Int32) (m_time : Nat → Int32) (m_touchMany : Nat → Int32) (m_touch : Nat → Int32) (m_line : Nat → Int32) (m_from : Nat → Int32) (m_to : Nat → Int32) (m_bound : Nat → Int32) (m_pairA : Nat → Int32) (m_pairB : Nat → Int32) (m_comeTo : Nat → Int32) (m_greatest : Nat → Int32) (m_least : Nat → Int32) (m_nowGreatest : Nat → Int32) (m_nowLeast : Nat → Int32) (m_does : Nat → Int32) (m_mostTime : Nat → Int64) (m_leastTime : Nat → Int64) (m_countUnit : Nat → Int32) (m_flagUnit : Nat → Int32) (m_worst : Nat → Int64) (m_best : Nat → Int64) (m_stack : Nat → Int32) (v1 : Int32) (Q : Int32 → Prop) (h : wp_X4_isEnd v1 m_edges m_from Q) : Met l yX4_isEnd wsX4_isEnd rm_X4_isEnd (va_Pc [.ref (a 0), .int v1] (inW D cI cZ cJ sz (wM a cI cZ cJ m_thrown m_sets m_ways m_penalty m_blocks m_edges m_pairs m_lines m_isFresh m_isAnswer m_time m_touchMany m_touch m_line m_from m_to m_bound m_pairA m_pairB m_comeTo m_greatest m_least m_nowGreatest m_nowLeast m_does m_mostTime m_leastTime m_countUnit m_flagUnit m_worst m_best m_stack))) (va_Qi (fun (r : Int32) (u : Unit) => Q r) (fun (u : Unit) => outW D cI cZ cJ (va_A (wM a cI cZ cJ m_thrown m_sets m_ways m_penalty m_blocks m_edges m_pairs m_lines m_isFresh m_isAnswer m_time m_touchMany m_touch m_line m_from m_to m_bound m_pairA m_pairB m_comeTo m_greatest m_least m_nowGreatest m_nowLeast m_does m_mostTime m_leastTime m_countUnit m_flagUnit m_worst m_best m_stack) sz) (wM a cI cZ cJ m_thrown m_sets m_ways m_penalty m_blocks m_edges m_pairs m_lines m_isFresh m_isAnswer m_time m_touchMany m_touch m_line m_from m_to m_bound m_pairA m_pairB m_comeTo m_greatest m_least m_nowGreatest m_nowLeast m_does m_mostTime m_leastTime m_countUnit m_flagUnit m_worst m_best m_stack)) (va_A (wM a cI cZ cJ m_thrown m_sets m_ways m_penalty m_blocks m_edges m_pairs m_lines m_isFresh m_isAnswer m_time m_touchMany m_touch m_line m_from m_to m_bound m_pairA m_pairB m_comeTo m_greatest m_least m_nowGreatest m_nowLeast m_does m_mostTime m_leastTime m_countUnit m_flagUnit m_worst m_best m_stack) sz)) 0 0 (va_A (wM a cI cZ cJ m_thrown m_sets m_ways m_penalty m_blocks m_edges m_pairs m_lines m_isFresh m_isAnswer m_time m_touchMany m_touch m_line m_from m_to m_bound m_pairA m_pairB m_comeTo m_greatest m_least m_nowGreatest m_nowLeast m_does m_mostTime m_leastTime m_countUnit m_flagUnit m_worst m_best m_stack) sz) := by
  refine Met.ofW (cc := cX4_isEnd) (maxL := 4) (ret := (some .boolean)) (by decide +kernel) rfl ?_
  intro p e s m args below meth c s₁ B hml hv
  obtain ⟨rfl, hsz, hP, hK, hD0⟩ := hv
  have hx := B.exec
  have hb := B.bytes
  have hr := B.returns
  have hts := atoms_spec (ws := wsX4_isEnd) B.pre
  have hown : s.vm.findClass RX4 = some m.cls := findClass_of_methodNamed B.named
  have hlocks := B.notSynchronized
  have hinX4 : ∀ w ∈ wsX40, w ∈ wsX4_isEnd := by decide +kernel
  subst hsz
  have hD := hD0.self (sz := s.heap.size)
  generalize hAe : va_A (wM a cI cZ cJ m_thrown m_sets m_ways m_penalty m_blocks m_edges m_pairs m_lines m_isFresh m_isAnswer m_time m_touchMany m_touch m_line m_from m_to m_bound m_pairA m_pairB m_comeTo m_greatest m_least m_nowGreatest m_nowLeast m_does m_mostTime m_leastTime m_countUnit m_flagUnit m_worst m_best m_stack) s.heap.size = A at hD ⊢
  have hA : ∀ q : Nat, s.heap.size ≤ q → A q := fun q h => by rw [← hAe]; exact Or.inr h
  have hS : va_S A s.heap s.heap [] := va_S.rf
  have hP : va_P D vwCl (wM a cI cZ cJ m_thrown m_sets m_ways m_penalty m_blocks m_edges m_pairs m_lines m_isFresh m_isAnswer m_time m_touchMany m_touch m_line m_from m_to m_bound m_pairA m_pairB m_comeTo m_greatest m_least m_nowGreatest m_nowLeast m_does m_mostTime m_leastTime m_countUnit m_flagUnit m_worst m_best m_stack) s.heap := hP
  have hl := lv_entry ([.ref (a 0), .int v1]) (n := 4) (Nat.le_of_ble_eq_true rfl)
  rw [lg_entry_eq]
  generalize (lg_sl ([.ref (a 0), .int v1]) ++ List.replicate (4 - (lg_sl ([.ref (a 0), .int v1])).length) Slot.unset).toArray = ls at hl ⊢
  have hl : lv_has ls 4 [(0, .ref (a 0)), (1, .int v1)] := hl
  refine wz_abs (fun Qz hQz => ?_)
  unfold wp_X4_isEnd at h
  refine lv_iconst (v := 0) hx hb dX4_isEnd_0 (by decide) ?_
  refine lv_istore_n (lv' := [(2, .int 0), (0, .ref (a 0)), (1, .int v1)]) hx hb dX4_isEnd_1 rfl hl (by decide) rfl (fun ls hl => ?_)
  refine lv_iconst (v := 0) hx hb dX4_isEnd_2 (by decide) ?_
  refine lv_istore_n (lv' := [(3, .int 0), (2, .int 0), (0, .ref (a 0)), (1, .int v1)]) hx hb dX4_isEnd_3 rfl hl (by decide) rfl (fun ls hl => ?_)
  have LP4 : ∀ (n4 : Nat) (v2_4 : Int32) (v3_4 : Int32), lp_X4_isEnd_4 v1 m_edges m_from Q n4 v2_4 v3_4 → ∀ (H : Heap) (locs : List Loc), va_P D vwCl (wM a cI cZ cJ m_thrown m_sets m_ways m_penalty m_blocks m_edges m_pairs m_lines m_isFresh m_isAnswer m_time m_touchMany m_touch m_line m_from m_to m_bound m_pairA m_pairB m_comeTo m_greatest m_least m_nowGreatest m_nowLeast m_does m_mostTime m_leastTime m_countUnit m_flagUnit m_worst m_best m_stack) H → va_D A (wM a cI cZ cJ m_thrown m_sets m_ways m_penalty m_blocks m_edges m_pairs m_lines m_isFresh m_isAnswer m_time m_touchMany m_touch m_line m_from m_to m_bound m_pairA m_pairB m_comeTo m_greatest m_least m_nowGreatest m_nowLeast m_does m_mostTime m_leastTime m_countUnit m_flagUnit m_worst m_best m_stack) → va_S A s.heap H locs → ∀ (ls : Array Slot), lv_has ls 4 [(0, .ref (a 0)), (1, .int v1), (2, .int v2_4), (3, .int v3_4)] → W p l e (headSpec wsX4_isEnd rm_X4_isEnd).room s m ([Value.ref (a 0), Value.int v1] : List Value).toArray below meth c H locs 0 0 Qz (F0 m 4 ls []) := by
    intro n4
    induction n4 with
    | zero => intro v2_4 v3_4 h; exact h.elim
    | succ n4 ih4 =>
      intro v2_4 v3_4 h H locs hP hD hS ls hl
      unfold lp_X4_isEnd_4 at h
      refine lv_iload_n hx hb dX4_isEnd_4 rfl (lv_at hl 3 rfl) ?_
      refine lv_aload_n hx hb dX4_isEnd_5 rfl (lv_at hl 0 rfl) ?_
      refine va_get (D := D) (ci := 4) (v := .int m_edges) (C := RX4) (T := TX4) (N := 32) hx hb hts hinX4 hown hK hP 0 rfl rfl 5 (by decide) (hts (.fieldLink RX4 119 "WorstPathsModel" "edges" "I") (by decide +kernel)) (fun _ h9 => h9) rfl dX4_isEnd_6 ?_
      refine lv_icmp_ge (tgt := 38) hx hb dX4_isEnd_9 (by decide) (fun hc => ?_) (fun hc => ?_)
      · replace h := h.1 hc
        refine lv_iload_n hx hb dX4_isEnd_38 rfl (lv_at hl 2 rfl) ?_
        refine lv_if_ne (tgt := 46) hx hb dX4_isEnd_39 (by decide) (fun hc => ?_) (fun hc => ?_)
        · replace h := h.1 hc
          refine lv_iconst (v := 0) hx hb dX4_isEnd_46 (by decide) ?_
          refine wz_mono hQz ?_
          exact W.zret (v := 0) hx hb hr rfl (fun t ht hW => ⟨⟨0, (), rfl, h, by rw [ht]; exact hP, va_K.moved hW.alike hK, hD⟩, hS.F ht⟩) hS.2.2 dX4_isEnd_47
        · replace h := h.2 hc
          refine lv_iconst (v := 1) hx hb dX4_isEnd_42 (by decide) ?_
          refine lv_goto (tgt := 47) hx hb dX4_isEnd_43 (by decide) ?_
          refine wz_mono hQz ?_
          exact W.zret (v := 1) hx hb hr rfl (fun t ht hW => ⟨⟨1, (), rfl, h, by rw [ht]; exact hP, va_K.moved hW.alike hK, hD⟩, hS.F ht⟩) hS.2.2 dX4_isEnd_47
      · replace h := h.2 hc
        refine lv_iload_n hx hb dX4_isEnd_12 rfl (lv_at hl 2 rfl) ?_
        refine lv_if_ne (tgt := 26) hx hb dX4_isEnd_13 (by decide) (fun hc => ?_) (fun hc => ?_)
        · replace h := h.1 hc
          refine lv_iconst (v := 1) hx hb dX4_isEnd_26 (by decide) ?_
          refine lv_goto (tgt := 31) hx hb dX4_isEnd_27 (by decide) ?_
          refine lv_istore_n (lv' := [(2, .int 1), (0, .ref (a 0)), (1, .int v1), (3, .int v3_4)]) hx hb dX4_isEnd_31 rfl hl (by decide) rfl (fun ls hl => ?_)
          refine lv_iinc (v := (v3_4 + 1)) (lv' := [(3, .int (v3_4 + 1)), (2, .int 1), (0, .ref (a 0)), (1, .int v1)]) hx hb dX4_isEnd_32 hl (k := 3) rfl rfl (by decide) rfl (fun ls hl => ?_)
          refine lv_goto (tgt := 4) hx hb dX4_isEnd_35 (by decide) ?_
          exact ih4 1 (v3_4 + 1) h _ _ hP hD hS _ (lv_sub hl [2, 3, 1, 0] rfl)
        · replace h := h.2 hc
          refine lv_aload_n hx hb dX4_isEnd_16 rfl (lv_at hl 0 rfl) ?_
          refine va_get (D := D) (ci := 4) (v := .ref (a 5)) (C := RX4) (T := TX4) (N := 32) hx hb hts hinX4 hown hK hP 0 rfl rfl 12 (by decide) (hts (.fieldLink RX4 22 "WorstPathsModel" "from" "[I") (by decide +kernel)) (fun _ h9 => h9) rfl dX4_isEnd_17 ?_
          refine lv_iload_n hx hb dX4_isEnd_20 rfl (lv_at hl 3 rfl) ?_
          obtain ⟨hq, h⟩ := h
          refine va_iald (D := D) hx hb hK hP 5 0 rfl rfl hq dX4_isEnd_21 ?_
          refine lv_iload_n hx hb dX4_isEnd_22 rfl (lv_at hl 1 rfl) ?_
          refine lv_icmp_ne (tgt := 30) hx hb dX4_isEnd_23 (by decide) (fun hc => ?_) (fun hc => ?_)
          · replace h := h.1 hc
            refine lv_iconst (v := 0) hx hb dX4_isEnd_30 (by decide) ?_
            refine lv_istore_n (lv' := [(2, .int 0), (0, .ref (a 0)), (1, .int v1), (3, .int v3_4)]) hx hb dX4_isEnd_31 rfl hl (by decide) rfl (fun ls hl => ?_)
            refine lv_iinc (v := (v3_4 + 1)) (lv' := [(3, .int (v3_4 + 1)), (2, .int 0), (0, .ref (a 0)), (1, .int v1)]) hx hb dX4_isEnd_32 hl (k := 3) rfl rfl (by decide) rfl (fun ls hl => ?_)
            refine lv_goto (tgt := 4) hx hb dX4_isEnd_35 (by decide) ?_
            exact ih4 0 (v3_4 + 1) h _ _ hP hD hS _ (lv_sub hl [2, 3, 1, 0] rfl)
          · replace h := h.2 hc
            refine lv_iconst (v := 1) hx hb dX4_isEnd_26 (by decide) ?_
            refine lv_goto (tgt := 31) hx hb dX4_isEnd_27 (by decide) ?_
            refine lv_istore_n (lv' := [(2, .int 1), (0, .ref (a 0)), (1, .int v1), (3, .int v3_4)]) hx hb dX4_isEnd_31 rfl hl (by decide) rfl (fun ls hl => ?_)
            refine lv_iinc (v := (v3_4 + 1)) (lv' := [(3, .int (v3_4 + 1)), (2, .int 1), (0, .ref (a 0)), (1, .int v1)]) hx hb dX4_isEnd_32 hl (k := 3) rfl rfl (by decide) rfl (fun ls hl => ?_)
            refine lv_goto (tgt := 4) hx hb dX4_isEnd_35 (by decide) ?_
            exact ih4 1 (v3_4 + 1) h _ _ hP hD hS _ (lv_sub hl [2, 3, 1, 0] rfl)
  obtain ⟨k9, h⟩ := h
  exact LP4 k9 0 0 h _ _ hP hD hS _ (lv_sub hl [2, 3, 1, 0] rfl)
def lp_X4_firstUnknown_9 (v1 : Int32) (v2 : Int32) (m_blocks : Int32) (m_edges : Int32) (m_pairs : Int32) (m_from : Nat → Int32) (m_to : Nat → Int32) (m_bound : Nat → Int32) (m_pairA : Nat → Int32) (m_pairB : Nat → Int32) (m_countUnit : Nat → Int32) (m_flagUnit : Nat → Int32) (m_worst : Nat → Int64) (Q : Int32 → Prop) : Nat → Int32 → Prop
  | 0, _ => False
  | n + 1, v3 => (m_edges ≤ v3 → Q (-1)) ∧ (¬ m_edges ≤ v3 → vp_in v3 80 ∧ ((¬ (m_from (Int32.toNatClampNeg v3)) = v2 → (lp_X4_firstUnknown_9 v1 v2 m_blocks m_edges m_pairs m_from m_to m_bound m_pairA m_pairB m_countUnit m_flagUnit m_worst Q n) (v3 + 1)) ∧ ((m_from (Int32.toNatClampNeg v3)) = v2 → wp_X4_allows v1 v3 m_pairs m_bound m_pairA m_pairB m_countUnit m_flagUnit (fun r_30 => (r_30 = 0 → (lp_X4_firstUnknown_9 v1 v2 m_blocks m_edges m_pairs m_from m_to m_bound m_pairA m_pairB m_countUnit m_flagUnit m_worst Q n) (v3 + 1)) ∧ (¬ r_30 = 0 → wp_X4_behind v1 v3 m_from m_to m_bound m_countUnit m_flagUnit (fun r_43 => vp_in r_43 40000 ∧ ((¬ (lg_cmp (m_worst (Int32.toNatClampNeg r_43)) (-2)) = 0 → (lp_X4_firstUnknown_9 v1 v2 m_blocks m_edges m_pairs m_from m_to m_bound m_pairA m_pairB m_countUnit m_flagUnit m_worst Q n) (v3 + 1)) ∧ ((lg_cmp (m_worst (Int32.toNatClampNeg r_43)) (-2)) = 0 → wp_X4_behind v1 v3 m_from m_to m_bound m_countUnit m_flagUnit (fun r_57 => Q r_57)))))))))
def wp_X4_firstUnknown (v1 : Int32) (m_blocks : Int32) (m_edges : Int32) (m_pairs : Int32) (m_from : Nat → Int32) (m_to : Nat → Int32) (m_bound : Nat → Int32) (m_pairA : Nat → Int32) (m_pairB : Nat → Int32) (m_countUnit : Nat → Int32) (m_flagUnit : Nat → Int32) (m_worst : Nat → Int64) (Q : Int32 → Prop) : Prop := (¬ (m_blocks : Int32) = 0) ∧ (∃ k9, lp_X4_firstUnknown_9 v1 (v1 - v1 / m_blocks * m_blocks) m_blocks m_edges m_pairs m_from m_to m_bound m_pairA m_pairB m_countUnit m_flagUnit m_worst Q k9 0)
abbrev rm_X4_firstUnknown : Room := { frames := 2, cells := 0, slots := 0, locals := 46 }
set_option maxHeartbeats 4000000 in
set_option maxRecDepth 100000 in
theorem c_X4_firstUnknown (l : Launch) (D : va_G) (a : Nat → Nat) (cI : ClassId) (cZ : ClassId) (cJ : ClassId) (sz : Nat) (m_thrown : Int32) (m_sets : Int32) (m_ways : Int32) (m_penalty : Int32) (m_blocks : Int32) (m_edges : Int32) (m_pairs : Int32) (m_lines : Int32) (m_isFresh : Int32) (m_isAnswer : Int32) (m_time : Nat → Int32) (m_touchMany : Nat → Int32) (m_touch : Nat → Int32) (m_line : Nat → Int32) (m_from : Nat → Int32) (m_to : Nat → Int32) (m_bound : Nat → Int32) (m_pairA : Nat → Int32) (m_pairB : Nat → Int32) (m_comeTo : Nat → Int32) (m_greatest : Nat → Int32) (m_least : Nat → Int32) (m_nowGreatest : Nat → Int32) (m_nowLeast : Nat → Int32) (m_does : Nat → Int32) (m_mostTime : Nat → Int64) (m_leastTime : Nat → Int64) (m_countUnit : Nat → Int32) (m_flagUnit : Nat → Int32) (m_worst : Nat → Int64) (m_best : Nat → Int64) (m_stack : Nat → Int32) (v1 : Int32) (Q : Int32 → Prop) (h : wp_X4_firstUnknown v1 m_blocks m_edges m_pairs m_from m_to m_bound m_pairA m_pairB m_countUnit m_flagUnit m_worst Q) : Met l yX4_firstUnknown wsX4_firstUnknown rm_X4_firstUnknown (va_Pc [.ref (a 0), .int v1] (inW D cI cZ cJ sz (wM a cI cZ cJ m_thrown m_sets m_ways m_penalty m_blocks m_edges m_pairs m_lines m_isFresh m_isAnswer m_time m_touchMany m_touch m_line m_from m_to m_bound m_pairA m_pairB m_comeTo m_greatest m_least m_nowGreatest m_nowLeast m_does m_mostTime m_leastTime m_countUnit m_flagUnit m_worst m_best m_stack))) (va_Qi (fun (r : Int32) (u : Unit) => Q r) (fun (u : Unit) => outW D cI cZ cJ (va_A (wM a cI cZ cJ m_thrown m_sets m_ways m_penalty m_blocks m_edges m_pairs m_lines m_isFresh m_isAnswer m_time m_touchMany m_touch m_line m_from m_to m_bound m_pairA m_pairB m_comeTo m_greatest m_least m_nowGreatest m_nowLeast m_does m_mostTime m_leastTime m_countUnit m_flagUnit m_worst m_best m_stack) sz) (wM a cI cZ cJ m_thrown m_sets m_ways m_penalty m_blocks m_edges m_pairs m_lines m_isFresh m_isAnswer m_time m_touchMany m_touch m_line m_from m_to m_bound m_pairA m_pairB m_comeTo m_greatest m_least m_nowGreatest m_nowLeast m_does m_mostTime m_leastTime m_countUnit m_flagUnit m_worst m_best m_stack)) (va_A (wM a cI cZ cJ m_thrown m_sets m_ways m_penalty m_blocks m_edges m_pairs m_lines m_isFresh m_isAnswer m_time m_touchMany m_touch m_line m_from m_to m_bound m_pairA m_pairB m_comeTo m_greatest m_least m_nowGreatest m_nowLeast m_does m_mostTime m_leastTime m_countUnit m_flagUnit m_worst m_best m_stack) sz)) 0 0 (va_A (wM a cI cZ cJ m_thrown m_sets m_ways m_penalty m_blocks m_edges m_pairs m_lines m_isFresh m_isAnswer m_time m_touchMany m_touch m_line m_from m_to m_bound m_pairA m_pairB m_comeTo m_greatest m_least m_nowGreatest m_nowLeast m_does m_mostTime m_leastTime m_countUnit m_flagUnit m_worst m_best m_stack) sz) := by
  refine Met.ofW (cc := cX4_firstUnknown) (maxL := 4) (ret := (some .int)) (by decide +kernel) rfl ?_
  intro p e s m args below meth c s₁ B hml hv
  obtain ⟨rfl, hsz, hP, hK, hD0⟩ := hv
  have hx := B.exec
  have hb := B.bytes
  have hr := B.returns
  have hts := atoms_spec (ws := wsX4_firstUnknown) B.pre
  have hown : s.vm.findClass RX4 = some m.cls := findClass_of_methodNamed B.named
  have hlocks := B.notSynchronized
  have hinX4 : ∀ w ∈ wsX40, w ∈ wsX4_firstUnknown := by decide +kernel
  subst hsz
  have hD := hD0.self (sz := s.heap.size)
  generalize hAe : va_A (wM a cI cZ cJ m_thrown m_sets m_ways m_penalty m_blocks m_edges m_pairs m_lines m_isFresh m_isAnswer m_time m_touchMany m_touch m_line m_from m_to m_bound m_pairA m_pairB m_comeTo m_greatest m_least m_nowGreatest m_nowLeast m_does m_mostTime m_leastTime m_countUnit m_flagUnit m_worst m_best m_stack) s.heap.size = A at hD ⊢
  have hA : ∀ q : Nat, s.heap.size ≤ q → A q := fun q h => by rw [← hAe]; exact Or.inr h
  have hS : va_S A s.heap s.heap [] := va_S.rf
  have hP : va_P D vwCl (wM a cI cZ cJ m_thrown m_sets m_ways m_penalty m_blocks m_edges m_pairs m_lines m_isFresh m_isAnswer m_time m_touchMany m_touch m_line m_from m_to m_bound m_pairA m_pairB m_comeTo m_greatest m_least m_nowGreatest m_nowLeast m_does m_mostTime m_leastTime m_countUnit m_flagUnit m_worst m_best m_stack) s.heap := hP
  have hl := lv_entry ([.ref (a 0), .int v1]) (n := 4) (Nat.le_of_ble_eq_true rfl)
  rw [lg_entry_eq]
  generalize (lg_sl ([.ref (a 0), .int v1]) ++ List.replicate (4 - (lg_sl ([.ref (a 0), .int v1])).length) Slot.unset).toArray = ls at hl ⊢
  have hl : lv_has ls 4 [(0, .ref (a 0)), (1, .int v1)] := hl
  refine wz_abs (fun Qz hQz => ?_)
  unfold wp_X4_firstUnknown at h
  refine lv_iload_n hx hb dX4_firstUnknown_0 rfl (lv_at hl 1 rfl) ?_
  refine lv_aload_n hx hb dX4_firstUnknown_1 rfl (lv_at hl 0 rfl) ?_
  refine va_get (D := D) (ci := 4) (v := .int m_blocks) (C := RX4) (T := TX4) (N := 32) hx hb hts hinX4 hown hK hP 0 rfl rfl 4 (by decide) (hts (.fieldLink RX4 106 "WorstPathsModel" "blocks" "I") (by decide +kernel)) (fun _ h9 => h9) rfl dX4_firstUnknown_2 ?_
  obtain ⟨hq, h⟩ := h
  refine lv_irem hx hb dX4_firstUnknown_5 hq ?_
  refine lv_istore_n (lv' := [(2, .int (v1 - v1 / m_blocks * m_blocks)), (0, .ref (a 0)), (1, .int v1)]) hx hb dX4_firstUnknown_6 rfl hl (by decide) rfl (fun ls hl => ?_)
  refine lv_iconst (v := 0) hx hb dX4_firstUnknown_7 (by decide) ?_
  refine lv_istore_n (lv' := [(3, .int 0), (2, .int (v1 - v1 / m_blocks * m_blocks)), (0, .ref (a 0)), (1, .int v1)]) hx hb dX4_firstUnknown_8 rfl hl (by decide) rfl (fun ls hl => ?_)
  have LP9 : ∀ (n9 : Nat) (v3_9 : Int32), lp_X4_firstUnknown_9 v1 (v1 - v1 / m_blocks * m_blocks) m_blocks m_edges m_pairs m_from m_to m_bound m_pairA m_pairB m_countUnit m_flagUnit m_worst Q n9 v3_9 → ∀ (H : Heap) (locs : List Loc), va_P D vwCl (wM a cI cZ cJ m_thrown m_sets m_ways m_penalty m_blocks m_edges m_pairs m_lines m_isFresh m_isAnswer m_time m_touchMany m_touch m_line m_from m_to m_bound m_pairA m_pairB m_comeTo m_greatest m_least m_nowGreatest m_nowLeast m_does m_mostTime m_leastTime m_countUnit m_flagUnit m_worst m_best m_stack) H → va_D A (wM a cI cZ cJ m_thrown m_sets m_ways m_penalty m_blocks m_edges m_pairs m_lines m_isFresh m_isAnswer m_time m_touchMany m_touch m_line m_from m_to m_bound m_pairA m_pairB m_comeTo m_greatest m_least m_nowGreatest m_nowLeast m_does m_mostTime m_leastTime m_countUnit m_flagUnit m_worst m_best m_stack) → va_S A s.heap H locs → ∀ (ls : Array Slot), lv_has ls 4 [(0, .ref (a 0)), (1, .int v1), (2, .int (v1 - v1 / m_blocks * m_blocks)), (3, .int v3_9)] → W p l e (headSpec wsX4_firstUnknown rm_X4_firstUnknown).room s m ([Value.ref (a 0), Value.int v1] : List Value).toArray below meth c H locs 0 0 Qz (F0 m 9 ls []) := by
    intro n9
    induction n9 with
    | zero => intro v3_9 h; exact h.elim
    | succ n9 ih9 =>
      intro v3_9 h H locs hP hD hS ls hl
      unfold lp_X4_firstUnknown_9 at h
      refine lv_iload_n hx hb dX4_firstUnknown_9 rfl (lv_at hl 3 rfl) ?_
      refine lv_aload_n hx hb dX4_firstUnknown_10 rfl (lv_at hl 0 rfl) ?_
      refine va_get (D := D) (ci := 4) (v := .int m_edges) (C := RX4) (T := TX4) (N := 32) hx hb hts hinX4 hown hK hP 0 rfl rfl 5 (by decide) (hts (.fieldLink RX4 119 "WorstPathsModel" "edges" "I") (by decide +kernel)) (fun _ h9 => h9) rfl dX4_firstUnknown_11 ?_
      refine lv_icmp_ge (tgt := 67) hx hb dX4_firstUnknown_14 (by decide) (fun hc => ?_) (fun hc => ?_)
      · replace h := h.1 hc
        refine lv_iconst (v := (-1)) hx hb dX4_firstUnknown_67 (by decide) ?_
        refine wz_mono hQz ?_
        exact W.iret (v := (-1)) hx hb hr (fun t ht hW => ⟨⟨(-1), (), rfl, h, by rw [ht]; exact hP, va_K.moved hW.alike hK, hD⟩, hS.F ht⟩) hS.2.2 dX4_firstUnknown_68
      · replace h := h.2 hc
        refine lv_aload_n hx hb dX4_firstUnknown_17 rfl (lv_at hl 0 rfl) ?_
        refine va_get (D := D) (ci := 4) (v := .ref (a 5)) (C := RX4) (T := TX4) (N := 32) hx hb hts hinX4 hown hK hP 0 rfl rfl 12 (by decide) (hts (.fieldLink RX4 22 "WorstPathsModel" "from" "[I") (by decide +kernel)) (fun _ h9 => h9) rfl dX4_firstUnknown_18 ?_
        refine lv_iload_n hx hb dX4_firstUnknown_21 rfl (lv_at hl 3 rfl) ?_
        obtain ⟨hq, h⟩ := h
        refine va_iald (D := D) hx hb hK hP 5 0 rfl rfl hq dX4_firstUnknown_22 ?_
        refine lv_iload_n hx hb dX4_firstUnknown_23 rfl (lv_at hl 2 rfl) ?_
        refine lv_icmp_ne (tgt := 61) hx hb dX4_firstUnknown_24 (by decide) (fun hc => ?_) (fun hc => ?_)
        · replace h := h.1 hc
          refine lv_iinc (v := (v3_9 + 1)) (lv' := [(3, .int (v3_9 + 1)), (0, .ref (a 0)), (1, .int v1), (2, .int (v1 - v1 / m_blocks * m_blocks))]) hx hb dX4_firstUnknown_61 hl (k := 3) rfl rfl (by decide) rfl (fun ls hl => ?_)
          refine lv_goto (tgt := 9) hx hb dX4_firstUnknown_64 (by decide) ?_
          exact ih9 (v3_9 + 1) h _ _ hP hD hS _ (lv_sub hl [1, 2, 3, 0] rfl)
        · replace h := h.2 hc
          refine lv_aload_n hx hb dX4_firstUnknown_27 rfl (lv_at hl 0 rfl) ?_
          refine lv_iload_n hx hb dX4_firstUnknown_28 rfl (lv_at hl 1 rfl) ?_
          refine lv_iload_n hx hb dX4_firstUnknown_29 rfl (lv_at hl 3 rfl) ?_
          have hF := wz_free hD hS hA
          refine va_calli (va_runV (As := [.int v1, .int v3_9]) (rest := []) ⟨hx, hb, hml, hown, hts⟩ (c_X4_allows l D a cI cZ cJ _ m_thrown m_sets m_ways m_penalty m_blocks m_edges m_pairs m_lines m_isFresh m_isAnswer m_time m_touchMany m_touch m_line m_from m_to m_bound m_pairA m_pairB m_comeTo m_greatest m_least m_nowGreatest m_nowLeast m_does m_mostTime m_leastTime m_countUnit m_flagUnit m_worst m_best m_stack v1 v3_9 _ h) (cwV 2 hts gX4_firstUnknown_X4_allows rfl rfl rfl (by decide +kernel) ⟨Nat.le_of_ble_eq_true rfl, Nat.le_of_ble_eq_true rfl⟩) ⟨wz_blind, va_recv hK hP (ci := 4) (q0 := 0) rfl rfl, fun U hU hW => wz_at hU hW hP hK hD⟩ rfl rfl hl.1 rfl (lv_room (Nat.le_of_ble_eq_true rfl)) dX4_firstUnknown_30 ⟨Nat.zero_le _, Nat.zero_le _⟩) hS (fun q _ hq => hF q hq) hF (fun r_30 u t H locs ht hvm h hB hz1 hk1 hS => ?_)
          obtain ⟨hP, -, hD⟩ := wz_back ht hF hB
          have hP : va_P D vwCl (wM a cI cZ cJ m_thrown m_sets m_ways m_penalty m_blocks m_edges m_pairs m_lines m_isFresh m_isAnswer m_time m_touchMany m_touch m_line m_from m_to m_bound m_pairA m_pairB m_comeTo m_greatest m_least m_nowGreatest m_nowLeast m_does m_mostTime m_leastTime m_countUnit m_flagUnit m_worst m_best m_stack) H := hP
          have hD : va_D A (wM a cI cZ cJ m_thrown m_sets m_ways m_penalty m_blocks m_edges m_pairs m_lines m_isFresh m_isAnswer m_time m_touchMany m_touch m_line m_from m_to m_bound m_pairA m_pairB m_comeTo m_greatest m_least m_nowGreatest m_nowLeast m_does m_mostTime m_leastTime m_countUnit m_flagUnit m_worst m_best m_stack) := hD
          refine lv_if_eq (tgt := 61) hx hb dX4_firstUnknown_33 (by decide) (fun hc => ?_) (fun hc => ?_)
          · replace h := h.1 hc
            refine lv_iinc (v := (v3_9 + 1)) (lv' := [(3, .int (v3_9 + 1)), (0, .ref (a 0)), (1, .int v1), (2, .int (v1 - v1 / m_blocks * m_blocks))]) hx hb dX4_firstUnknown_61 hl (k := 3) rfl rfl (by decide) rfl (fun ls hl => ?_)
            refine lv_goto (tgt := 9) hx hb dX4_firstUnknown_64 (by decide) ?_
            exact ih9 (v3_9 + 1) h _ _ hP hD hS _ (lv_sub hl [1, 2, 3, 0] rfl)
          · replace h := h.2 hc
            refine lv_aload_n hx hb dX4_firstUnknown_36 rfl (lv_at hl 0 rfl) ?_
            refine va_get (D := D) (ci := 4) (v := .ref (a 20)) (C := RX4) (T := TX4) (N := 32) hx hb hts hinX4 hown hK hP 0 rfl rfl 29 (by decide) (hts (.fieldLink RX4 70 "WorstPathsModel" "worst" "[J") (by decide +kernel)) (fun _ h9 => h9) rfl dX4_firstUnknown_37 ?_
            refine lv_aload_n hx hb dX4_firstUnknown_40 rfl (lv_at hl 0 rfl) ?_
            refine lv_iload_n hx hb dX4_firstUnknown_41 rfl (lv_at hl 1 rfl) ?_
            refine lv_iload_n hx hb dX4_firstUnknown_42 rfl (lv_at hl 3 rfl) ?_
            have hF := wz_free hD hS hA
            refine va_calli (va_runV (As := [.int v1, .int v3_9]) (rest := [.ref (a 20)]) ⟨hx, hb, hml, hown, hts⟩ (c_X4_behind l D a cI cZ cJ _ m_thrown m_sets m_ways m_penalty m_blocks m_edges m_pairs m_lines m_isFresh m_isAnswer m_time m_touchMany m_touch m_line m_from m_to m_bound m_pairA m_pairB m_comeTo m_greatest m_least m_nowGreatest m_nowLeast m_does m_mostTime m_leastTime m_countUnit m_flagUnit m_worst m_best m_stack v1 v3_9 _ h) (cwV 2 hts gX4_firstUnknown_X4_behind rfl rfl rfl (by decide +kernel) ⟨Nat.le_of_ble_eq_true rfl, Nat.le_of_ble_eq_true rfl⟩) ⟨wz_blind, va_recv hK hP (ci := 4) (q0 := 0) rfl rfl, fun U hU hW => wz_at hU hW hP hK hD⟩ rfl rfl hl.1 rfl (lv_room (Nat.le_of_ble_eq_true rfl)) dX4_firstUnknown_43 ⟨Nat.zero_le _, Nat.zero_le _⟩) hS (fun q _ hq => hF q hq) hF (fun r_43 u t H locs ht hvm h hB hz1 hk1 hS => ?_)
            obtain ⟨hP, -, hD⟩ := wz_back ht hF hB
            have hP : va_P D vwCl (wM a cI cZ cJ m_thrown m_sets m_ways m_penalty m_blocks m_edges m_pairs m_lines m_isFresh m_isAnswer m_time m_touchMany m_touch m_line m_from m_to m_bound m_pairA m_pairB m_comeTo m_greatest m_least m_nowGreatest m_nowLeast m_does m_mostTime m_leastTime m_countUnit m_flagUnit m_worst m_best m_stack) H := hP
            have hD : va_D A (wM a cI cZ cJ m_thrown m_sets m_ways m_penalty m_blocks m_edges m_pairs m_lines m_isFresh m_isAnswer m_time m_touchMany m_touch m_line m_from m_to m_bound m_pairA m_pairB m_comeTo m_greatest m_least m_nowGreatest m_nowLeast m_does m_mostTime m_leastTime m_countUnit m_flagUnit m_worst m_best m_stack) := hD
            obtain ⟨hq, h⟩ := h
            refine va_lald (D := D) hx hb hK hP 20 2 rfl rfl hq dX4_firstUnknown_46 ?_
            refine lv_ldc2 (v := (-2)) hx hb hown (hts (.constantLong RX4 152 ((-2))) (by decide +kernel)) dX4_firstUnknown_47 ?_
            refine W.lcmp hx hb dX4_firstUnknown_50 ?_
            refine lv_if_ne (tgt := 61) hx hb dX4_firstUnknown_51 (by decide) (fun hc => ?_) (fun hc => ?_)
            · replace h := h.1 hc
              refine lv_iinc (v := (v3_9 + 1)) (lv' := [(3, .int (v3_9 + 1)), (0, .ref (a 0)), (1, .int v1), (2, .int (v1 - v1 / m_blocks * m_blocks))]) hx hb dX4_firstUnknown_61 hl (k := 3) rfl rfl (by decide) rfl (fun ls hl => ?_)
              refine lv_goto (tgt := 9) hx hb dX4_firstUnknown_64 (by decide) ?_
              exact ih9 (v3_9 + 1) h _ _ hP hD hS _ (lv_sub hl [1, 2, 3, 0] rfl)
            · replace h := h.2 hc
              refine lv_aload_n hx hb dX4_firstUnknown_54 rfl (lv_at hl 0 rfl) ?_
              refine lv_iload_n hx hb dX4_firstUnknown_55 rfl (lv_at hl 1 rfl) ?_
              refine lv_iload_n hx hb dX4_firstUnknown_56 rfl (lv_at hl 3 rfl) ?_
              have hF := wz_free hD hS hA
              refine va_calli (va_runV (As := [.int v1, .int v3_9]) (rest := []) ⟨hx, hb, hml, hown, hts⟩ (c_X4_behind l D a cI cZ cJ _ m_thrown m_sets m_ways m_penalty m_blocks m_edges m_pairs m_lines m_isFresh m_isAnswer m_time m_touchMany m_touch m_line m_from m_to m_bound m_pairA m_pairB m_comeTo m_greatest m_least m_nowGreatest m_nowLeast m_does m_mostTime m_leastTime m_countUnit m_flagUnit m_worst m_best m_stack v1 v3_9 _ h) (cwV 2 hts gX4_firstUnknown_X4_behind rfl rfl rfl (by decide +kernel) ⟨Nat.le_of_ble_eq_true rfl, Nat.le_of_ble_eq_true rfl⟩) ⟨wz_blind, va_recv hK hP (ci := 4) (q0 := 0) rfl rfl, fun U hU hW => wz_at hU hW hP hK hD⟩ rfl rfl hl.1 rfl (lv_room (Nat.le_of_ble_eq_true rfl)) dX4_firstUnknown_57 ⟨Nat.zero_le _, Nat.zero_le _⟩) hS (fun q _ hq => hF q hq) hF (fun r_57 u t H locs ht hvm h hB hz1 hk1 hS => ?_)
              obtain ⟨hP, -, hD⟩ := wz_back ht hF hB
              have hP : va_P D vwCl (wM a cI cZ cJ m_thrown m_sets m_ways m_penalty m_blocks m_edges m_pairs m_lines m_isFresh m_isAnswer m_time m_touchMany m_touch m_line m_from m_to m_bound m_pairA m_pairB m_comeTo m_greatest m_least m_nowGreatest m_nowLeast m_does m_mostTime m_leastTime m_countUnit m_flagUnit m_worst m_best m_stack) H := hP
              have hD : va_D A (wM a cI cZ cJ m_thrown m_sets m_ways m_penalty m_blocks m_edges m_pairs m_lines m_isFresh m_isAnswer m_time m_touchMany m_touch m_line m_from m_to m_bound m_pairA m_pairB m_comeTo m_greatest m_least m_nowGreatest m_nowLeast m_does m_mostTime m_leastTime m_countUnit m_flagUnit m_worst m_best m_stack) := hD
              refine wz_mono hQz ?_
              exact W.iret (v := r_57) hx hb hr (fun t ht hW => ⟨⟨r_57, (), rfl, h, by rw [ht]; exact hP, va_K.moved hW.alike hK, hD⟩, hS.F ht⟩) hS.2.2 dX4_firstUnknown_60
  obtain ⟨k9, h⟩ := h
  exact LP9 k9 0 h _ _ hP hD hS _ (lv_sub hl [2, 3, 1, 0] rfl)
