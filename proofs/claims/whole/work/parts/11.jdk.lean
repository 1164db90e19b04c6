/-! Arrays.fill of ints: any world that holds the row at a place -/
theorem fl_0 (f : Nat → Int32) (v : Int32) : filled f 0 v = f := by
  funext j
  simp [filled]
theorem fl_s (f : Nat → Int32) (v : Int32) (i : Nat) : upd (filled f i v) i v = filled f (i + 1) v := by
  funext j
  unfold upd filled
  by_cases h : j = i
  · subst h
    simp
  · by_cases h2 : j < i
    · have h3 : j < i + 1 := by omega
      simp [h, h2, h3]
    · have h3 : ¬ j < i + 1 := by omega
      simp [h, h2, h3]
theorem fl_set {w : va_W} {k : Nat} {x : Nat × va_E} (hk : w[k]? = some x) : w.set k x = w := by
  apply List.ext_getElem?
  intro i
  by_cases h : k = i
  · subst h
    rw [List.getElem?_set_self (List.getElem?_eq_some_iff.mp hk).1, hk]
  · rw [List.getElem?_set_ne h]
abbrev rm_fill : Room := { frames := 0, cells := 0, slots := 0, locals := 0 }
set_option maxHeartbeats 4000000 in
set_option maxRecDepth 100000 in
theorem c_fill (l : Launch) (D : va_G) (cI cZ cJ : ClassId) (sz : Nat) (w : va_W) (k q n : Nat) (f : Nat → Int32) (v : Int32) (hn : n < 2 ^ 31) (hk : w[k]? = some (q, .inl (cI, n, .inl f))) : Met l yJ7_fill_53178 wsJ7_fill_53178 rm_fill (va_Pc [.ref q, .int v] (inW D cI cZ cJ sz w)) (va_Qv (fun _ : Unit => True) (fun _ => outW D cI cZ cJ (va_A w sz) (w.set k (q, .inl (cI, n, .inl (filled f n v))))) (va_A w sz)) 0 0 (va_A w sz) := by
  refine Met.ofW (cc := cJ7_fill_53178) (maxL := 4) (ret := none) (by decide) rfl ?_
  intro p e s m args below meth c s₁ B hml hv
  obtain ⟨rfl, hsz, hP, hK, hD0⟩ := hv
  have hx := B.exec
  have hb := B.bytes
  have hr := B.returns
  have hlocks := B.notSynchronized
  subst hsz
  have hD := hD0.self (sz := s.heap.size)
  have hlt : k < w.length := (List.getElem?_eq_some_iff.mp hk).1
  generalize hAe : va_A w s.heap.size = A at hD ⊢
  have hS : va_S A s.heap s.heap [] := va_S.rf
  have hl := lv_entry ([.ref q, .int v]) (n := 4) (Nat.le_of_ble_eq_true rfl)
  rw [lg_entry_eq]
  generalize (lg_sl ([.ref q, .int v]) ++ List.replicate (4 - (lg_sl ([.ref q, .int v])).length) Slot.unset).toArray = ls at hl ⊢
  have hl : lv_has ls 4 [(0, .ref q), (1, .int v)] := hl
  have e0 : w.set k (q, .inl (cI, n, .inl (filled f 0 v))) = w := by rw [fl_0]; exact fl_set hk
  have at9 : ∀ g : Nat → Int32, (w.set k (q, .inl (cI, n, .inl g)))[k]? = some (q, .inl (cI, n, .inl g)) := fun g => List.getElem?_set_self hlt
  refine wz_abs (fun Qz hQz => ?_)
  refine lv_iconst (v := 0) hx hb dJ7_fill_53178_0 (by decide) ?_
  refine lv_istore_n (lv' := [(2, .int 0), (0, .ref q), (1, .int v)]) hx hb dJ7_fill_53178_1 rfl hl (by decide) rfl (fun ls hl => ?_)
  refine lv_aload_n hx hb dJ7_fill_53178_2 rfl (lv_at hl 1 rfl) ?_
  refine va_alen (D := D) (v := nI n) hx hb hK hP k 0 hk rfl rfl dJ7_fill_53178_3 ?_
  refine lv_istore_n (lv' := [(3, .int (nI n)), (2, .int 0), (0, .ref q), (1, .int v)]) hx hb dJ7_fill_53178_4 rfl hl (by decide) rfl (fun ls hl => ?_)
  have LP : ∀ (u i : Nat), i ≤ n → n + 1 ≤ i + u → ∀ (H : Heap) (locs : List Loc), va_P D vwCl (w.set k (q, .inl (cI, n, .inl (filled f i v)))) H → va_D A (w.set k (q, .inl (cI, n, .inl (filled f i v)))) → va_S A s.heap H locs → ∀ (ls : Array Slot), lv_has ls 4 [(0, .ref q), (1, .int v), (2, .int (nI i)), (3, .int (nI n))] → W p l e (headSpec wsJ7_fill_53178 rm_fill).room s m (([Value.ref q, Value.int v] : List Value).toArray) below meth c H locs 0 0 Qz (F0 m 5 ls []) := by
    intro u
    induction u with
    | zero => intro i h1 h2; exact absurd h2 (by omega)
    | succ u ih =>
      intro i hi hu H locs hP hD hS ls hl
      refine lv_iload_n hx hb dJ7_fill_53178_5 rfl (lv_at hl 2 rfl) ?_
      refine lv_iload_n hx hb dJ7_fill_53178_6 rfl (lv_at hl 3 rfl) ?_
      refine lv_icmp_ge (tgt := 20) hx hb dJ7_fill_53178_7 (by decide) (fun hc => ?_) (fun hc => ?_)
      · have hin : i = n := by
          have := (nI_leI hn (by omega)).mp hc
          omega
        subst hin
        refine wz_mono hQz ?_
        exact W.vret hx hb hr (fun t ht hW => ⟨⟨(), rfl, trivial, by rw [ht]; exact hP, va_K.moved hW.alike hK, hD⟩, hS.F ht⟩) hS.2.2 dJ7_fill_53178_20
      · have hlt2 : i < n := by
          rcases Nat.lt_or_ge i n with h | h
          · exact h
          · exact absurd ((nI_leI hn (by omega)).mpr h) hc
        refine lv_aload_n hx hb dJ7_fill_53178_10 rfl (lv_at hl 0 rfl) ?_
        refine lv_iload_n hx hb dJ7_fill_53178_11 rfl (lv_at hl 2 rfl) ?_
        refine lv_iload_n hx hb dJ7_fill_53178_12 rfl (lv_at hl 1 rfl) ?_
        refine va_iast (D := D) hx hb hK hP hD hS k 0 (at9 _) rfl (vp_in_nI hlt2 hn) dJ7_fill_53178_13 (fun H locs hP hD hS => ?_)
        rw [List.set_set, nI_clamp (by omega), fl_s] at hP hD
        refine lv_iinc (v := nI (i + 1)) (lv' := [(2, .int (nI (i + 1))), (0, .ref q), (1, .int v), (3, .int (nI n))]) hx hb dJ7_fill_53178_14 hl (k := 2) rfl (nI_1 i) (by decide) rfl (fun ls hl => ?_)
        refine lv_goto (tgt := 5) hx hb dJ7_fill_53178_17 (by decide) ?_
        exact ih (i + 1) hlt2 (by omega) _ _ hP hD hS _ (lv_sub hl [1, 2, 0, 3] rfl)
  exact LP (n + 1) 0 (Nat.zero_le _) (by omega) _ _ (by rw [e0]; exact hP) (by rw [e0]; exact hD) hS _ (lv_sub hl [2, 3, 1, 0] rfl)
def wp_J9_floorMod_7cf53 (v0 : Int32) (v1 : Int32) (Q : Int32 → Prop) : Prop := (¬ (v1 : Int32) = 0) ∧ ((0 ≤ (v0 ^^^ v1) → Q (v0 - v0 / v1 * v1)) ∧ (¬ 0 ≤ (v0 ^^^ v1) → ((v0 - v0 / v1 * v1) = 0 → Q (v0 - v0 / v1 * v1)) ∧ (¬ (v0 - v0 / v1 * v1) = 0 → Q ((v0 - v0 / v1 * v1) + v1))))
abbrev rm_J9_floorMod_7cf53 : Room := { frames := 0, cells := 0, slots := 0, locals := 0 }
set_option maxHeartbeats 4000000 in
set_option maxRecDepth 100000 in
theorem c_J9_floorMod_7cf53 (l : Launch) (D : va_G) (w : va_W) (cI : ClassId) (cZ : ClassId) (cJ : ClassId) (sz : Nat) (v0 : Int32) (v1 : Int32) (Q : Int32 → Prop) (h : wp_J9_floorMod_7cf53 v0 v1 Q) : Met l yJ9_floorMod_7cf53 wsJ9_floorMod_7cf53 rm_J9_floorMod_7cf53 (va_Pc [.int v0, .int v1] (inW D cI cZ cJ sz (w))) (va_Qi (fun (r : Int32) (u : Unit) => Q r) (fun (u : Unit) => outW D cI cZ cJ (va_A (w) sz) (w)) (va_A (w) sz)) 0 0 (va_A (w) sz) := by
  refine wz_ofWF (cc := cJ9_floorMod_7cf53) (maxL := 3) (ret := (some .int)) (by decide +kernel) rfl ?_
  intro p e s m args below meth c s₁ B hml hv
  obtain ⟨rfl, hsz, hP, hK, hD0⟩ := hv
  have hx := B.exec
  have hb := B.bytes
  have hr := B.returns
  have hts := atoms_spec (ws := wsJ9_floorMod_7cf53) B.pre
  have hown : s.vm.findClass RJ9 = some m.cls := findClass_of_methodNamed B.named
  have hlocks := B.notSynchronized
  subst hsz
  have hD := hD0.self (sz := s.heap.size)
  generalize hAe : va_A (w) s.heap.size = A at hD ⊢
  have hA : ∀ q : Nat, s.heap.size ≤ q → A q := fun q h => by rw [← hAe]; exact Or.inr h
  have hS : va_S A s.heap s.heap [] := va_S.rf
  have hP : va_P D vwCl (w) s.heap := hP
  have hl := lv_entry ([.int v0, .int v1]) (n := 3) (Nat.le_of_ble_eq_true rfl)
  rw [lg_entry_eq]
  generalize (lg_sl ([.int v0, .int v1]) ++ List.replicate (3 - (lg_sl ([.int v0, .int v1])).length) Slot.unset).toArray = ls at hl ⊢
  have hl : lv_has ls 3 [(0, .int v0), (1, .int v1)] := hl
  refine wz_abs (fun Qz hQz => ?_)
  unfold wp_J9_floorMod_7cf53 at h
  refine lv_iload_n hx hb dJ9_floorMod_7cf53_0 rfl (lv_at hl 0 rfl) ?_
  refine lv_iload_n hx hb dJ9_floorMod_7cf53_1 rfl (lv_at hl 1 rfl) ?_
  obtain ⟨hq, h⟩ := h
  refine lv_irem hx hb dJ9_floorMod_7cf53_2 hq ?_
  refine lv_istore_n (lv' := [(2, .int (v0 - v0 / v1 * v1)), (0, .int v0), (1, .int v1)]) hx hb dJ9_floorMod_7cf53_3 rfl hl (by decide) rfl (fun ls hl => ?_)
  refine lv_iload_n hx hb dJ9_floorMod_7cf53_4 rfl (lv_at hl 1 rfl) ?_
  refine lv_iload_n hx hb dJ9_floorMod_7cf53_5 rfl (lv_at hl 2 rfl) ?_
  refine lv_ixor hx hb dJ9_floorMod_7cf53_6 ?_
  refine lv_if_ge (tgt := 18) hx hb dJ9_floorMod_7cf53_7 (by decide) (fun hc => ?_) (fun hc => ?_)
  · replace h := h.1 hc
    refine lv_iload_n hx hb dJ9_floorMod_7cf53_18 rfl (lv_at hl 0 rfl) ?_
    refine wz_mono hQz ?_
    exact W.iret (v := (v0 - v0 / v1 * v1)) hx hb hr (fun t ht hW => ⟨⟨(v0 - v0 / v1 * v1), (), rfl, h, by rw [ht]; exact hP, va_K.moved hW.alike hK, hD⟩, hS.F ht⟩) hS.2.2 dJ9_floorMod_7cf53_19
  · replace h := h.2 hc
    refine lv_iload_n hx hb dJ9_floorMod_7cf53_10 rfl (lv_at hl 0 rfl) ?_
    refine lv_if_eq (tgt := 18) hx hb dJ9_floorMod_7cf53_11 (by decide) (fun hc => ?_) (fun hc => ?_)
    · replace h := h.1 hc
      refine lv_iload_n hx hb dJ9_floorMod_7cf53_18 rfl (lv_at hl 0 rfl) ?_
      refine wz_mono hQz ?_
      exact W.iret (v := (v0 - v0 / v1 * v1)) hx hb hr (fun t ht hW => ⟨⟨(v0 - v0 / v1 * v1), (), rfl, h, by rw [ht]; exact hP, va_K.moved hW.alike hK, hD⟩, hS.F ht⟩) hS.2.2 dJ9_floorMod_7cf53_19
    · replace h := h.2 hc
      refine lv_iload_n hx hb dJ9_floorMod_7cf53_14 rfl (lv_at hl 0 rfl) ?_
      refine lv_iload_n hx hb dJ9_floorMod_7cf53_15 rfl (lv_at hl 2 rfl) ?_
      refine lv_iadd hx hb dJ9_floorMod_7cf53_16 ?_
      refine wz_mono hQz ?_
      exact W.iret (v := ((v0 - v0 / v1 * v1) + v1)) hx hb hr (fun t ht hW => ⟨⟨((v0 - v0 / v1 * v1) + v1), (), rfl, h, by rw [ht]; exact hP, va_K.moved hW.alike hK, hD⟩, hS.F ht⟩) hS.2.2 dJ9_floorMod_7cf53_17
abbrev rm_X0_timesBy : Room := { frames := 0, cells := 0, slots := 0, locals := 0 }
set_option maxHeartbeats 4000000 in
set_option maxRecDepth 100000 in
theorem c_X0_timesBy_0 (l : Launch) (D : va_G) (a : Nat → Nat) (cI : ClassId) (cZ : ClassId) (cJ : ClassId) (sz : Nat) (x_agesStand : Int32) (x_searchStands : Int32) (p_blocks : Int32) (p_lines : Int32) (p_edges : Int32) (p_pairs : Int32) (g_sets : Int32) (g_size : Int32) (g_penalty : Int32) (g_comeCount : Int32) (s_answered : Int32) (s_codes : Int32) (s_ordered : Int32) (p_times : Nat → Int32) (p_touchCounts : Nat → Int32) (p_touchSlots : Nat → Int32) (p_lineOfSlot : Nat → Int32) (p_from : Nat → Int32) (p_to : Nat → Int32) (p_bounds : Nat → Int32) (p_pairA : Nat → Int32) (p_pairB : Nat → Int32) (p_leaving : Nat → Int32) (p_firstLeaving : Nat → Int32) (g_come : Nat → Int32) (g_outcomes : Nat → Int32) (g_greatestTimes : Nat → Int32) (g_leastTimes : Nat → Int32) (g_changed : Nat → Int32) (g_greatest : Nat → Int32) (g_least : Nat → Int32) (g_greatestNow : Nat → Int32) (g_leastNow : Nat → Int32) (s_order : Nat → Int32) (s_arriving : Nat → Int32) (s_unit : Nat → Int32) (s_flag : Nat → Int32) (s_forbidding : Nat → Int32) (s_most : Nat → Int64) (s_fewest : Nat → Int64) (v1 : Int32) (h : v1 = 0) : Met l yX0_timesBy wsX0_timesBy rm_X0_timesBy (va_Pc [.ref (a 2), .int v1] (inW D cI cZ cJ sz (wC a cI cZ cJ x_agesStand x_searchStands p_blocks p_lines p_edges p_pairs g_sets g_size g_penalty g_comeCount s_answered s_codes s_ordered p_times p_touchCounts p_touchSlots p_lineOfSlot p_from p_to p_bounds p_pairA p_pairB p_leaving p_firstLeaving g_come g_outcomes g_greatestTimes g_leastTimes g_changed g_greatest g_least g_greatestNow g_leastNow s_order s_arriving s_unit s_flag s_forbidding s_most s_fewest))) (va_Qr (fun _ : Unit => True) (fun (_ : Unit) (ra : Nat) (t : State) => ra = a 17 ∧ outW D cI cZ cJ (va_A (wC a cI cZ cJ x_agesStand x_searchStands p_blocks p_lines p_edges p_pairs g_sets g_size g_penalty g_comeCount s_answered s_codes s_ordered p_times p_touchCounts p_touchSlots p_lineOfSlot p_from p_to p_bounds p_pairA p_pairB p_leaving p_firstLeaving g_come g_outcomes g_greatestTimes g_leastTimes g_changed g_greatest g_least g_greatestNow g_leastNow s_order s_arriving s_unit s_flag s_forbidding s_most s_fewest) sz) (wC a cI cZ cJ x_agesStand x_searchStands p_blocks p_lines p_edges p_pairs g_sets g_size g_penalty g_comeCount s_answered s_codes s_ordered p_times p_touchCounts p_touchSlots p_lineOfSlot p_from p_to p_bounds p_pairA p_pairB p_leaving p_firstLeaving g_come g_outcomes g_greatestTimes g_leastTimes g_changed g_greatest g_least g_greatestNow g_leastNow s_order s_arriving s_unit s_flag s_forbidding s_most s_fewest) t) (va_A (wC a cI cZ cJ x_agesStand x_searchStands p_blocks p_lines p_edges p_pairs g_sets g_size g_penalty g_comeCount s_answered s_codes s_ordered p_times p_touchCounts p_touchSlots p_lineOfSlot p_from p_to p_bounds p_pairA p_pairB p_leaving p_firstLeaving g_come g_outcomes g_greatestTimes g_leastTimes g_changed g_greatest g_least g_greatestNow g_leastNow s_order s_arriving s_unit s_flag s_forbidding s_most s_fewest) sz)) 0 0 (va_A (wC a cI cZ cJ x_agesStand x_searchStands p_blocks p_lines p_edges p_pairs g_sets g_size g_penalty g_comeCount s_answered s_codes s_ordered p_times p_touchCounts p_touchSlots p_lineOfSlot p_from p_to p_bounds p_pairA p_pairB p_leaving p_firstLeaving g_come g_outcomes g_greatestTimes g_leastTimes g_changed g_greatest g_least g_greatestNow g_leastNow s_order s_arriving s_unit s_flag s_forbidding s_most s_fewest) sz) := by
  refine Met.ofW (cc := cX0_timesBy) (maxL := 2) (ret := (some (.array .int))) (by decide) rfl ?_
  intro p e s m args below meth c s₁ B hml hv
  obtain ⟨rfl, hsz, hP, hK, hD0⟩ := hv
  have hx := B.exec
  have hb := B.bytes
  have hr := B.returns
  have hts := atoms_spec (ws := wsX0_timesBy) B.pre
  have hown : s.vm.findClass RX0 = some m.cls := findClass_of_methodNamed B.named
  have hlocks := B.notSynchronized
  have hinX0 : ∀ w ∈ wsX00, w ∈ wsX0_timesBy := by decide +kernel
  subst hsz
  have hD := hD0.self (sz := s.heap.size)
  generalize hAe : va_A (wC a cI cZ cJ x_agesStand x_searchStands p_blocks p_lines p_edges p_pairs g_sets g_size g_penalty g_comeCount s_answered s_codes s_ordered p_times p_touchCounts p_touchSlots p_lineOfSlot p_from p_to p_bounds p_pairA p_pairB p_leaving p_firstLeaving g_come g_outcomes g_greatestTimes g_leastTimes g_changed g_greatest g_least g_greatestNow g_leastNow s_order s_arriving s_unit s_flag s_forbidding s_most s_fewest) s.heap.size = A at hD ⊢
  have hS : va_S A s.heap s.heap [] := va_S.rf
  have hP : va_P D vwCl (wC a cI cZ cJ x_agesStand x_searchStands p_blocks p_lines p_edges p_pairs g_sets g_size g_penalty g_comeCount s_answered s_codes s_ordered p_times p_touchCounts p_touchSlots p_lineOfSlot p_from p_to p_bounds p_pairA p_pairB p_leaving p_firstLeaving g_come g_outcomes g_greatestTimes g_leastTimes g_changed g_greatest g_least g_greatestNow g_leastNow s_order s_arriving s_unit s_flag s_forbidding s_most s_fewest) s.heap := hP
  have hl := lv_entry ([.ref (a 2), .int v1]) (n := 2) (Nat.le_of_ble_eq_true rfl)
  rw [lg_entry_eq]
  generalize (lg_sl ([.ref (a 2), .int v1]) ++ List.replicate (2 - (lg_sl ([.ref (a 2), .int v1])).length) Slot.unset).toArray = ls at hl ⊢
  have hl : lv_has ls 2 [(0, .ref (a 2)), (1, .int v1)] := hl
  refine lv_iload_n hx hb dX0_timesBy_0 rfl (lv_at hl 1 rfl) ?_
  refine lv_if_ne (tgt := 11) hx hb dX0_timesBy_1 (by decide) (fun hc => ?_) (fun hc => ?_)
  · exact absurd h hc
  · skip
    refine lv_aload_n hx hb dX0_timesBy_4 rfl (lv_at hl 0 rfl) ?_
    refine va_get (D := D) (ci := 0) (v := .ref (a 17)) (C := RX0) (T := TX0) (N := 13) hx hb hts hinX0 hown hK hP 2 rfl rfl 6 (by decide) (hts (.fieldLink RX0 19 "WorstPaths$Ages" "greatestTimes" "[I") (by decide +kernel)) (fun _ h9 => h9) rfl dX0_timesBy_5 ?_
    refine lv_goto (tgt := 15) hx hb dX0_timesBy_8 (by decide) ?_
    exact W.aret hx hb hr (Or.inr ⟨_, rfl⟩) (Or.inr ⟨_, rfl⟩) (fun t ht hW => ⟨⟨(), _, rfl, trivial, rfl, by rw [ht]; exact hP, va_K.moved hW.alike hK, hD⟩, hS.F ht⟩) hS.2.2 dX0_timesBy_15
set_option maxHeartbeats 4000000 in
set_option maxRecDepth 100000 in
theorem c_X0_timesBy_1 (l : Launch) (D : va_G) (a : Nat → Nat) (cI : ClassId) (cZ : ClassId) (cJ : ClassId) (sz : Nat) (x_agesStand : Int32) (x_searchStands : Int32) (p_blocks : Int32) (p_lines : Int32) (p_edges : Int32) (p_pairs : Int32) (g_sets : Int32) (g_size : Int32) (g_penalty : Int32) (g_comeCount : Int32) (s_answered : Int32) (s_codes : Int32) (s_ordered : Int32) (p_times : Nat → Int32) (p_touchCounts : Nat → Int32) (p_touchSlots : Nat → Int32) (p_lineOfSlot : Nat → Int32) (p_from : Nat → Int32) (p_to : Nat → Int32) (p_bounds : Nat → Int32) (p_pairA : Nat → Int32) (p_pairB : Nat → Int32) (p_leaving : Nat → Int32) (p_firstLeaving : Nat → Int32) (g_come : Nat → Int32) (g_outcomes : Nat → Int32) (g_greatestTimes : Nat → Int32) (g_leastTimes : Nat → Int32) (g_changed : Nat → Int32) (g_greatest : Nat → Int32) (g_least : Nat → Int32) (g_greatestNow : Nat → Int32) (g_leastNow : Nat → Int32) (s_order : Nat → Int32) (s_arriving : Nat → Int32) (s_unit : Nat → Int32) (s_flag : Nat → Int32) (s_forbidding : Nat → Int32) (s_most : Nat → Int64) (s_fewest : Nat → Int64) (v1 : Int32) (h : ¬ v1 = 0) : Met l yX0_timesBy wsX0_timesBy rm_X0_timesBy (va_Pc [.ref (a 2), .int v1] (inW D cI cZ cJ sz (wC a cI cZ cJ x_agesStand x_searchStands p_blocks p_lines p_edges p_pairs g_sets g_size g_penalty g_comeCount s_answered s_codes s_ordered p_times p_touchCounts p_touchSlots p_lineOfSlot p_from p_to p_bounds p_pairA p_pairB p_leaving p_firstLeaving g_come g_outcomes g_greatestTimes g_leastTimes g_changed g_greatest g_least g_greatestNow g_leastNow s_order s_arriving s_unit s_flag s_forbidding s_most s_fewest))) (va_Qr (fun _ : Unit => True) (fun (_ : Unit) (ra : Nat) (t : State) => ra = a 18 ∧ outW D cI cZ cJ (va_A (wC a cI cZ cJ x_agesStand x_searchStands p_blocks p_lines p_edges p_pairs g_sets g_size g_penalty g_comeCount s_answered s_codes s_ordered p_times p_touchCounts p_touchSlots p_lineOfSlot p_from p_to p_bounds p_pairA p_pairB p_leaving p_firstLeaving g_come g_outcomes g_greatestTimes g_leastTimes g_changed g_greatest g_least g_greatestNow g_leastNow s_order s_arriving s_unit s_flag s_forbidding s_most s_fewest) sz) (wC a cI cZ cJ x_agesStand x_searchStands p_blocks p_lines p_edges p_pairs g_sets g_size g_penalty g_comeCount s_answered s_codes s_ordered p_times p_touchCounts p_touchSlots p_lineOfSlot p_from p_to p_bounds p_pairA p_pairB p_leaving p_firstLeaving g_come g_outcomes g_greatestTimes g_leastTimes g_changed g_greatest g_least g_greatestNow g_leastNow s_order s_arriving s_unit s_flag s_forbidding s_most s_fewest) t) (va_A (wC a cI cZ cJ x_agesStand x_searchStands p_blocks p_lines p_edges p_pairs g_sets g_size g_penalty g_comeCount s_answered s_codes s_ordered p_times p_touchCounts p_touchSlots p_lineOfSlot p_from p_to p_bounds p_pairA p_pairB p_leaving p_firstLeaving g_come g_outcomes g_greatestTimes g_leastTimes g_changed g_greatest g_least g_greatestNow g_leastNow s_order s_arriving s_unit s_flag s_forbidding s_most s_fewest) sz)) 0 0 (va_A (wC a cI cZ cJ x_agesStand x_searchStands p_blocks p_lines p_edges p_pairs g_sets g_size g_penalty g_comeCount s_answered s_codes s_ordered p_times p_touchCounts p_touchSlots p_lineOfSlot p_from p_to p_bounds p_pairA p_pairB p_leaving p_firstLeaving g_come g_outcomes g_greatestTimes g_leastTimes g_changed g_greatest g_least g_greatestNow g_leastNow s_order s_arriving s_unit s_flag s_forbidding s_most s_fewest) sz) := by
  refine Met.ofW (cc := cX0_timesBy) (maxL := 2) (ret := (some (.array .int))) (by decide) rfl ?_
  intro p e s m args below meth c s₁ B hml hv
  obtain ⟨rfl, hsz, hP, hK, hD0⟩ := hv
  have hx := B.exec
  have hb := B.bytes
  have hr := B.returns
  have hts := atoms_spec (ws := wsX0_timesBy) B.pre
  have hown : s.vm.findClass RX0 = some m.cls := findClass_of_methodNamed B.named
  have hlocks := B.notSynchronized
  have hinX0 : ∀ w ∈ wsX00, w ∈ wsX0_timesBy := by decide +kernel
  subst hsz
  have hD := hD0.self (sz := s.heap.size)
  generalize hAe : va_A (wC a cI cZ cJ x_agesStand x_searchStands p_blocks p_lines p_edges p_pairs g_sets g_size g_penalty g_comeCount s_answered s_codes s_ordered p_times p_touchCounts p_touchSlots p_lineOfSlot p_from p_to p_bounds p_pairA p_pairB p_leaving p_firstLeaving g_come g_outcomes g_greatestTimes g_leastTimes g_changed g_greatest g_least g_greatestNow g_leastNow s_order s_arriving s_unit s_flag s_forbidding s_most s_fewest) s.heap.size = A at hD ⊢
  have hS : va_S A s.heap s.heap [] := va_S.rf
  have hP : va_P D vwCl (wC a cI cZ cJ x_agesStand x_searchStands p_blocks p_lines p_edges p_pairs g_sets g_size g_penalty g_comeCount s_answered s_codes s_ordered p_times p_touchCounts p_touchSlots p_lineOfSlot p_from p_to p_bounds p_pairA p_pairB p_leaving p_firstLeaving g_come g_outcomes g_greatestTimes g_leastTimes g_changed g_greatest g_least g_greatestNow g_leastNow s_order s_arriving s_unit s_flag s_forbidding s_most s_fewest) s.heap := hP
  have hl := lv_entry ([.ref (a 2), .int v1]) (n := 2) (Nat.le_of_ble_eq_true rfl)
  rw [lg_entry_eq]
  generalize (lg_sl ([.ref (a 2), .int v1]) ++ List.replicate (2 - (lg_sl ([.ref (a 2), .int v1])).length) Slot.unset).toArray = ls at hl ⊢
  have hl : lv_has ls 2 [(0, .ref (a 2)), (1, .int v1)] := hl
  refine lv_iload_n hx hb dX0_timesBy_0 rfl (lv_at hl 1 rfl) ?_
  refine lv_if_ne (tgt := 11) hx hb dX0_timesBy_1 (by decide) (fun hc => ?_) (fun hc => ?_)
  · skip
    refine lv_aload_n hx hb dX0_timesBy_11 rfl (lv_at hl 0 rfl) ?_
    refine va_get (D := D) (ci := 0) (v := .ref (a 18)) (C := RX0) (T := TX0) (N := 13) hx hb hts hinX0 hown hK hP 2 rfl rfl 7 (by decide) (hts (.fieldLink RX0 22 "WorstPaths$Ages" "leastTimes" "[I") (by decide +kernel)) (fun _ h9 => h9) rfl dX0_timesBy_12 ?_
    exact W.aret hx hb hr (Or.inr ⟨_, rfl⟩) (Or.inr ⟨_, rfl⟩) (fun t ht hW => ⟨⟨(), _, rfl, trivial, rfl, by rw [ht]; exact hP, va_K.moved hW.alike hK, hD⟩, hS.F ht⟩) hS.2.2 dX0_timesBy_15
  · exact absurd hc h
