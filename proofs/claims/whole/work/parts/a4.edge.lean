theorem fl_mono {B E : Nat} {lv fl fr : Nat → Nat} (h : ∀ b, b < B → fl b ≤ fl (b + 1) ∧ fl (b + 1) ≤ E ∧ ∀ i, fl b ≤ i → i < fl (b + 1) → lv i < E ∧ fr (lv i) = b) : ∀ d a, a + d ≤ B → fl a ≤ fl (a + d) := by
  intro d
  induction d with
  | zero => intro a _; exact Nat.le_refl _
  | succ d ih =>
    intro a ha
    have k1 := ih a (by omega)
    have k2 := (h (a + d) (by omega)).1
    have e : a + (d + 1) = a + d + 1 := by omega
    rw [e]
    omega
theorem pg_edge {W B n E P pn a c : Nat} {tm tc ts fr to bn pa pb lv fl : Nat → Nat} (h : pgI W B n E P pn tm tc ts fr to bn pa pb lv fl) (ha : a < B) (hc : c < B) (hE : E < 80) :
    pgI W B n (E + 1) P pn tm tc ts (fun j => if j = E then a else fr j) (fun j => if j = E then c else to j) (fun j => if j = E then 0 else bn j) pa pb (fun j => if j = fl (a + 1) then E else if fl (a + 1) < j ∧ j ≤ E then lv (j - 1) else lv j) (fun j => if a < j ∧ j ≤ 40 then fl j + 1 else fl j) := by
  obtain ⟨⟨⟨bW, bB, bn4, bE⟩, btc, bfr, bfl, ball⟩, a2, a3, a4, a5, a6, a7, a8⟩ := h
  have mono := fl_mono bfl
  have fle : ∀ b, b < B → fl (b + 1) ≤ E := fun b hb => (bfl b hb).2.1
  have fa := bfl a ha
  have F0 : ∀ b, b ≤ a → (if a < b ∧ b ≤ 40 then fl b + 1 else fl b) = fl b := fun b hb => by rw [if_neg (by omega)]
  have F1 : ∀ b, a < b → b ≤ 40 → (if a < b ∧ b ≤ 40 then fl b + 1 else fl b) = fl b + 1 := fun b h1 h2 => by rw [if_pos ⟨h1, h2⟩]
  have L0 : ∀ i, i < fl (a + 1) → (if i = fl (a + 1) then E else if fl (a + 1) < i ∧ i ≤ E then lv (i - 1) else lv i) = lv i := fun i hi => by rw [if_neg (by omega), if_neg (by omega)]
  have L1 : ∀ i, fl (a + 1) < i → i ≤ E → (if i = fl (a + 1) then E else if fl (a + 1) < i ∧ i ≤ E then lv (i - 1) else lv i) = lv (i - 1) := fun i h1 h2 => by rw [if_neg (by omega), if_pos ⟨h1, h2⟩]
  have frl : ∀ e, e < E → (if e = E then a else fr e) = fr e := fun e he => by rw [if_neg (by omega)]
  have low : ∀ b, b < a → fl (b + 1) ≤ fl a := fun b hb => by
    have := mono (a - (b + 1)) (b + 1) (by omega)
    have e : b + 1 + (a - (b + 1)) = a := by omega
    rw [e] at this
    exact this
  have hig : ∀ b, a < b → b < B → fl (a + 1) ≤ fl b := fun b h1 h2 => by
    have := mono (b - (a + 1)) (a + 1) (by omega)
    have e : a + 1 + (b - (a + 1)) = b := by omega
    rw [e] at this
    exact this
  refine ⟨⟨⟨bW, bB, bn4, by omega⟩, btc, fun e he => ?_, fun b hb => ?_, fun e he => ?_⟩, fun b hb i j hi hij hj => ?_, ⟨⟨a3.1.1, by omega, a3.1.2.2⟩, fun e he => ?_, fun e => ?_, fun i hi => by have := a3.2.2.2 i hi; omega⟩, a4, a5, a6, fun b hb hb2 => ?_, a8⟩
  · show (if e = E then a else fr e) < B ∧ (if e = E then c else to e) < B
    by_cases z : e = E
    · rw [if_pos z, if_pos z]; exact ⟨ha, hc⟩
    · rw [if_neg z, if_neg z]; exact bfr e (by omega)
  · show (if a < b ∧ b ≤ 40 then fl b + 1 else fl b) ≤ (if a < b + 1 ∧ b + 1 ≤ 40 then fl (b + 1) + 1 else fl (b + 1)) ∧ (if a < b + 1 ∧ b + 1 ≤ 40 then fl (b + 1) + 1 else fl (b + 1)) ≤ E + 1 ∧ ∀ i, (if a < b ∧ b ≤ 40 then fl b + 1 else fl b) ≤ i → i < (if a < b + 1 ∧ b + 1 ≤ 40 then fl (b + 1) + 1 else fl (b + 1)) → (if i = fl (a + 1) then E else if fl (a + 1) < i ∧ i ≤ E then lv (i - 1) else lv i) < E + 1 ∧ (if (if i = fl (a + 1) then E else if fl (a + 1) < i ∧ i ≤ E then lv (i - 1) else lv i) = E then a else fr (if i = fl (a + 1) then E else if fl (a + 1) < i ∧ i ≤ E then lv (i - 1) else lv i)) = b
    obtain ⟨k1, k2, k3⟩ := bfl b hb
    rcases Nat.lt_trichotomy b a with z | z | z
    · rw [F0 b (by omega), F0 (b + 1) (by omega)]
      refine ⟨k1, by omega, fun i hi hj => ?_⟩
      have := low b z
      obtain ⟨m1, m2⟩ := k3 i hi hj
      rw [L0 i (by omega), if_neg (by omega)]
      exact ⟨by omega, m2⟩
    · subst z
      rw [F0 b (by omega), F1 (b + 1) (by omega) (by omega)]
      refine ⟨by omega, by omega, fun i hi hj => ?_⟩
      by_cases w : i = fl (b + 1)
      · rw [if_pos w, if_pos rfl]
        exact ⟨by omega, rfl⟩
      · obtain ⟨m1, m2⟩ := k3 i hi (by omega)
        rw [L0 i (by omega), if_neg (by omega)]
        exact ⟨by omega, m2⟩
    · rw [F1 b z (by omega), F1 (b + 1) (by omega) (by omega)]
      refine ⟨by omega, by omega, fun i hi hj => ?_⟩
      have := hig b z hb
      obtain ⟨m1, m2⟩ := k3 (i - 1) (by omega) (by omega)
      rw [L1 i (by omega) (by omega), if_neg (by omega)]
      exact ⟨by omega, m2⟩
  · show ∃ i, (if a < (if e = E then a else fr e) ∧ (if e = E then a else fr e) ≤ 40 then fl (if e = E then a else fr e) + 1 else fl (if e = E then a else fr e)) ≤ i ∧ i < (if a < (if e = E then a else fr e) + 1 ∧ (if e = E then a else fr e) + 1 ≤ 40 then fl ((if e = E then a else fr e) + 1) + 1 else fl ((if e = E then a else fr e) + 1)) ∧ (if i = fl (a + 1) then E else if fl (a + 1) < i ∧ i ≤ E then lv (i - 1) else lv i) = e
    by_cases z : e = E
    · rw [if_pos z, F0 a (by omega), F1 (a + 1) (by omega) (by omega)]
      exact ⟨fl (a + 1), by omega, by omega, by rw [if_pos rfl, z]⟩
    · rw [if_neg z]
      obtain ⟨i, i1, i2, i3⟩ := ball e (by omega)
      have hf := (bfr e (by omega)).1
      rcases Nat.lt_trichotomy (fr e) a with w | w | w
      · rw [F0 _ (by omega), F0 _ (by omega)]
        have := low _ w
        exact ⟨i, i1, i2, by rw [L0 i (by omega)]; exact i3⟩
      · rw [F0 _ (by omega), F1 _ (by omega) (by omega)]
        rw [w] at i2
        exact ⟨i, i1, by rw [w]; omega, by rw [L0 i i2]; exact i3⟩
      · rw [F1 _ (by omega) (by omega), F1 _ (by omega) (by omega)]
        have := hig _ w hf
        have := fle _ hf
        exact ⟨i + 1, by omega, by omega, by rw [L1 (i + 1) (by omega) (by omega)]; exact i3⟩
  · have hi : (if a < b ∧ b ≤ 40 then fl b + 1 else fl b) ≤ i := hi
    have hj : j < (if a < b + 1 ∧ b + 1 ≤ 40 then fl (b + 1) + 1 else fl (b + 1)) := hj
    show (if i = fl (a + 1) then E else if fl (a + 1) < i ∧ i ≤ E then lv (i - 1) else lv i) < (if j = fl (a + 1) then E else if fl (a + 1) < j ∧ j ≤ E then lv (j - 1) else lv j)
    obtain ⟨k1, k2, k3⟩ := bfl b hb
    rcases Nat.lt_trichotomy b a with z | z | z
    · rw [F0 b (by omega)] at hi
      rw [F0 (b + 1) (by omega)] at hj
      have := low b z
      rw [L0 i (by omega), L0 j (by omega)]
      exact a2 b hb i j hi hij hj
    · subst z
      rw [F0 b (by omega)] at hi
      rw [F1 (b + 1) (by omega) (by omega)] at hj
      by_cases w : j = fl (b + 1)
      · rw [if_pos w, L0 i (by omega)]
        exact (k3 i hi (by omega)).1
      · rw [L0 i (by omega), L0 j (by omega)]
        exact a2 b hb i j hi hij (by omega)
    · rw [F1 b z (by omega)] at hi
      rw [F1 (b + 1) (by omega) (by omega)] at hj
      have := hig b z hb
      rw [L1 i (by omega) (by omega), L1 j (by omega) (by omega)]
      exact a2 b hb (i - 1) (j - 1) (by omega) (by omega) (by omega)
  · show (if e = E then a else fr e) < B ∧ (if e = E then c else to e) < B
    by_cases z : e = E
    · rw [if_pos z, if_pos z]; exact ⟨ha, hc⟩
    · rw [if_neg z, if_neg z]; exact bfr e (by omega)
  · show (if e = E then 0 else bn e) ≤ 16
    split
    · omega
    · exact a3.2.2.1 e
  · show (if a < b ∧ b ≤ 40 then fl b + 1 else fl b) = E + 1
    rw [F1 b (by omega) hb2, a7 b hb hb2]
theorem sp_addEdge {B E a c : Nat} {bn fr to lv fl : Nat → Nat} {Q : Int32 → Int32 → (Nat → Int32) → (Nat → Int32) → (Nat → Int32) → (Nat → Int32) → (Nat → Int32) → Prop} (hB : B ≤ 40) (ha : a < B) (hE : E < 80) (hfl : fl (a + 1) ≤ E)
    (h : Q (nI E) (nI (E + 1)) (rep (fun j => if j = E then a else fr j)) (rep (fun j => if j = E then c else to j)) (rpB (fun j => if j = E then 0 else bn j)) (rep (fun j => if j = fl (a + 1) then E else if fl (a + 1) < j ∧ j ≤ E then lv (j - 1) else lv j)) (rep (fun j => if a < j ∧ j ≤ 40 then fl j + 1 else fl j))) :
    wp_X1_addEdge (nI a) (nI c) (nI E) (rep fr) (rep to) (rpB bn) (rep lv) (rep fl) Q := by
  have cE : (nI E).toNatClampNeg = E := nI_clamp (by omega)
  have ca1 : (nI (a + 1)).toNatClampNeg = a + 1 := nI_clamp (by omega)
  have iE : vp_in (nI E) 80 := vp_in_nI hE (by decide)
  have m1 : (-1 : Int32) = nI 0 - 1 := by decide
  unfold wp_X1_addEdge
  rw [nI_1, ca1, cE, rep_at fl, rep_upd, rep_upd, m1, rpB_upd]
  refine ⟨iE, iE, iE, vp_in_nI (by omega) (by decide), ?_⟩
  have L81 : ∀ lv', (∀ Q', Q' = lv' → True) → ∀ d j, j + d = 41 → a < j → (Q (nI E) (nI (E + 1)) (rep (fun j => if j = E then a else fr j)) (rep (fun j => if j = E then c else to j)) (rpB (fun j => if j = E then 0 else bn j)) lv' (rep (fun j => if a < j ∧ j ≤ 40 then fl j + 1 else fl j))) → lp_X1_addEdge_81 (nI E) (nI E) (rep (fun j => if j = E then a else fr j)) (rep (fun j => if j = E then c else to j)) (rpB (fun j => if j = E then 0 else bn j)) lv' Q (d + 1) (nI j) (rep (fun x => if a < x ∧ x < j then fl x + 1 else fl x)) := by
    intro lv' _ d
    induction d with
    | zero =>
      intro j hj haj hq
      have z : j = 41 := by omega
      subst z
      unfold lp_X1_addEdge_81
      rw [nI_1]
      refine ⟨fun _ => ?_, fun q => absurd (nI_lt (a := 40) (b := 41) (by decide) (by decide)) q⟩
      have e : (rep (fun x => if a < x ∧ x < 41 then fl x + 1 else fl x)) = rep (fun j => if a < j ∧ j ≤ 40 then fl j + 1 else fl j) := rep_ext (fun x => by
        have : x < 41 ↔ x ≤ 40 := by omega
        simp only [this])
      rw [e]
      exact hq
    | succ d ih =>
      intro j hj haj hq
      have cj : (nI j).toNatClampNeg = j := nI_clamp (by omega)
      have ij : vp_in (nI j) 41 := vp_in_nI (by omega) (by decide)
      unfold lp_X1_addEdge_81
      rw [cj, rep_at, if_neg (by omega : ¬ (a < j ∧ j < j)), nI_1 (fl j), rep_upd, nI_1 j]
      refine ⟨fun q => absurd q (nI_nlt (b := j) (a := 40) (by omega) (by decide)), fun _ => ⟨ij, ij, ?_⟩⟩
      have e : (rep (fun x => if x = j then fl j + 1 else if a < x ∧ x < j then fl x + 1 else fl x)) = rep (fun x => if a < x ∧ x < j + 1 then fl x + 1 else fl x) := rep_ext (fun x => by
        by_cases z : x = j
        · subst z
          rw [if_pos rfl, if_pos ⟨haj, by omega⟩]
        · have : x < j ↔ x < j + 1 := by omega
          simp only [if_neg z, this])
      rw [e]
      exact ih (j + 1) (by omega) (by omega) hq
  have L39 : ∀ d i, i = fl (a + 1) + d → i ≤ E → lp_X1_addEdge_39 (nI a) (nI E) (nI (fl (a + 1))) (nI E) (rep (fun j => if j = E then a else fr j)) (rep (fun j => if j = E then c else to j)) (rpB (fun j => if j = E then 0 else bn j)) (rep fl) Q (d + 1) (nI i) (rep (fun j => if i < j ∧ j ≤ E then lv (j - 1) else lv j)) := by
    intro d
    induction d with
    | zero =>
      intro i hi hiE
      have z : i = fl (a + 1) := by omega
      subst z
      have cf : (nI (fl (a + 1))).toNatClampNeg = fl (a + 1) := nI_clamp (by omega)
      unfold lp_X1_addEdge_39
      rw [cf, rep_upd, nI_1 a]
      refine ⟨fun _ => ⟨vp_in_nI (by omega) (by decide), 40 - a + 1, ?_⟩, fun q => absurd (nI_le (Nat.le_refl _) (by omega)) q⟩
      have k := L81 (rep (fun j => if j = fl (a + 1) then E else if fl (a + 1) < j ∧ j ≤ E then lv (j - 1) else lv j)) (fun _ _ => trivial) (40 - a) (a + 1) (by omega) (by omega) h
      have e : (rep (fun x => if a < x ∧ x < a + 1 then fl x + 1 else fl x)) = rep fl := rep_ext (fun x => by rw [if_neg (by omega)])
      rw [e] at k
      exact k
    | succ d ih =>
      intro i hi hiE
      have ci : (nI i).toNatClampNeg = i := nI_clamp (by omega)
      have ci1 : (nI (i - 1)).toNatClampNeg = i - 1 := nI_clamp (by omega)
      have d1 : nI i - 1 = nI (i - 1) := pk_sub (b := 1) (by omega)
      have m1 : nI i + (-1) = nI (i - 1) := by rw [← d1, Int32.sub_eq_add_neg]
      unfold lp_X1_addEdge_39
      rw [d1, m1, ci, ci1, rep_at, if_neg (by omega : ¬ (i < i - 1 ∧ i - 1 ≤ E)), rep_upd]
      refine ⟨fun q => absurd q (nI_ge (by omega) (by omega)), fun _ => ⟨vp_in_nI (by omega) (by decide), vp_in_nI (by omega) (by decide), ?_⟩⟩
      have e : (rep (fun j => if j = i then lv (i - 1) else if i < j ∧ j ≤ E then lv (j - 1) else lv j)) = rep (fun j => if i - 1 < j ∧ j ≤ E then lv (j - 1) else lv j) := rep_ext (fun j => by
        by_cases z : j = i
        · subst z
          rw [if_pos rfl, if_pos ⟨by omega, by omega⟩]
        · have : i - 1 < j ↔ i < j := by omega
          simp only [if_neg z, this])
      rw [rep_upd, e]
      exact ih (i - 1) (by omega) (by omega)
  have k := L39 (E - fl (a + 1)) E (by omega) (Nat.le_refl _)
  have e : (rep (fun j => if E < j ∧ j ≤ E then lv (j - 1) else lv j)) = rep lv := rep_ext (fun j => by rw [if_neg (by omega)])
  rw [e] at k
  exact ⟨_, k⟩
theorem cp_edge {x_agesStand : Int32} {x_searchStands : Int32} {p_blocks : Int32} {p_lines : Int32} {p_edges : Int32} {p_pairs : Int32} {g_sets : Int32} {g_size : Int32} {g_penalty : Int32} {g_comeCount : Int32} {s_answered : Int32} {s_codes : Int32} {s_ordered : Int32} {p_times : Nat → Int32} {p_touchCounts : Nat → Int32} {p_touchSlots : Nat → Int32} {p_lineOfSlot : Nat → Int32} {p_from : Nat → Int32} {p_to : Nat → Int32} {p_bounds : Nat → Int32} {p_pairA : Nat → Int32} {p_pairB : Nat → Int32} {p_leaving : Nat → Int32} {p_firstLeaving : Nat → Int32} {g_come : Nat → Int32} {g_outcomes : Nat → Int32} {g_greatestTimes : Nat → Int32} {g_leastTimes : Nat → Int32} {g_changed : Nat → Int32} {g_greatest : Nat → Int32} {g_least : Nat → Int32} {g_greatestNow : Nat → Int32} {g_leastNow : Nat → Int32} {s_order : Nat → Int32} {s_arriving : Nat → Int32} {s_unit : Nat → Int32} {s_flag : Nat → Int32} {s_forbidding : Nat → Int32} {s_most : Nat → Int64} {s_fewest : Nat → Int64} {m_thrown : Int32} {m_sets : Int32} {m_ways : Int32} {m_penalty : Int32} {m_blocks : Int32} {m_edges : Int32} {m_pairs : Int32} {m_lines : Int32} {m_isFresh : Int32} {m_isAnswer : Int32} {m_time : Nat → Int32} {m_touchMany : Nat → Int32} {m_touch : Nat → Int32} {m_line : Nat → Int32} {m_from : Nat → Int32} {m_to : Nat → Int32} {m_bound : Nat → Int32} {m_pairA : Nat → Int32} {m_pairB : Nat → Int32} {m_comeTo : Nat → Int32} {m_greatest : Nat → Int32} {m_least : Nat → Int32} {m_nowGreatest : Nat → Int32} {m_nowLeast : Nat → Int32} {m_does : Nat → Int32} {m_mostTime : Nat → Int64} {m_leastTime : Nat → Int64} {m_countUnit : Nat → Int32} {m_flagUnit : Nat → Int32} {m_worst : Nat → Int64} {m_best : Nat → Int64} {m_stack : Nat → Int32} (h : cpI x_agesStand x_searchStands p_blocks p_lines p_edges p_pairs g_sets g_size g_penalty g_comeCount s_answered s_codes s_ordered p_times p_touchCounts p_touchSlots p_lineOfSlot p_from p_to p_bounds p_pairA p_pairB p_leaving p_firstLeaving g_come g_outcomes g_greatestTimes g_leastTimes g_changed g_greatest g_least g_greatestNow g_leastNow s_order s_arriving s_unit s_flag s_forbidding s_most s_fewest m_thrown m_sets m_ways m_penalty m_blocks m_edges m_pairs m_lines m_isFresh m_isAnswer m_time m_touchMany m_touch m_line m_from m_to m_bound m_pairA m_pairB m_comeTo m_greatest m_least m_nowGreatest m_nowLeast m_does m_mostTime m_leastTime m_countUnit m_flagUnit m_worst m_best m_stack) (v1 v2 : Int32) (f : Nat → Int64) :
    wp_L_edge v1 v2 x_agesStand x_searchStands p_blocks p_edges p_from p_to p_bounds p_leaving p_firstLeaving f (fun k xa xs pe pf pt pbn plv pfl f' => wp_X4_edge v1 v2 m_thrown m_blocks m_edges m_isFresh m_from m_to m_bound (fun b th me mf mfr mto mbn => th = k ∧ (k = 0 → f' 0 = b.toInt64) ∧ cpI xa xs p_blocks p_lines pe p_pairs g_sets g_size g_penalty g_comeCount s_answered s_codes s_ordered p_times p_touchCounts p_touchSlots p_lineOfSlot pf pt pbn p_pairA p_pairB plv pfl g_come g_outcomes g_greatestTimes g_leastTimes g_changed g_greatest g_least g_greatestNow g_leastNow s_order s_arriving s_unit s_flag s_forbidding s_most s_fewest th m_sets m_ways m_penalty m_blocks me m_pairs m_lines mf m_isAnswer m_time m_touchMany m_touch m_line mfr mto mbn m_pairA m_pairB m_comeTo m_greatest m_least m_nowGreatest m_nowLeast m_does m_mostTime m_leastTime m_countUnit m_flagUnit m_worst m_best m_stack)) := by
  obtain ⟨W, B, n, E, P, pn, tm, tc, ts, fr, to, bn, pa, pb, lv, fl, line, sets, hpg, hcl, hmd⟩ := id h
  obtain ⟨⟨⟨bW, bB, bn4, bE⟩, btc, bfr, bfl, ball⟩, a2, a3, a4, a5, a6, a7, a8⟩ := id hpg
  obtain ⟨⟨c1, c2, c3, c4, -, -, -⟩, e1, e2, e3, e4, e5, e6, e7, e8, e9, e10, e11⟩ := id hcl.1
  obtain ⟨⟨d1, d2, d3, d4, -, -, -⟩, f1, f2, f3, f4, f5, f6, f7, f8, f9⟩ := id hmd.1
  have e4 := e4.symm
  have f4 := f4.symm
  subst c1 c2 c3 c4 e1 e2 e3 e4 e5 e6 e7 e8 e9 e10 e11 d1 d2 d3 d4 f1 f2 f3 f4 f5 f6 f7 f8 f9
  have fail : ∀ th, _ := cp_th h
  have cE : (nI E).toNatClampNeg = E := nI_clamp (by omega)
  have e80 : nI E < 80 ↔ E < 80 := nI_ltI (b := 80) (by omega) (by decide)
  have e80e : nI E = 80 ↔ E = 80 := nI_eq (b := 80) (by omega) (by decide)
  have no : ∀ {v : Int32} {j : Nat}, j < B → (v < 0 ∨ nI B ≤ v) → ¬ v = nI j := fun {v j} hj hv e => by
    subst e
    rcases hv with z | z
    · exact absurd z (nI_pos (by omega))
    · exact absurd z (nI_ge hj (by omega))
  unfold wp_L_edge wp_X3_edge wp_X3_forgetAges
  refine sp_hasB (by omega) (fun hv => ⟨fun _ => Or.inl ⟨rfl, ?_⟩, fun w => absurd rfl w⟩) (fun a ha hv => ⟨fun w => absurd w (by decide), fun _ => ?_⟩)
  · unfold wp_X4_edge wp_X4_fail
    exact sp_within0 (by omega) (fun _ => ⟨fun _ => ⟨rfl, fun w => absurd w (by decide), fail 1⟩, fun w => absurd rfl w⟩) (fun b hb hb2 => absurd hb2 (no hb hv))
  · refine sp_hasB (by omega) (fun hv2 => ⟨fun w => absurd rfl w, fun _ => Or.inl ⟨rfl, ?_⟩⟩) (fun c hc hv2 => ⟨fun _ => ?_, fun w => absurd w (by decide)⟩)
    · unfold wp_X4_edge wp_X4_fail
      exact sp_within0 (by omega) (fun _ => ⟨fun _ => ⟨rfl, fun w => absurd w (by decide), fail 1⟩, fun w => absurd rfl w⟩) (fun b hb hb2 => ⟨fun w => absurd w (by decide), fun _ => sp_within0 (by omega) (fun _ => ⟨fun w => absurd rfl w, fun _ => ⟨rfl, fun w => absurd w (by decide), fail 1⟩⟩) (fun b hb hb2 => absurd hb2 (no hb hv2))⟩)
    · subst hv hv2
      have MB : ∀ (Qm : Int32 → Int32 → Int32 → Int32 → (Nat → Int32) → (Nat → Int32) → (Nat → Int32) → Prop), (E = 80 → Qm 0 2 (nI E) m_isFresh (rep fr) (rep to) (rpB bn)) → (E < 80 → Qm (nI (E + 1) - 1) 0 (nI (E + 1)) 0 (rep (fun j => if j = E then a else fr j)) (rep (fun j => if j = E then c else to j)) (rpB (fun j => if j = E then 0 else bn j))) → wp_X4_edge (nI a) (nI c) m_thrown (nI B) (nI E) m_isFresh (rep fr) (rep to) (rpB bn) Qm := by
        intro Qm q1 q2
        have m1 : (-1 : Int32) = nI 0 - 1 := by decide
        unfold wp_X4_edge wp_X4_fail
        refine sp_within0 (by omega) (fun hv => absurd rfl (no ha hv)) (fun b hb hb2 => ⟨fun w => absurd w (by decide), fun _ => sp_within0 (by omega) (fun hv => absurd rfl (no hc hv)) (fun b hb hb2 => ⟨fun _ => ?_, fun w => absurd w (by decide)⟩)⟩)
        rw [e80e, cE, nI_1, rep_upd, rep_upd, m1, rpB_upd]
        exact ⟨fun w => ⟨vp_in_nI (by omega) (by decide), vp_in_nI (by omega) (by decide), vp_in_nI (by omega) (by decide), q2 (by omega)⟩, fun w => q1 w⟩
      rw [e80]
      refine ⟨fun q => ?_, fun q => Or.inr ⟨rfl, MB _ (fun _ => ⟨rfl, fun w => absurd w (by decide), fail 2⟩) (fun w => absurd w q)⟩⟩
      refine sp_addEdge bB ha q (bfl a ha).2.1 (MB _ (fun w => by omega) (fun _ => ⟨rfl, fun _ => ?_, ?_⟩))
      · rw [pk_uLs, nI_pred]
      · exact ⟨W, B, n, E + 1, P, pn, tm, tc, ts, _, _, _, pa, pb, _, _, line, sets, pg_edge hpg ha hc q, clI_st hcl B n (E + 1) P tm tc ts _ _ _ pa pb _ _ line, mdI_st hmd 0 B n (E + 1) P tm tc ts _ _ _ pa pb _ _ line⟩
theorem cp_bound {x_agesStand : Int32} {x_searchStands : Int32} {p_blocks : Int32} {p_lines : Int32} {p_edges : Int32} {p_pairs : Int32} {g_sets : Int32} {g_size : Int32} {g_penalty : Int32} {g_comeCount : Int32} {s_answered : Int32} {s_codes : Int32} {s_ordered : Int32} {p_times : Nat → Int32} {p_touchCounts : Nat → Int32} {p_touchSlots : Nat → Int32} {p_lineOfSlot : Nat → Int32} {p_from : Nat → Int32} {p_to : Nat → Int32} {p_bounds : Nat → Int32} {p_pairA : Nat → Int32} {p_pairB : Nat → Int32} {p_leaving : Nat → Int32} {p_firstLeaving : Nat → Int32} {g_come : Nat → Int32} {g_outcomes : Nat → Int32} {g_greatestTimes : Nat → Int32} {g_leastTimes : Nat → Int32} {g_changed : Nat → Int32} {g_greatest : Nat → Int32} {g_least : Nat → Int32} {g_greatestNow : Nat → Int32} {g_leastNow : Nat → Int32} {s_order : Nat → Int32} {s_arriving : Nat → Int32} {s_unit : Nat → Int32} {s_flag : Nat → Int32} {s_forbidding : Nat → Int32} {s_most : Nat → Int64} {s_fewest : Nat → Int64} {m_thrown : Int32} {m_sets : Int32} {m_ways : Int32} {m_penalty : Int32} {m_blocks : Int32} {m_edges : Int32} {m_pairs : Int32} {m_lines : Int32} {m_isFresh : Int32} {m_isAnswer : Int32} {m_time : Nat → Int32} {m_touchMany : Nat → Int32} {m_touch : Nat → Int32} {m_line : Nat → Int32} {m_from : Nat → Int32} {m_to : Nat → Int32} {m_bound : Nat → Int32} {m_pairA : Nat → Int32} {m_pairB : Nat → Int32} {m_comeTo : Nat → Int32} {m_greatest : Nat → Int32} {m_least : Nat → Int32} {m_nowGreatest : Nat → Int32} {m_nowLeast : Nat → Int32} {m_does : Nat → Int32} {m_mostTime : Nat → Int64} {m_leastTime : Nat → Int64} {m_countUnit : Nat → Int32} {m_flagUnit : Nat → Int32} {m_worst : Nat → Int64} {m_best : Nat → Int64} {m_stack : Nat → Int32} (h : cpI x_agesStand x_searchStands p_blocks p_lines p_edges p_pairs g_sets g_size g_penalty g_comeCount s_answered s_codes s_ordered p_times p_touchCounts p_touchSlots p_lineOfSlot p_from p_to p_bounds p_pairA p_pairB p_leaving p_firstLeaving g_come g_outcomes g_greatestTimes g_leastTimes g_changed g_greatest g_least g_greatestNow g_leastNow s_order s_arriving s_unit s_flag s_forbidding s_most s_fewest m_thrown m_sets m_ways m_penalty m_blocks m_edges m_pairs m_lines m_isFresh m_isAnswer m_time m_touchMany m_touch m_line m_from m_to m_bound m_pairA m_pairB m_comeTo m_greatest m_least m_nowGreatest m_nowLeast m_does m_mostTime m_leastTime m_countUnit m_flagUnit m_worst m_best m_stack) (v1 v2 : Int32) (f : Nat → Int64) :
    wp_L_bound v1 v2 x_searchStands p_edges p_bounds f (fun k xs pbn f' => wp_X4_bound v1 v2 m_thrown m_edges m_isFresh m_bound (fun b th mf mbn => th = k ∧ (k = 0 → f' 0 = b.toInt64) ∧ cpI x_agesStand xs p_blocks p_lines p_edges p_pairs g_sets g_size g_penalty g_comeCount s_answered s_codes s_ordered p_times p_touchCounts p_touchSlots p_lineOfSlot p_from p_to pbn p_pairA p_pairB p_leaving p_firstLeaving g_come g_outcomes g_greatestTimes g_leastTimes g_changed g_greatest g_least g_greatestNow g_leastNow s_order s_arriving s_unit s_flag s_forbidding s_most s_fewest th m_sets m_ways m_penalty m_blocks m_edges m_pairs m_lines mf m_isAnswer m_time m_touchMany m_touch m_line m_from m_to mbn m_pairA m_pairB m_comeTo m_greatest m_least m_nowGreatest m_nowLeast m_does m_mostTime m_leastTime m_countUnit m_flagUnit m_worst m_best m_stack)) := by
  obtain ⟨W, B, n, E, P, pn, tm, tc, ts, fr, to, bn, pa, pb, lv, fl, line, sets, hpg, hcl, hmd⟩ := id h
  obtain ⟨⟨⟨bW, bB, bn4, bE⟩, btc, bfr, bfl, ball⟩, a2, a3, a4, a5, a6, a7, a8⟩ := id hpg
  obtain ⟨⟨c1, c2, c3, c4, -, -, -⟩, e1, e2, e3, e4, e5, e6, e7, e8, e9, e10, e11⟩ := id hcl.1
  obtain ⟨⟨d1, d2, d3, d4, -, -, -⟩, f1, f2, f3, f4, f5, f6, f7, f8, f9⟩ := id hmd.1
  have e4 := e4.symm
  have f4 := f4.symm
  subst c1 c2 c3 c4 e1 e2 e3 e4 e5 e6 e7 e8 e9 e10 e11 d1 d2 d3 d4 f1 f2 f3 f4 f5 f6 f7 f8 f9
  have fail : ∀ th, _ := cp_th h
  have no : ∀ {v : Int32} {j : Nat}, j < E → (v < 0 ∨ nI E ≤ v) → ¬ v = nI j := fun {v j} hj hv e => by
    subst e
    rcases hv with z | z
    · exact absurd z (nI_pos (by omega))
    · exact absurd z (nI_ge hj (by omega))
  unfold wp_L_bound wp_X3_bound
  refine sp_hasE (by omega) (fun hv => ⟨fun w => absurd rfl w, fun _ => Or.inl ⟨rfl, ?_⟩⟩) (fun a ha hv => ⟨fun _ => ?_, fun w => absurd w (by decide)⟩)
  · unfold wp_X4_bound wp_X4_fail
    exact sp_within0 (by omega) (fun _ => ⟨fun w => absurd rfl w, fun _ => ⟨rfl, fun w => absurd w (by decide), fail 1⟩⟩) (fun b hb hb2 => absurd hb2 (no hb hv))
  · subst hv
    have ca : (nI a).toNatClampNeg = a := nI_clamp (by omega)
    have ia : vp_in (nI a) 80 := vp_in_nI (by omega) (by decide)
    have hbn := a3.2.2.1 a
    have badM : (v2 < -1 ∨ 15 < v2) → wp_X4_bound (nI a) v2 m_thrown (nI E) m_isFresh (rpB bn) (fun b th mf mbn => th = 2 ∧ ((2 : Int32) = 0 → f 0 = b.toInt64) ∧ cpI x_agesStand x_searchStands (nI B) (nI n) (nI E) (nI P) g_sets g_size g_penalty g_comeCount s_answered s_codes s_ordered (rep tm) (rep tc) (rep ts) line (rep fr) (rep to) (rpB bn) (rep pa) (rep pb) (rep lv) (rep fl) g_come g_outcomes g_greatestTimes g_leastTimes g_changed g_greatest g_least g_greatestNow g_leastNow s_order s_arriving s_unit s_flag s_forbidding s_most s_fewest th m_sets m_ways m_penalty (nI B) (nI E) (nI P) (nI n) mf m_isAnswer (rep tm) (rep tc) (rep ts) line (rep fr) (rep to) mbn (rep pa) (rep pb) m_comeTo m_greatest m_least m_nowGreatest m_nowLeast m_does m_mostTime m_leastTime m_countUnit m_flagUnit m_worst m_best m_stack) := by
      intro hv
      unfold wp_X4_bound wp_X4_fail
      refine sp_within0 (by omega) (fun hv => absurd rfl (no ha hv)) (fun b hb hb2 => ⟨fun _ => ?_, fun w => absurd w (by decide)⟩)
      unfold wp_X4_within
      refine ⟨fun _ => ⟨fun w => absurd rfl w, fun _ => ⟨rfl, fun w => absurd w (by decide), fail 2⟩⟩, fun w1 => ⟨fun _ => ⟨fun w => absurd rfl w, fun _ => ⟨rfl, fun w => absurd w (by decide), fail 2⟩⟩, fun w2 => ?_⟩⟩
      rcases hv with z | z
      · exact absurd z w1
      · exact absurd z w2
    have good : ∀ t, t ≤ 16 → v2 = nI t - 1 → jn_X3_bound_46 (nI a) v2 x_searchStands (nI E) (rpB bn) (fun r x_searchStands_1 p_bounds_1 => wp_X4_bound (nI a) v2 m_thrown (nI E) m_isFresh (rpB bn) (fun b th mf mbn => th = 0 ∧ ((0 : Int32) = 0 → (vp_updL f 0 (Int32.toInt64 r)) 0 = b.toInt64) ∧ cpI x_agesStand x_searchStands_1 (nI B) (nI n) (nI E) (nI P) g_sets g_size g_penalty g_comeCount s_answered s_codes s_ordered (rep tm) (rep tc) (rep ts) line (rep fr) (rep to) p_bounds_1 (rep pa) (rep pb) (rep lv) (rep fl) g_come g_outcomes g_greatestTimes g_leastTimes g_changed g_greatest g_least g_greatestNow g_leastNow s_order s_arriving s_unit s_flag s_forbidding s_most s_fewest th m_sets m_ways m_penalty (nI B) (nI E) (nI P) (nI n) mf m_isAnswer (rep tm) (rep tc) (rep ts) line (rep fr) (rep to) mbn (rep pa) (rep pb) m_comeTo m_greatest m_least m_nowGreatest m_nowLeast m_does m_mostTime m_leastTime m_countUnit m_flagUnit m_worst m_best m_stack)) (fun E_1 x_searchStands_1 p_bounds_1 => (E_1 = "java/lang/IndexOutOfBoundsException" ∧ wp_X4_bound (nI a) v2 m_thrown (nI E) m_isFresh (rpB bn) (fun b th mf mbn => th = 1 ∧ ((1 : Int32) = 0 → f 0 = b.toInt64) ∧ cpI x_agesStand x_searchStands_1 (nI B) (nI n) (nI E) (nI P) g_sets g_size g_penalty g_comeCount s_answered s_codes s_ordered (rep tm) (rep tc) (rep ts) line (rep fr) (rep to) p_bounds_1 (rep pa) (rep pb) (rep lv) (rep fl) g_come g_outcomes g_greatestTimes g_leastTimes g_changed g_greatest g_least g_greatestNow g_leastNow s_order s_arriving s_unit s_flag s_forbidding s_most s_fewest th m_sets m_ways m_penalty (nI B) (nI E) (nI P) (nI n) mf m_isAnswer (rep tm) (rep tc) (rep ts) line (rep fr) (rep to) mbn (rep pa) (rep pb) m_comeTo m_greatest m_least m_nowGreatest m_nowLeast m_does m_mostTime m_leastTime m_countUnit m_flagUnit m_worst m_best m_stack)) ∨ (E_1 = "java/lang/IllegalArgumentException" ∧ wp_X4_bound (nI a) v2 m_thrown (nI E) m_isFresh (rpB bn) (fun b th mf mbn => th = 2 ∧ ((2 : Int32) = 0 → f 0 = b.toInt64) ∧ cpI x_agesStand x_searchStands_1 (nI B) (nI n) (nI E) (nI P) g_sets g_size g_penalty g_comeCount s_answered s_codes s_ordered (rep tm) (rep tc) (rep ts) line (rep fr) (rep to) p_bounds_1 (rep pa) (rep pb) (rep lv) (rep fl) g_come g_outcomes g_greatestTimes g_leastTimes g_changed g_greatest g_least g_greatestNow g_leastNow s_order s_arriving s_unit s_flag s_forbidding s_most s_fewest th m_sets m_ways m_penalty (nI B) (nI E) (nI P) (nI n) mf m_isAnswer (rep tm) (rep tc) (rep ts) line (rep fr) (rep to) mbn (rep pa) (rep pb) m_comeTo m_greatest m_least m_nowGreatest m_nowLeast m_does m_mostTime m_leastTime m_countUnit m_flagUnit m_worst m_best m_stack))) := by
      intro t ht hv
      subst hv
      unfold jn_X3_bound_46
      rw [ca, rpB_upd]
      refine ⟨ia, ia, ?_⟩
      unfold wp_X4_bound wp_X4_fail
      refine sp_within0 (by omega) (fun hv => absurd rfl (no ha hv)) (fun b hb hb2 => ⟨fun _ => ?_, fun w => absurd w (by decide)⟩)
      have tI : (nI t - 1).toInt = (t : Int) - 1 := by
        rcases Nat.eq_zero_or_pos t with z | z
        · subst z; decide
        · have e : nI t - 1 = nI (t - 1) := pk_sub (b := 1) z
          rw [e, nI_toInt (by omega)]
          omega
      have i15 : (15 : Int32).toInt = 15 := by decide
      have im1 : (-1 : Int32).toInt = -1 := by decide
      unfold wp_X4_within
      rw [ca, rpB_upd]
      refine ⟨fun w => ?_, fun _ => ⟨fun w => ?_, fun _ => ⟨fun _ => ⟨ia, ia, rfl, fun _ => by rw [pk_uLs], ?_⟩, fun w => absurd w (by decide)⟩⟩⟩
      · rw [Int32.lt_iff_toInt_lt, tI, im1] at w
        omega
      · rw [Int32.lt_iff_toInt_lt, tI, i15] at w
        omega
      · refine ⟨W, B, n, E, P, pn, tm, tc, ts, fr, to, _, pa, pb, lv, fl, line, sets, ⟨hpg.1, a2, ⟨a3.1, a3.2.1, fun e => ?_, a3.2.2.2⟩, a4, a5, a6, a7, a8⟩, clI_hf hcl P (fun j => if j = a then t else bn j) pa pb, mdI_st hmd 0 B n E P tm tc ts fr to (fun j => if j = a then t else bn j) pa pb lv fl line⟩
        show (if e = a then t else bn e) ≤ 16
        split
        · exact ht
        · exact a3.2.2.1 e
    refine ⟨fun q => good 0 (by omega) (by rw [q]; decide), fun q => ⟨fun q2 => Or.inr ⟨rfl, badM (Or.inl ?_)⟩, fun q2 => ⟨fun q3 => ?_, fun q3 => Or.inr ⟨rfl, badM (Or.inr (Int32.not_le.mp q3))⟩⟩⟩⟩
    · have q : v2.toInt ≠ (-1 : Int32).toInt := fun w => q (Int32.toInt_inj.mp w)
      have im1 : (-1 : Int32).toInt = -1 := by decide
      have i0 : (0 : Int32).toInt = 0 := by decide
      rw [Int32.lt_iff_toInt_lt] at q2 ⊢
      omega
    · obtain ⟨t, t1, t2⟩ := nI_of2 (M := 15) (n := 15) (by decide) q2 q3
      exact good (t + 1) (by omega) (by rw [nI_pred]; exact t2)
theorem cp_pair {x_agesStand : Int32} {x_searchStands : Int32} {p_blocks : Int32} {p_lines : Int32} {p_edges : Int32} {p_pairs : Int32} {g_sets : Int32} {g_size : Int32} {g_penalty : Int32} {g_comeCount : Int32} {s_answered : Int32} {s_codes : Int32} {s_ordered : Int32} {p_times : Nat → Int32} {p_touchCounts : Nat → Int32} {p_touchSlots : Nat → Int32} {p_lineOfSlot : Nat → Int32} {p_from : Nat → Int32} {p_to : Nat → Int32} {p_bounds : Nat → Int32} {p_pairA : Nat → Int32} {p_pairB : Nat → Int32} {p_leaving : Nat → Int32} {p_firstLeaving : Nat → Int32} {g_come : Nat → Int32} {g_outcomes : Nat → Int32} {g_greatestTimes : Nat → Int32} {g_leastTimes : Nat → Int32} {g_changed : Nat → Int32} {g_greatest : Nat → Int32} {g_least : Nat → Int32} {g_greatestNow : Nat → Int32} {g_leastNow : Nat → Int32} {s_order : Nat → Int32} {s_arriving : Nat → Int32} {s_unit : Nat → Int32} {s_flag : Nat → Int32} {s_forbidding : Nat → Int32} {s_most : Nat → Int64} {s_fewest : Nat → Int64} {m_thrown : Int32} {m_sets : Int32} {m_ways : Int32} {m_penalty : Int32} {m_blocks : Int32} {m_edges : Int32} {m_pairs : Int32} {m_lines : Int32} {m_isFresh : Int32} {m_isAnswer : Int32} {m_time : Nat → Int32} {m_touchMany : Nat → Int32} {m_touch : Nat → Int32} {m_line : Nat → Int32} {m_from : Nat → Int32} {m_to : Nat → Int32} {m_bound : Nat → Int32} {m_pairA : Nat → Int32} {m_pairB : Nat → Int32} {m_comeTo : Nat → Int32} {m_greatest : Nat → Int32} {m_least : Nat → Int32} {m_nowGreatest : Nat → Int32} {m_nowLeast : Nat → Int32} {m_does : Nat → Int32} {m_mostTime : Nat → Int64} {m_leastTime : Nat → Int64} {m_countUnit : Nat → Int32} {m_flagUnit : Nat → Int32} {m_worst : Nat → Int64} {m_best : Nat → Int64} {m_stack : Nat → Int32} (h : cpI x_agesStand x_searchStands p_blocks p_lines p_edges p_pairs g_sets g_size g_penalty g_comeCount s_answered s_codes s_ordered p_times p_touchCounts p_touchSlots p_lineOfSlot p_from p_to p_bounds p_pairA p_pairB p_leaving p_firstLeaving g_come g_outcomes g_greatestTimes g_leastTimes g_changed g_greatest g_least g_greatestNow g_leastNow s_order s_arriving s_unit s_flag s_forbidding s_most s_fewest m_thrown m_sets m_ways m_penalty m_blocks m_edges m_pairs m_lines m_isFresh m_isAnswer m_time m_touchMany m_touch m_line m_from m_to m_bound m_pairA m_pairB m_comeTo m_greatest m_least m_nowGreatest m_nowLeast m_does m_mostTime m_leastTime m_countUnit m_flagUnit m_worst m_best m_stack) (v1 v2 : Int32) (f : Nat → Int64) :
    wp_L_pair v1 v2 x_searchStands p_edges p_pairs p_pairA p_pairB f (fun k xs pp ppa ppb f' => wp_X4_pair v1 v2 m_thrown m_edges m_pairs m_isFresh m_pairA m_pairB (fun b th mp mf mpa mpb => th = k ∧ (k = 0 → f' 0 = b.toInt64) ∧ cpI x_agesStand xs p_blocks p_lines p_edges pp g_sets g_size g_penalty g_comeCount s_answered s_codes s_ordered p_times p_touchCounts p_touchSlots p_lineOfSlot p_from p_to p_bounds ppa ppb p_leaving p_firstLeaving g_come g_outcomes g_greatestTimes g_leastTimes g_changed g_greatest g_least g_greatestNow g_leastNow s_order s_arriving s_unit s_flag s_forbidding s_most s_fewest th m_sets m_ways m_penalty m_blocks m_edges mp m_lines mf m_isAnswer m_time m_touchMany m_touch m_line m_from m_to m_bound mpa mpb m_comeTo m_greatest m_least m_nowGreatest m_nowLeast m_does m_mostTime m_leastTime m_countUnit m_flagUnit m_worst m_best m_stack)) := by
  obtain ⟨W, B, n, E, P, pn, tm, tc, ts, fr, to, bn, pa, pb, lv, fl, line, sets, hpg, hcl, hmd⟩ := id h
  obtain ⟨⟨⟨bW, bB, bn4, bE⟩, btc, bfr, bfl, ball⟩, a2, a3, a4, a5, a6, a7, a8⟩ := id hpg
  obtain ⟨⟨c1, c2, c3, c4, -, -, -⟩, e1, e2, e3, e4, e5, e6, e7, e8, e9, e10, e11⟩ := id hcl.1
  obtain ⟨⟨d1, d2, d3, d4, -, -, -⟩, f1, f2, f3, f4, f5, f6, f7, f8, f9⟩ := id hmd.1
  have e4 := e4.symm
  have f4 := f4.symm
  subst c1 c2 c3 c4 e1 e2 e3 e4 e5 e6 e7 e8 e9 e10 e11 d1 d2 d3 d4 f1 f2 f3 f4 f5 f6 f7 f8 f9
  have fail : ∀ th, _ := cp_th h
  have no : ∀ {v : Int32} {j : Nat}, j < E → (v < 0 ∨ nI E ≤ v) → ¬ v = nI j := fun {v j} hj hv e => by
    subst e
    rcases hv with z | z
    · exact absurd z (nI_pos (by omega))
    · exact absurd z (nI_ge hj (by omega))
  have hP3 := a3.1.2.2
  have p3 : nI P < 3 ↔ P < 3 := nI_ltI (b := 3) (by omega) (by decide)
  have p3e : nI P = 3 ↔ P = 3 := nI_eq (b := 3) (by omega) (by decide)
  have cP : (nI P).toNatClampNeg = P := nI_clamp (by omega)
  unfold wp_L_pair wp_X3_pair wp_X1_addPair
  refine sp_hasE (by omega) (fun hv => ⟨fun _ => Or.inl ⟨rfl, ?_⟩, fun w => absurd rfl w⟩) (fun a ha hv => ⟨fun w => absurd w (by decide), fun _ => ?_⟩)
  · unfold wp_X4_pair wp_X4_fail
    exact sp_within0 (by omega) (fun _ => ⟨fun _ => ⟨rfl, fun w => absurd w (by decide), fail 1⟩, fun w => absurd rfl w⟩) (fun b hb hb2 => absurd hb2 (no hb hv))
  · refine sp_hasE (by omega) (fun hv2 => ⟨fun w => absurd rfl w, fun _ => Or.inl ⟨rfl, ?_⟩⟩) (fun c hc hv2 => ⟨fun _ => ?_, fun w => absurd w (by decide)⟩)
    · unfold wp_X4_pair wp_X4_fail
      exact sp_within0 (by omega) (fun _ => ⟨fun _ => ⟨rfl, fun w => absurd w (by decide), fail 1⟩, fun w => absurd rfl w⟩) (fun b hb hb2 => ⟨fun w => absurd w (by decide), fun _ => sp_within0 (by omega) (fun _ => ⟨fun w => absurd rfl w, fun _ => ⟨rfl, fun w => absurd w (by decide), fail 1⟩⟩) (fun b hb hb2 => absurd hb2 (no hb hv2))⟩)
    · subst hv hv2
      have MB : ∀ (Qm : Int32 → Int32 → Int32 → Int32 → (Nat → Int32) → (Nat → Int32) → Prop), (nI a = nI c → Qm 0 2 (nI P) m_isFresh (rep pa) (rep pb)) → (¬ nI a = nI c → P = 3 → Qm 0 3 (nI P) m_isFresh (rep pa) (rep pb)) → (¬ nI a = nI c → P < 3 → Qm (nI (P + 1)) 0 (nI (P + 1)) 0 (rep (fun j => if j = P then a else pa j)) (rep (fun j => if j = P then c else pb j))) → wp_X4_pair (nI a) (nI c) m_thrown (nI E) (nI P) m_isFresh (rep pa) (rep pb) Qm := by
        intro Qm q0 q1 q2
        unfold wp_X4_pair wp_X4_fail
        refine sp_within0 (by omega) (fun hv => absurd rfl (no ha hv)) (fun b hb hb2 => ⟨fun w => absurd w (by decide), fun _ => sp_within0 (by omega) (fun hv => absurd rfl (no hc hv)) (fun b hb hb2 => ⟨fun _ => ?_, fun w => absurd w (by decide)⟩)⟩)
        rw [p3e, cP, nI_1, rep_upd, rep_upd]
        exact ⟨fun w => ⟨fun w2 => ⟨vp_in_nI (by omega) (by decide), vp_in_nI (by omega) (by decide), q2 w (by omega)⟩, fun w2 => q1 w w2⟩, fun w => q0 w⟩
      rw [p3, cP, nI_1, rep_upd, rep_upd]
      refine ⟨fun q => ⟨fun q2 => ⟨vp_in_nI (by omega) (by decide), vp_in_nI (by omega) (by decide), MB _ (fun w => absurd w q) (fun _ w => by omega) (fun _ _ => ⟨rfl, fun _ => by rw [pk_uLs], ?_⟩)⟩, fun q2 => Or.inr (Or.inr ⟨rfl, MB _ (fun w => absurd w q) (fun _ _ => ⟨rfl, fun w => absurd w (by decide), fail 3⟩) (fun _ w => absurd w q2)⟩)⟩, fun q => Or.inr (Or.inl ⟨rfl, MB _ (fun _ => ⟨rfl, fun w => absurd w (by decide), fail 2⟩) (fun w => absurd q w) (fun w => absurd q w)⟩)⟩
      refine ⟨W, B, n, E, P + 1, pn, tm, tc, ts, fr, to, bn, _, _, lv, fl, line, sets, ⟨hpg.1, a2, ⟨⟨a3.1.1, a3.1.2.1, by omega⟩, a3.2.1, a3.2.2.1, fun i hi => ?_⟩, a4, a5, a6, a7, a8⟩, clI_hf hcl (P + 1) bn (fun j => if j = P then a else pa j) (fun j => if j = P then c else pb j), mdI_st hmd 0 B n E (P + 1) tm tc ts fr to bn (fun j => if j = P then a else pa j) (fun j => if j = P then c else pb j) lv fl line⟩
      show (if i = P then a else pa i) < E ∧ (if i = P then c else pb i) < E
      by_cases z : i = P
      · rw [if_pos z, if_pos z]; exact ⟨ha, hc⟩
      · rw [if_neg z, if_neg z]; exact a3.2.2.2 i (by omega)
