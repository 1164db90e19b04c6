noncomputable def smD (n : Nat) (line : Nat → Int32) (sets : Int32) : ∀ i j, Decidable (smS n line sets i j) := fun _ _ => Classical.propDecidable _
noncomputable def hiT (W n : Nat) (line : Nat → Int32) (sets : Int32) (pn : Nat) (tm tc ts cm GG LL : Nat → Nat) : Nat → Nat := @agHi W n line sets (smD n line sets) pn tm tc ts cm GG LL
noncomputable def loT (W n : Nat) (line : Nat → Int32) (sets : Int32) (pn : Nat) (tm tc ts cm GG LL : Nat → Nat) : Nat → Nat := @agLo W n line sets (smD n line sets) pn tm tc ts cm GG LL
def pgI (W B n E P pn : Nat) (tm tc ts fr to bn pa pb lv fl : Nat → Nat) : Prop := agPr W B n E tc ts fr to lv fl ∧ lvS B lv fl ∧ sgP B E P bn fr to pa pb ∧ 0 < W ∧ pn < 1000 ∧ (∀ b, b < B → tm b ≤ 100000) ∧ (∀ b, B ≤ b → b ≤ 40 → fl b = E) ∧ (∀ b, B ≤ b → tc b = 0)
def agI (W B n E : Nat) (tc ts fr to : Nat → Nat) (line : Nat → Int32) (sets : Int32) (cm GG LL : Nat → Nat) : Prop := @agIs W B n E (smS n line sets) (smD n line sets) tc (fun b i => ts (b * 6 + i)) fr to (agX cm GG LL)
def agC (W B n E pn : Nat) (tm tc ts fr to : Nat → Nat) (line : Nat → Int32) (sets : Int32) (cm GG LL : Nat → Nat) (cmc : Int32) (O GT LT : Nat → Int32) : Prop :=
  agI W B n E tc ts fr to line sets cm GG LL ∧ (∀ b, b < B → cm b = 1 → @agO W n line sets (smD n line sets) tc ts GG LL O b) ∧ (∀ b, b < B → GT b = nI (hiT W n line sets pn tm tc ts cm GG LL b) ∧ LT b = nI (loT W n line sets pn tm tc ts cm GG LL b)) ∧ cmc = nI (sumN cm B)
def agMd (W B n E pn : Nat) (tm tc ts fr to : Nat → Nat) (line : Nat → Int32) (sets : Int32) (cm GG LL : Nat → Nat) (DO : Nat → Int32) (MT LT : Nat → Int64) : Prop :=
  agI W B n E tc ts fr to line sets cm GG LL ∧ (∀ b, b < B → (MT b = lN (hiT W n line sets pn tm tc ts cm GG LL b) ∧ LT b = lN (loT W n line sets pn tm tc ts cm GG LL b)) ∧ ∀ i, i < tc b → DO (b * 6 + i) = @agDv W n line sets (smD n line sets) ts cm GG LL b i)
def clI (W B n E P pn : Nat) (tm tc ts fr to bn pa pb lv fl : Nat → Nat) (line : Nat → Int32) (sets : Int32) (x_agesStand : Int32) (x_searchStands : Int32) (p_blocks : Int32) (p_lines : Int32) (p_edges : Int32) (p_pairs : Int32) (g_sets : Int32) (g_size : Int32) (g_penalty : Int32) (g_comeCount : Int32) (s_answered : Int32) (s_codes : Int32) (s_ordered : Int32) (p_times : Nat → Int32) (p_touchCounts : Nat → Int32) (p_touchSlots : Nat → Int32) (p_lineOfSlot : Nat → Int32) (p_from : Nat → Int32) (p_to : Nat → Int32) (p_bounds : Nat → Int32) (p_pairA : Nat → Int32) (p_pairB : Nat → Int32) (p_leaving : Nat → Int32) (p_firstLeaving : Nat → Int32) (g_come : Nat → Int32) (g_outcomes : Nat → Int32) (g_greatestTimes : Nat → Int32) (g_leastTimes : Nat → Int32) (g_changed : Nat → Int32) (g_greatest : Nat → Int32) (g_least : Nat → Int32) (g_greatestNow : Nat → Int32) (g_leastNow : Nat → Int32) (s_order : Nat → Int32) (s_arriving : Nat → Int32) (s_unit : Nat → Int32) (s_flag : Nat → Int32) (s_forbidding : Nat → Int32) (s_most : Nat → Int64) (s_fewest : Nat → Int64) : Prop :=
  ((p_blocks = nI B ∧ p_lines = nI n ∧ p_edges = nI E ∧ p_pairs = nI P ∧ g_sets = sets ∧ g_size = nI W ∧ g_penalty = nI pn) ∧ p_times = rep tm ∧ p_touchCounts = rep tc ∧ p_touchSlots = rep ts ∧ p_lineOfSlot = line ∧ p_from = rep fr ∧ p_to = rep to ∧ p_bounds = rpB bn ∧ p_pairA = rep pa ∧ p_pairB = rep pb ∧ p_leaving = rep lv ∧ p_firstLeaving = rep fl) ∧
  ∃ (sa ss an cc od0 : Nat) (cm ch GG LL NG NL od ar un fg fo Mo Fe : Nat → Nat), (x_agesStand = nI sa ∧ x_searchStands = nI ss ∧ s_answered = nI an ∧ s_codes = nI cc ∧ s_ordered = nI od0) ∧ (g_come = rep cm ∧ g_changed = rep ch ∧ g_greatest = rep GG ∧ g_least = rep LL ∧ g_greatestNow = rep NG ∧ g_leastNow = rep NL) ∧ (s_order = rep od ∧ s_arriving = rep ar ∧ s_unit = rep un ∧ s_flag = rep fg ∧ s_forbidding = rep fo ∧ s_most = repL Mo ∧ s_fewest = repL Fe) ∧
    (sa ≤ 1 ∧ ss ≤ 1 ∧ an ≤ 1) ∧ ((∀ b, cm b ≤ 1 ∧ ch b ≤ 1) ∧ (∀ k, GG k ≤ W ∧ LL k ≤ W) ∧ (∀ k, NG k ≤ W ∧ NL k ≤ W)) ∧ (ss = 1 → sa = 1) ∧ (sa = 1 → agC W B n E pn tm tc ts fr to line sets cm GG LL g_comeCount g_outcomes g_greatestTimes g_leastTimes) ∧
    (ss = 1 → seC B E P bn pa pb cm fr to (hiT W n line sets pn tm tc ts cm GG LL) (loT W n line sets pn tm tc ts cm GG LL) un fg fo Mo Fe an cc)
def mdI (W B n E P pn : Nat) (tm tc ts fr to bn pa pb lv fl : Nat → Nat) (line : Nat → Int32) (sets : Int32) (m_thrown : Int32) (m_sets : Int32) (m_ways : Int32) (m_penalty : Int32) (m_blocks : Int32) (m_edges : Int32) (m_pairs : Int32) (m_lines : Int32) (m_isFresh : Int32) (m_isAnswer : Int32) (m_time : Nat → Int32) (m_touchMany : Nat → Int32) (m_touch : Nat → Int32) (m_line : Nat → Int32) (m_from : Nat → Int32) (m_to : Nat → Int32) (m_bound : Nat → Int32) (m_pairA : Nat → Int32) (m_pairB : Nat → Int32) (m_comeTo : Nat → Int32) (m_greatest : Nat → Int32) (m_least : Nat → Int32) (m_nowGreatest : Nat → Int32) (m_nowLeast : Nat → Int32) (m_does : Nat → Int32) (m_mostTime : Nat → Int64) (m_leastTime : Nat → Int64) (m_countUnit : Nat → Int32) (m_flagUnit : Nat → Int32) (m_worst : Nat → Int64) (m_best : Nat → Int64) (m_stack : Nat → Int32) : Prop :=
  ((m_blocks = nI B ∧ m_lines = nI n ∧ m_edges = nI E ∧ m_pairs = nI P ∧ m_sets = sets ∧ m_ways = nI W ∧ m_penalty = nI pn) ∧ m_time = rep tm ∧ m_touchMany = rep tc ∧ m_touch = rep ts ∧ m_line = line ∧ m_from = rep fr ∧ m_to = rep to ∧ m_bound = rpB bn ∧ m_pairA = rep pa ∧ m_pairB = rep pb) ∧
  ∃ (fs an : Nat) (cm GG LL NG NL cu fu Wo Be st : Nat → Nat), (m_isFresh = nI fs ∧ m_isAnswer = nI an) ∧ (m_comeTo = rep cm ∧ m_greatest = repE W GG ∧ m_least = repE W LL ∧ m_nowGreatest = repE W NG ∧ m_nowLeast = repE W NL) ∧ (m_countUnit = rep cu ∧ m_flagUnit = rep fu ∧ m_worst = repW Wo ∧ m_best = repL Be ∧ m_stack = rep st) ∧
    (fs ≤ 1 ∧ an ≤ 1) ∧ ((∀ b, cm b ≤ 1) ∧ (∀ k, GG k ≤ W ∧ LL k ≤ W) ∧ (∀ k, NG k ≤ W ∧ NL k ≤ W)) ∧ (∀ s, Wo s < 2 ^ 61 ∧ Be s < 2 ^ 61) ∧
    (fs = 1 → agMd W B n E pn tm tc ts fr to line sets cm GG LL m_does m_mostTime m_leastTime ∧ seR B E P bn pa pb cm fr to (hiT W n line sets pn tm tc ts cm GG LL) (loT W n line sets pn tm tc ts cm GG LL) cu fu Wo Be an)
def cpI (x_agesStand : Int32) (x_searchStands : Int32) (p_blocks : Int32) (p_lines : Int32) (p_edges : Int32) (p_pairs : Int32) (g_sets : Int32) (g_size : Int32) (g_penalty : Int32) (g_comeCount : Int32) (s_answered : Int32) (s_codes : Int32) (s_ordered : Int32) (p_times : Nat → Int32) (p_touchCounts : Nat → Int32) (p_touchSlots : Nat → Int32) (p_lineOfSlot : Nat → Int32) (p_from : Nat → Int32) (p_to : Nat → Int32) (p_bounds : Nat → Int32) (p_pairA : Nat → Int32) (p_pairB : Nat → Int32) (p_leaving : Nat → Int32) (p_firstLeaving : Nat → Int32) (g_come : Nat → Int32) (g_outcomes : Nat → Int32) (g_greatestTimes : Nat → Int32) (g_leastTimes : Nat → Int32) (g_changed : Nat → Int32) (g_greatest : Nat → Int32) (g_least : Nat → Int32) (g_greatestNow : Nat → Int32) (g_leastNow : Nat → Int32) (s_order : Nat → Int32) (s_arriving : Nat → Int32) (s_unit : Nat → Int32) (s_flag : Nat → Int32) (s_forbidding : Nat → Int32) (s_most : Nat → Int64) (s_fewest : Nat → Int64) (m_thrown : Int32) (m_sets : Int32) (m_ways : Int32) (m_penalty : Int32) (m_blocks : Int32) (m_edges : Int32) (m_pairs : Int32) (m_lines : Int32) (m_isFresh : Int32) (m_isAnswer : Int32) (m_time : Nat → Int32) (m_touchMany : Nat → Int32) (m_touch : Nat → Int32) (m_line : Nat → Int32) (m_from : Nat → Int32) (m_to : Nat → Int32) (m_bound : Nat → Int32) (m_pairA : Nat → Int32) (m_pairB : Nat → Int32) (m_comeTo : Nat → Int32) (m_greatest : Nat → Int32) (m_least : Nat → Int32) (m_nowGreatest : Nat → Int32) (m_nowLeast : Nat → Int32) (m_does : Nat → Int32) (m_mostTime : Nat → Int64) (m_leastTime : Nat → Int64) (m_countUnit : Nat → Int32) (m_flagUnit : Nat → Int32) (m_worst : Nat → Int64) (m_best : Nat → Int64) (m_stack : Nat → Int32) : Prop := ∃ (W B n E P pn : Nat) (tm tc ts fr to bn pa pb lv fl : Nat → Nat) (line : Nat → Int32) (sets : Int32), pgI W B n E P pn tm tc ts fr to bn pa pb lv fl ∧ clI W B n E P pn tm tc ts fr to bn pa pb lv fl line sets x_agesStand x_searchStands p_blocks p_lines p_edges p_pairs g_sets g_size g_penalty g_comeCount s_answered s_codes s_ordered p_times p_touchCounts p_touchSlots p_lineOfSlot p_from p_to p_bounds p_pairA p_pairB p_leaving p_firstLeaving g_come g_outcomes g_greatestTimes g_leastTimes g_changed g_greatest g_least g_greatestNow g_leastNow s_order s_arriving s_unit s_flag s_forbidding s_most s_fewest ∧ mdI W B n E P pn tm tc ts fr to bn pa pb lv fl line sets m_thrown m_sets m_ways m_penalty m_blocks m_edges m_pairs m_lines m_isFresh m_isAnswer m_time m_touchMany m_touch m_line m_from m_to m_bound m_pairA m_pairB m_comeTo m_greatest m_least m_nowGreatest m_nowLeast m_does m_mostTime m_leastTime m_countUnit m_flagUnit m_worst m_best m_stack
theorem sp_slot {n : Nat} {v : Int32} {line : Nat → Int32} {Q : Int32 → Prop} (hn : n ≤ 40) (h : ∀ r, isLow (fun k => line k = v) n r → Q (encE n r)) : wp_X1_slotOf v (nI n) line Q := by
  have LP : ∀ d i, i + d = n → (∀ j, j < i → ¬ line j = v) → lp_X1_slotOf_2 v (nI n) line Q (d + 1) (nI i) := by
    intro d
    induction d with
    | zero =>
      intro i hi hno
      have z : i = n := by omega
      subst z
      unfold lp_X1_slotOf_2
      refine ⟨fun _ => ?_, fun q => absurd (nI_le (Nat.le_refl _) (by omega)) q⟩
      have := h i (Or.inl ⟨rfl, hno⟩)
      unfold encE at this
      rw [if_neg (by omega)] at this
      exact this
    | succ d ih =>
      intro i hi hno
      have hlt : i < n := by omega
      have ci : (nI i).toNatClampNeg = i := nI_clamp (by omega)
      unfold lp_X1_slotOf_2
      rw [ci, nI_1]
      refine ⟨fun q => absurd q (nI_ge hlt (by omega)), fun _ => ⟨vp_in_nI (by omega) (by decide), fun q => ih (i + 1) (by omega) (fun j hj => ?_), fun q => ?_⟩⟩
      · by_cases z : j = i
        · rw [z]; exact q
        · exact hno j (by omega)
      · have := h i (Or.inr ⟨hlt, q, hno⟩)
        unfold encE at this
        rw [if_pos hlt] at this
        exact this
  refine ⟨n + 1, ?_⟩
  have := LP n 0 (by omega) (fun j hj => by omega)
  rw [nI_0] at this
  exact this
theorem sp_find {n : Nat} {v : Int32} {line : Nat → Int32} {Q : Int32 → Prop} (hn : n ≤ 40) (h : ∀ r, isLow (fun k => line k = v) n r → Q (encE n r)) : wp_X4_find v (nI n) line Q := by
  have LP : ∀ d i, i + d = n → (∀ j, j < i → ¬ line j = v) → lp_X4_find_2 v (nI n) line Q (d + 1) (nI i) := by
    intro d
    induction d with
    | zero =>
      intro i hi hno
      have z : i = n := by omega
      subst z
      unfold lp_X4_find_2
      refine ⟨fun _ => ?_, fun q => absurd (nI_le (Nat.le_refl _) (by omega)) q⟩
      have := h i (Or.inl ⟨rfl, hno⟩)
      unfold encE at this
      rw [if_neg (by omega)] at this
      exact this
    | succ d ih =>
      intro i hi hno
      have hlt : i < n := by omega
      have ci : (nI i).toNatClampNeg = i := nI_clamp (by omega)
      unfold lp_X4_find_2
      rw [ci, nI_1]
      refine ⟨fun q => absurd q (nI_ge hlt (by omega)), fun _ => ⟨vp_in_nI (by omega) (by decide), fun q => ih (i + 1) (by omega) (fun j hj => ?_), fun q => ?_⟩⟩
      · by_cases z : j = i
        · rw [z]; exact q
        · exact hno j (by omega)
      · have := h i (Or.inr ⟨hlt, q, hno⟩)
        unfold encE at this
        rw [if_pos hlt] at this
        exact this
  refine ⟨n + 1, ?_⟩
  have := LP n 0 (by omega) (fun j hj => by omega)
  rw [nI_0] at this
  exact this
theorem isLow_le {p : Nat → Prop} {E r : Nat} (h : isLow p E r) : r ≤ E := by
  rcases h with ⟨a, _⟩ | ⟨a, _, _⟩ <;> omega
theorem encE_in {E r : Nat} (h : r < E) : encE E r = nI r := by unfold encE; rw [if_pos h]
theorem encE_out {E r : Nat} (h : ¬ r < E) : encE E r = -1 := by unfold encE; rw [if_neg h]
theorem encE_neg {E r : Nat} (hE : E ≤ 1000) : encE E r < 0 ↔ ¬ r < E := by
  by_cases h : r < E
  · rw [encE_in h]
    exact ⟨fun q => absurd q (nI_pos (by omega)), fun q => absurd h q⟩
  · rw [encE_out h]
    exact ⟨fun _ => h, fun _ => by decide⟩
theorem encE_m1 {E r : Nat} (hE : E ≤ 1000) : encE E r = -1 ↔ ¬ r < E := by
  by_cases h : r < E
  · rw [encE_in h]
    refine ⟨fun q => ?_, fun q => absurd h q⟩
    have k := nI_pos (n := r) (by omega)
    rw [q] at k
    exact absurd (show (-1 : Int32) < 0 by decide) k
  · rw [encE_out h]
    exact ⟨fun _ => h, fun _ => rfl⟩
theorem sp_hasB {N : Nat} {v : Int32} {Q : Int32 → Prop} (hN : N ≤ 80) (h0 : (v < 0 ∨ nI N ≤ v) → Q 0) (h1 : ∀ j, j < N → v = nI j → Q 1) : wp_X1_hasBlock v (nI N) Q := by
  unfold wp_X1_hasBlock
  refine ⟨fun q => h0 (Or.inl q), fun q => ⟨fun q2 => h0 (Or.inr q2), fun q2 => ?_⟩⟩
  rcases pk_ix v (n := N) (by omega) with z | z | ⟨j, j1, j2⟩
  · exact absurd z q
  · exact absurd z q2
  · exact h1 j j1 j2
theorem sp_hasE {N : Nat} {v : Int32} {Q : Int32 → Prop} (hN : N ≤ 80) (h0 : (v < 0 ∨ nI N ≤ v) → Q 0) (h1 : ∀ j, j < N → v = nI j → Q 1) : wp_X1_hasEdge v (nI N) Q := by
  unfold wp_X1_hasEdge
  refine ⟨fun q => h0 (Or.inl q), fun q => ⟨fun q2 => h0 (Or.inr q2), fun q2 => ?_⟩⟩
  rcases pk_ix v (n := N) (by omega) with z | z | ⟨j, j1, j2⟩
  · exact absurd z q
  · exact absurd z q2
  · exact h1 j j1 j2
theorem sp_within0 {N : Nat} {v : Int32} {Q : Int32 → Prop} (hN : N ≤ 80) (h0 : (v < 0 ∨ nI N ≤ v) → Q 0) (h1 : ∀ j, j < N → v = nI j → Q 1) : wp_X4_within v 0 (nI N - 1) Q := by
  unfold wp_X4_within
  refine ⟨fun q => h0 (Or.inl q), fun q => ⟨fun q2 => ?_, fun q2 => ?_⟩⟩
  · rcases pk_ix v (n := N) (by omega) with z | z | ⟨j, j1, j2⟩
    · exact absurd z q
    · exact h0 (Or.inr z)
    · have e : nI N - 1 = nI (N - 1) := pk_sub (b := 1) (by omega)
      rw [e, j2] at q2
      exact absurd q2 (nI_nlt (by omega) (by omega))
  · rcases pk_ix v (n := N) (by omega) with z | z | ⟨j, j1, j2⟩
    · exact absurd z q
    · refine absurd ?_ q2
      rw [Int32.le_iff_toInt_le, nI_toInt (by omega)] at z
      rw [Int32.lt_iff_toInt_lt]
      rcases Nat.eq_zero_or_pos N with w | w
      · rw [w]
        have : (nI 0 - 1).toInt = -1 := by decide
        omega
      · have e : nI N - 1 = nI (N - 1) := pk_sub (b := 1) w
        rw [e, nI_toInt (by omega)]
        omega
    · exact h1 j j1 j2
theorem lN_of {x : Int32} {k : Nat} (h : x = nI k) (hk : k < 2 ^ 31) : x.toInt64 = lN k := by rw [h]; exact nI_l hk
