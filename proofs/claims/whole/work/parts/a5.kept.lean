theorem jdH_cg {pn base : Nat} {oc oc' : Nat → Nat} : ∀ m, (∀ i, i < m → oc i = oc' i) → jdH pn oc base m = jdH pn oc' base m ∧ jdL pn oc base m = jdL pn oc' base m := by
  intro m
  induction m with
  | zero => intro _; exact ⟨rfl, rfl⟩
  | succ m ih =>
    intro h
    obtain ⟨k1, k2⟩ := ih (fun i hi => h i (by omega))
    show jdH pn oc base m + (if oc m = 1 then 0 else pn) = jdH pn oc' base m + (if oc' m = 1 then 0 else pn) ∧ jdL pn oc base m + (if oc m = 2 then pn else 0) = jdL pn oc' base m + (if oc' m = 2 then pn else 0)
    rw [k1, k2, h m (by omega)]
    exact ⟨rfl, rfl⟩
theorem jdH_le {pn base : Nat} {oc : Nat → Nat} : ∀ m, jdH pn oc base m ≤ base + m * pn ∧ jdL pn oc base m ≤ base + m * pn := by
  intro m
  induction m with
  | zero => show base ≤ base + 0 * pn ∧ base ≤ base + 0 * pn; omega
  | succ m ih =>
    obtain ⟨k1, k2⟩ := ih
    show jdH pn oc base m + (if oc m = 1 then 0 else pn) ≤ base + (m + 1) * pn ∧ jdL pn oc base m + (if oc m = 2 then pn else 0) ≤ base + (m + 1) * pn
    rw [Nat.succ_mul]
    constructor <;> (split <;> omega)
theorem hiT_le {W n pn b : Nat} {line : Nat → Int32} {sets : Int32} {tm tc ts cm GG LL : Nat → Nat} (hpn : pn < 1000) (htm : tm b ≤ 100000) (htc : tc b ≤ 6) : hiT W n line sets pn tm tc ts cm GG LL b ≤ tMx ∧ loT W n line sets pn tm tc ts cm GG LL b ≤ tMx := by
  have t : tMx = 200000 := rfl
  have m : tc b * pn ≤ 6 * 999 := Nat.mul_le_mul htc (by omega)
  unfold hiT loT agHi agLo
  constructor
  · split
    · have := (jdH_le (pn := pn) (base := tm b) (oc := @agOc W n line sets (smD n line sets) ts GG LL b) (tc b)).1
      omega
    · omega
  · split
    · have := (jdH_le (pn := pn) (base := tm b) (oc := @agOc W n line sets (smD n line sets) ts GG LL b) (tc b)).2
      omega
    · omega
theorem ag_same {W B n E : Nat} {tc ts fr to : Nat → Nat} {line : Nat → Int32} {sets : Int32} {cm GG LL cm' GG' LL' : Nat → Nat} (hc : ∀ b, cm b ≤ 1) (hc' : ∀ b, cm' b ≤ 1) (h : agI W B n E tc ts fr to line sets cm GG LL) (h' : agI W B n E tc ts fr to line sets cm' GG' LL') : ∀ b, b < B → cm b = cm' b ∧ (cm b = 1 → ∀ k, k < n → GG (b * 40 + k) = GG' (b * 40 + k) ∧ LL (b * 40 + k) = LL' (b * 40 + k)) := by
  intro b hb
  obtain ⟨k1, k2⟩ := @agIs_one W B n E (smS n line sets) (smD n line sets) tc (fun b i => ts (b * 6 + i)) fr to _ _ h h' b hb
  have k1 : cm b = 1 ↔ cm' b = 1 := k1
  have := hc b
  have := hc' b
  exact ⟨by omega, k2⟩
theorem oc_same {W n b i : Nat} {ts : Nat → Nat} {line : Nat → Int32} {sets : Int32} {GG LL GG' LL' : Nat → Nat} (h : ∀ k, k < n → GG (b * 40 + k) = GG' (b * 40 + k) ∧ LL (b * 40 + k) = LL' (b * 40 + k)) (ht : ∀ j, j ≤ i → ts (b * 6 + j) < n) : @agOc W n line sets (smD n line sets) ts GG LL b i = @agOc W n line sets (smD n line sets) ts GG' LL' b i := by
  unfold agOc aoc
  rw [@ath_G_cg n line sets (smD n line sets) (fun i => ts (b * 6 + i)) (fun k => GG (b * 40 + k)) (fun k => GG' (b * 40 + k)) (fun k hk => (h k hk).1) i (fun j hj => ht j (by omega)) _ (ht i (Nat.le_refl _)), @ath_L_cg n W line sets (smD n line sets) (fun i => ts (b * 6 + i)) (fun k => LL (b * 40 + k)) (fun k => LL' (b * 40 + k)) (fun k hk => (h k hk).2) i (fun j hj => ht j (by omega)) _ (ht i (Nat.le_refl _))]
theorem hi_same {W B n E pn : Nat} {tm tc ts fr to : Nat → Nat} {line : Nat → Int32} {sets : Int32} {cm GG LL cm' GG' LL' : Nat → Nat} (htc : ∀ b, b < B → tc b ≤ 6 ∧ ∀ i, i < tc b → ts (b * 6 + i) < n) (hc : ∀ b, cm b ≤ 1) (hc' : ∀ b, cm' b ≤ 1) (h : agI W B n E tc ts fr to line sets cm GG LL) (h' : agI W B n E tc ts fr to line sets cm' GG' LL') : ∀ b, b < B → cm b = cm' b ∧ hiT W n line sets pn tm tc ts cm GG LL b = hiT W n line sets pn tm tc ts cm' GG' LL' b ∧ loT W n line sets pn tm tc ts cm GG LL b = loT W n line sets pn tm tc ts cm' GG' LL' b := by
  intro b hb
  obtain ⟨k1, k2⟩ := ag_same hc hc' h h' b hb
  refine ⟨k1, ?_⟩
  unfold hiT loT agHi agLo
  rw [← k1]
  by_cases z : cm b = 1
  · rw [if_pos z, if_pos z, if_pos z, if_pos z]
    exact jdH_cg (tc b) (fun i hi => oc_same (k2 z) (fun j hj => (htc b hb).2 j (by omega)))
  · rw [if_neg z, if_neg z, if_neg z, if_neg z]
    exact ⟨rfl, rfl⟩
theorem agI_cl {W B n E : Nat} {tc ts fr to : Nat → Nat} {line : Nat → Int32} {sets : Int32} {cm GG LL : Nat → Nat} (h : agI W B n E tc ts fr to line sets cm GG LL) : (0 < B → cm 0 = 1) ∧ ∀ e, e < E → cm (fr e) = 1 → cm (to e) = 1 := ⟨fun hB => (h.1.1 hB).1, fun e he hc => (h.1.2.2 e he hc).1⟩
theorem vsI_cg {B E P : Nat} {bn pa pb cm cm' fr to tH tL tH' tL' r Mo Fe : Nat → Nat} (hc : ∀ b, b < B → cm b = cm' b ∧ tH b = tH' b ∧ tL b = tL' b) (h : vsI B E P bn pa pb cm' fr to tH' tL' r Mo Fe 0) : vsI B E P bn pa pb cm fr to tH tL r Mo Fe 0 := by
  intro c b hc1 hb hcb hk
  obtain ⟨c1, c2, c3⟩ := hc b hb
  obtain ⟨k1, k2⟩ := h c b hc1 hb (by rw [← c1]; exact hcb) hk
  refine ⟨?_, k2⟩
  unfold eqC at k1 ⊢
  rw [c2, c3]
  exact k1
theorem seC_cg {B E P an cc : Nat} {bn pa pb cm cm' fr to tH tL tH' tL' un fg fo Mo Fe : Nat → Nat} (hft : ∀ e, e < E → fr e < B ∧ to e < B) (hc : ∀ b, b < B → cm b = cm' b ∧ tH b = tH' b ∧ tL b = tL' b) (h : seC B E P bn pa pb cm' fr to tH' tL' un fg fo Mo Fe an cc) : seC B E P bn pa pb cm fr to tH tL un fg fo Mo Fe an cc := by
  have c1 : ∀ b, b < B → cm b = cm' b := fun b hb => (hc b hb).1
  rcases h with ⟨a1, a2, a3, ⟨r, a4, a5⟩, a6⟩ | ⟨a1, a2⟩
  · exact Or.inl ⟨a1, a2, a3, ⟨r, acR_cg hft c1 a4, vsI_cg hc a5⟩, a6⟩
  · refine Or.inr ⟨a1, ?_⟩
    rcases a2 with b1 | b1 | b1 | ⟨b1, r, Mo, Fe, b2, b3, b4⟩
    · exact Or.inl b1
    · exact Or.inr (Or.inl b1)
    · exact Or.inr (Or.inr (Or.inl (fun ⟨r, hr⟩ => b1 ⟨r, acR_cg hft (fun b hb => (c1 b hb).symm) hr⟩)))
    · exact Or.inr (Or.inr (Or.inr ⟨b1, r, Mo, Fe, acR_cg hft c1 b2, vsI_cg hc b3, b4⟩))
theorem cl_settle {W B n E P pn : Nat} {tm tc ts fr to bn pa pb lv fl : Nat → Nat} {line : Nat → Int32} {sets : Int32} {x_agesStand : Int32} {x_searchStands : Int32} {p_blocks : Int32} {p_lines : Int32} {p_edges : Int32} {p_pairs : Int32} {g_sets : Int32} {g_size : Int32} {g_penalty : Int32} {g_comeCount : Int32} {s_answered : Int32} {s_codes : Int32} {s_ordered : Int32} {p_times : Nat → Int32} {p_touchCounts : Nat → Int32} {p_touchSlots : Nat → Int32} {p_lineOfSlot : Nat → Int32} {p_from : Nat → Int32} {p_to : Nat → Int32} {p_bounds : Nat → Int32} {p_pairA : Nat → Int32} {p_pairB : Nat → Int32} {p_leaving : Nat → Int32} {p_firstLeaving : Nat → Int32} {g_come : Nat → Int32} {g_outcomes : Nat → Int32} {g_greatestTimes : Nat → Int32} {g_leastTimes : Nat → Int32} {g_changed : Nat → Int32} {g_greatest : Nat → Int32} {g_least : Nat → Int32} {g_greatestNow : Nat → Int32} {g_leastNow : Nat → Int32} {s_order : Nat → Int32} {s_arriving : Nat → Int32} {s_unit : Nat → Int32} {s_flag : Nat → Int32} {s_forbidding : Nat → Int32} {s_most : Nat → Int64} {s_fewest : Nat → Int64} {Q : Int32 → Int32 → (Nat → Int32) → (Nat → Int32) → (Nat → Int32) → (Nat → Int32) → (Nat → Int32) → (Nat → Int32) → (Nat → Int32) → (Nat → Int32) → (Nat → Int32) → Prop} (hpg : pgI W B n E P pn tm tc ts fr to bn pa pb lv fl) (h : clI W B n E P pn tm tc ts fr to bn pa pb lv fl line sets x_agesStand x_searchStands p_blocks p_lines p_edges p_pairs g_sets g_size g_penalty g_comeCount s_answered s_codes s_ordered p_times p_touchCounts p_touchSlots p_lineOfSlot p_from p_to p_bounds p_pairA p_pairB p_leaving p_firstLeaving g_come g_outcomes g_greatestTimes g_leastTimes g_changed g_greatest g_least g_greatestNow g_leastNow s_order s_arriving s_unit s_flag s_forbidding s_most s_fewest)
    (hq : ∀ (cm ch GG LL NG NL : Nat → Nat) (cmc : Int32) (O GT LT : Nat → Int32), (∀ b, cm b ≤ 1 ∧ ch b ≤ 1) → (∀ k, GG k ≤ W ∧ LL k ≤ W) → (∀ k, NG k ≤ W ∧ NL k ≤ W) → agC W B n E pn tm tc ts fr to line sets cm GG LL cmc O GT LT → clI W B n E P pn tm tc ts fr to bn pa pb lv fl line sets 1 x_searchStands p_blocks p_lines p_edges p_pairs g_sets g_size g_penalty cmc s_answered s_codes s_ordered p_times p_touchCounts p_touchSlots p_lineOfSlot p_from p_to p_bounds p_pairA p_pairB p_leaving p_firstLeaving (rep cm) O GT LT (rep ch) (rep GG) (rep LL) (rep NG) (rep NL) s_order s_arriving s_unit s_flag s_forbidding s_most s_fewest → Q 1 cmc (rep cm) O GT LT (rep ch) (rep GG) (rep LL) (rep NG) (rep NL)) :
    wp_X3_settleAges x_agesStand p_blocks p_lines g_sets g_size g_penalty g_comeCount p_times p_touchCounts p_touchSlots p_lineOfSlot p_to p_leaving p_firstLeaving g_come g_outcomes g_greatestTimes g_leastTimes g_changed g_greatest g_least g_greatestNow g_leastNow Q := by
  obtain ⟨h1, sa, ss, an, cc, od0, cm, ch, GG, LL, NG, NL, od, ar, un, fg, fo, Mo, Fe, ⟨k1, k2, k3, k4, k5⟩, ⟨g1, g2, g3, g4, g5, g6⟩, ks, ⟨l1, l2, l3⟩, ⟨s1, s2, s3⟩, hss, hsa, hse⟩ := id h
  obtain ⟨⟨c1, c2, c3, c4, c5, c6, c7⟩, e1, e2, e3, e4, e5, e6, e7, e8, e9, e10, e11⟩ := id h1
  have e4 := e4.symm
  have c5 := c5.symm
  subst k1 g1 g2 g3 g4 g5 g6 c1 c2 c3 c4 c5 c6 c7 e1 e2 e3 e4 e5 e6 e7 e8 e9 e10 e11
  have z0 : nI sa = 0 ↔ sa = 0 := by rw [← nI_0]; exact nI_eq (by omega) (by decide)
  unfold wp_X3_settleAges
  rw [z0]
  refine ⟨fun q => ?_, fun q => ?_⟩
  · have q : sa = 1 := by omega
    subst q
    exact hq cm ch GG LL NG NL _ _ _ _ s1 s2 s3 (hsa rfl) h
  · have ss0 : ss = 0 := by
      rcases (show ss = 0 ∨ ss = 1 by omega) with z | z
      · exact z
      · have := hss z
        omega
    refine @sp_settle W B n E pn line sets _ (smD n line sets) tm tc ts fr to lv fl cm ch GG LL NG NL _ _ _ _ hpg.1 s1 s2 s3 (fun cm ch GG LL NG NL O GT LT r1 r2 r3 r4 r5 r6 => ?_)
    have hA : agC W B n E pn tm tc ts fr to line sets cm GG LL (nI (sumN cm B)) O GT LT := ⟨r1, r2, r6, rfl⟩
    exact hq cm ch GG LL NG NL _ _ _ _ r3 r4 r5 hA ⟨h1, 1, ss, an, cc, od0, cm, ch, GG, LL, NG, NL, od, ar, un, fg, fo, Mo, Fe, ⟨rfl, k2, k3, k4, k5⟩, ⟨rfl, rfl, rfl, rfl, rfl, rfl⟩, ks, ⟨by omega, l2, l3⟩, ⟨r3, r4, r5⟩, fun _ => rfl, fun _ => hA, fun z => by omega⟩
theorem cl_answer {W B n E P pn : Nat} {tm tc ts fr to bn pa pb lv fl : Nat → Nat} {line : Nat → Int32} {sets : Int32} {x_agesStand : Int32} {x_searchStands : Int32} {p_blocks : Int32} {p_lines : Int32} {p_edges : Int32} {p_pairs : Int32} {g_sets : Int32} {g_size : Int32} {g_penalty : Int32} {g_comeCount : Int32} {s_answered : Int32} {s_codes : Int32} {s_ordered : Int32} {p_times : Nat → Int32} {p_touchCounts : Nat → Int32} {p_touchSlots : Nat → Int32} {p_lineOfSlot : Nat → Int32} {p_from : Nat → Int32} {p_to : Nat → Int32} {p_bounds : Nat → Int32} {p_pairA : Nat → Int32} {p_pairB : Nat → Int32} {p_leaving : Nat → Int32} {p_firstLeaving : Nat → Int32} {g_come : Nat → Int32} {g_outcomes : Nat → Int32} {g_greatestTimes : Nat → Int32} {g_leastTimes : Nat → Int32} {g_changed : Nat → Int32} {g_greatest : Nat → Int32} {g_least : Nat → Int32} {g_greatestNow : Nat → Int32} {g_leastNow : Nat → Int32} {s_order : Nat → Int32} {s_arriving : Nat → Int32} {s_unit : Nat → Int32} {s_flag : Nat → Int32} {s_forbidding : Nat → Int32} {s_most : Nat → Int64} {s_fewest : Nat → Int64} {Q : Int32 → Int32 → Int32 → Int32 → Int32 → Int32 → Int32 → (Nat → Int32) → (Nat → Int32) → (Nat → Int32) → (Nat → Int32) → (Nat → Int32) → (Nat → Int32) → (Nat → Int32) → (Nat → Int32) → (Nat → Int32) → (Nat → Int32) → (Nat → Int32) → (Nat → Int32) → (Nat → Int32) → (Nat → Int32) → (Nat → Int64) → (Nat → Int64) → Prop} (hpg : pgI W B n E P pn tm tc ts fr to bn pa pb lv fl) (h : clI W B n E P pn tm tc ts fr to bn pa pb lv fl line sets x_agesStand x_searchStands p_blocks p_lines p_edges p_pairs g_sets g_size g_penalty g_comeCount s_answered s_codes s_ordered p_times p_touchCounts p_touchSlots p_lineOfSlot p_from p_to p_bounds p_pairA p_pairB p_leaving p_firstLeaving g_come g_outcomes g_greatestTimes g_leastTimes g_changed g_greatest g_least g_greatestNow g_leastNow s_order s_arriving s_unit s_flag s_forbidding s_most s_fewest)
    (hq : ∀ (an cc od0 : Nat) (cm ch GG LL NG NL od ar un fg fo Mo Fe : Nat → Nat) (cmc : Int32) (O GT LT : Nat → Int32), an ≤ 1 → (∀ b, cm b ≤ 1) → agC W B n E pn tm tc ts fr to line sets cm GG LL cmc O GT LT → seC B E P bn pa pb cm fr to (hiT W n line sets pn tm tc ts cm GG LL) (loT W n line sets pn tm tc ts cm GG LL) un fg fo Mo Fe an cc →
      clI W B n E P pn tm tc ts fr to bn pa pb lv fl line sets 1 1 p_blocks p_lines p_edges p_pairs g_sets g_size g_penalty cmc (nI an) (nI cc) (nI od0) p_times p_touchCounts p_touchSlots p_lineOfSlot p_from p_to p_bounds p_pairA p_pairB p_leaving p_firstLeaving (rep cm) O GT LT (rep ch) (rep GG) (rep LL) (rep NG) (rep NL) (rep od) (rep ar) (rep un) (rep fg) (rep fo) (repL Mo) (repL Fe) → Q (nI an) 1 1 cmc (nI an) (nI cc) (nI od0) (rep cm) O GT LT (rep ch) (rep GG) (rep LL) (rep NG) (rep NL) (rep od) (rep ar) (rep un) (rep fg) (rep fo) (repL Mo) (repL Fe)) :
    wp_X3_hasAnswer x_agesStand x_searchStands p_blocks p_lines p_edges p_pairs g_sets g_size g_penalty g_comeCount s_answered s_codes s_ordered p_times p_touchCounts p_touchSlots p_lineOfSlot p_from p_to p_bounds p_pairA p_pairB p_leaving p_firstLeaving g_come g_outcomes g_greatestTimes g_leastTimes g_changed g_greatest g_least g_greatestNow g_leastNow s_order s_arriving s_unit s_flag s_forbidding s_most s_fewest Q := by
  have hpg2 := id hpg
  obtain ⟨⟨⟨bW, bB, bn4, bE⟩, btc, bfr, bfl, ball⟩, a2, a3, a4, a5, a6, a7, a8⟩ := hpg2
  unfold wp_X3_hasAnswer
  refine cl_settle hpg h (fun cm ch GG LL NG NL cmc O GT LT hcc hG hN hA hI => ?_)
  have hc : ∀ b, cm b ≤ 1 := fun b => (hcc b).1
  obtain ⟨h1, sa, ss, an, cc, od0, cm', ch', GG', LL', NG', NL', od, ar, un, fg, fo, Mo, Fe, ⟨k1, k2, k3, k4, k5⟩, ⟨g1, g2, g3, g4, g5, g6⟩, ⟨t1, t2, t3, t4, t5, t6, t7⟩, ⟨l1, l2, l3⟩, ⟨s1, s2, s3⟩, hss, hsa, hse⟩ := id hI
  obtain ⟨⟨c1, c2, c3, c4, c5, c6, c7⟩, e1, e2, e3, e4, e5, e6, e7, e8, e9, e10, e11⟩ := id h1
  have e4 := e4.symm
  have c5 := c5.symm
  subst k2 k3 k4 k5 t1 t2 t3 t4 t5 t6 t7 c1 c2 c3 c4 c5 c6 c7 e1 e2 e3 e4 e5 e6 e7 e8 e9 e10 e11
  have z0 : nI ss = 0 ↔ ss = 0 := by rw [← nI_0]; exact nI_eq (by omega) (by decide)
  have hcmI : cmc = nI (sumN cm B) := hA.2.2.2
  rw [z0]
  refine ⟨fun q => ⟨nar01 l3, ?_⟩, fun q => ?_⟩
  · have q : ss = 1 := by omega
    subst q
    have sm : ∀ b, b < B → cm b = cm' b ∧ hiT W n line sets pn tm tc ts cm GG LL b = hiT W n line sets pn tm tc ts cm' GG' LL' b ∧ loT W n line sets pn tm tc ts cm GG LL b = loT W n line sets pn tm tc ts cm' GG' LL' b := hi_same btc hc (fun b => (s1 b).1) hA.1 (hsa (hss rfl)).1
    have hs := hse rfl
    have hs2 : seC B E P bn pa pb cm fr to (hiT W n line sets pn tm tc ts cm GG LL) (loT W n line sets pn tm tc ts cm GG LL) un fg fo Mo Fe an cc := seC_cg bfr sm hs
    exact hq an cc od0 cm ch GG LL NG NL od ar un fg fo Mo Fe cmc O GT LT l3 hc hA hs2 hI
  · subst hcmI
    obtain ⟨hc0, hcl⟩ := agI_cl hA.1
    refine sp_solve a3 bfl ball a2 hc hc0 hcl hA.2.2.1 (fun b hb => hiT_le a5 (a6 b hb) (btc b hb).1) (fun an' cc' od0' un' fg' fo' od' ar' Mo' Fe' han hs => ⟨nar01 han, ?_⟩)
    refine hq an' cc' od0' cm ch GG LL NG NL od' ar' un' fg' fo' Mo' Fe' _ O GT LT han hc hA hs ⟨h1, 1, 1, an', cc', od0', cm, ch, GG, LL, NG, NL, od', ar', un', fg', fo', Mo', Fe', ⟨rfl, rfl, rfl, rfl, rfl⟩, ⟨rfl, rfl, rfl, rfl, rfl, rfl⟩, ⟨rfl, rfl, rfl, rfl, rfl, rfl, rfl⟩, ⟨by omega, by omega, han⟩, ⟨hcc, hG, hN⟩, fun _ => rfl, fun _ => hA, fun _ => hs⟩
theorem md_work {W B n E P pn : Nat} {tm tc ts fr to bn pa pb lv fl : Nat → Nat} {line : Nat → Int32} {sets : Int32} {m_thrown : Int32} {m_sets : Int32} {m_ways : Int32} {m_penalty : Int32} {m_blocks : Int32} {m_edges : Int32} {m_pairs : Int32} {m_lines : Int32} {m_isFresh : Int32} {m_isAnswer : Int32} {m_time : Nat → Int32} {m_touchMany : Nat → Int32} {m_touch : Nat → Int32} {m_line : Nat → Int32} {m_from : Nat → Int32} {m_to : Nat → Int32} {m_bound : Nat → Int32} {m_pairA : Nat → Int32} {m_pairB : Nat → Int32} {m_comeTo : Nat → Int32} {m_greatest : Nat → Int32} {m_least : Nat → Int32} {m_nowGreatest : Nat → Int32} {m_nowLeast : Nat → Int32} {m_does : Nat → Int32} {m_mostTime : Nat → Int64} {m_leastTime : Nat → Int64} {m_countUnit : Nat → Int32} {m_flagUnit : Nat → Int32} {m_worst : Nat → Int64} {m_best : Nat → Int64} {m_stack : Nat → Int32} {Q : Int32 → Int32 → (Nat → Int32) → (Nat → Int32) → (Nat → Int32) → (Nat → Int32) → (Nat → Int32) → (Nat → Int32) → (Nat → Int64) → (Nat → Int64) → (Nat → Int32) → (Nat → Int32) → (Nat → Int64) → (Nat → Int64) → (Nat → Int32) → Prop} (hpg : pgI W B n E P pn tm tc ts fr to bn pa pb lv fl) (h : mdI W B n E P pn tm tc ts fr to bn pa pb lv fl line sets m_thrown m_sets m_ways m_penalty m_blocks m_edges m_pairs m_lines m_isFresh m_isAnswer m_time m_touchMany m_touch m_line m_from m_to m_bound m_pairA m_pairB m_comeTo m_greatest m_least m_nowGreatest m_nowLeast m_does m_mostTime m_leastTime m_countUnit m_flagUnit m_worst m_best m_stack)
    (hq : ∀ (an : Nat) (cm GG LL NG NL cu fu Wo Be st : Nat → Nat) (DO : Nat → Int32) (MT LT : Nat → Int64), an ≤ 1 → (∀ b, cm b ≤ 1) → (∀ k, GG k ≤ W ∧ LL k ≤ W) → agMd W B n E pn tm tc ts fr to line sets cm GG LL DO MT LT → seR B E P bn pa pb cm fr to (hiT W n line sets pn tm tc ts cm GG LL) (loT W n line sets pn tm tc ts cm GG LL) cu fu Wo Be an →
      (∀ th, mdI W B n E P pn tm tc ts fr to bn pa pb lv fl line sets th m_sets m_ways m_penalty m_blocks m_edges m_pairs m_lines 1 (nI an) m_time m_touchMany m_touch m_line m_from m_to m_bound m_pairA m_pairB (rep cm) (repE W GG) (repE W LL) (repE W NG) (repE W NL) DO MT LT (rep cu) (rep fu) (repW Wo) (repL Be) (rep st)) → Q 1 (nI an) (rep cm) (repE W GG) (repE W LL) (repE W NG) (repE W NL) DO MT LT (rep cu) (rep fu) (repW Wo) (repL Be) (rep st)) :
    wp_X4_work m_sets m_ways m_penalty m_blocks m_edges m_pairs m_lines m_isFresh m_isAnswer m_time m_touchMany m_touch m_line m_from m_to m_bound m_pairA m_pairB m_comeTo m_greatest m_least m_nowGreatest m_nowLeast m_does m_mostTime m_leastTime m_countUnit m_flagUnit m_worst m_best m_stack Q := by
  have hpg2 := id hpg
  obtain ⟨⟨⟨bW, bB, bn4, bE⟩, btc, bfr, bfl, ball⟩, a2, a3, a4, a5, a6, a7, a8⟩ := hpg2
  obtain ⟨h1, fs, an, cm, GG, LL, NG, NL, cu, fu, Wo, Be, st, ⟨k1, k2⟩, ⟨g1, g2, g3, g4, g5⟩, ⟨t1, t2, t3, t4, t5⟩, ⟨l1, l2⟩, ⟨s1, s2, s3⟩, sw, hfs⟩ := id h
  obtain ⟨⟨c1, c2, c3, c4, c5, c6, c7⟩, e1, e2, e3, e4, e5, e6, e7, e8, e9⟩ := id h1
  have e4 := e4.symm
  have c5 := c5.symm
  subst k1 k2 g1 g2 g3 g4 g5 t1 t2 t3 t4 t5 c1 c2 c3 c4 c5 c6 c7 e1 e2 e3 e4 e5 e6 e7 e8 e9
  have z0 : nI fs = 0 ↔ fs = 0 := by rw [← nI_0]; exact nI_eq (by omega) (by decide)
  unfold wp_X4_work
  rw [z0]
  refine ⟨fun q => ?_, fun q => ?_⟩
  · refine @sp_findAges W B n E pn line sets (smD n line sets) tm tc ts fr to cm GG LL NG NL _ _ _ _ hpg.1.q a4 a5 a6 s1 s2 s3 (fun cm GG LL NG NL DO MT LT r1 r2 r3 r4 r5 => ?_)
    have hA : agMd W B n E pn tm tc ts fr to line sets cm GG LL DO MT LT := ⟨r1, r5⟩
    obtain ⟨hc0, hcl⟩ := agI_cl hA.1
    refine sp_findWays a3 r2 hc0 hcl (fun b hb => (hA.2 b hb).1) (fun b hb => hiT_le a5 (a6 b hb) (btc b hb).1) sw (fun an cu fu Wo Be st han hw hs => ?_)
    exact hq an cm GG LL NG NL cu fu Wo Be st DO MT LT han r2 r3 hA hs (fun th => ⟨h1, 1, an, cm, GG, LL, NG, NL, cu, fu, Wo, Be, st, ⟨rfl, rfl⟩, ⟨rfl, rfl, rfl, rfl, rfl⟩, ⟨rfl, rfl, rfl, rfl, rfl⟩, ⟨by omega, han⟩, ⟨r2, r3, r4⟩, hw, fun _ => ⟨hA, hs⟩⟩)
  · have q : fs = 1 := by omega
    subst q
    obtain ⟨hA, hs⟩ := hfs rfl
    exact hq an cm GG LL NG NL cu fu Wo Be st _ _ _ l2 s1 s2 hA hs (fun th => h)
