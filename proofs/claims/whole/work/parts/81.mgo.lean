theorem nI_6m (b : Nat) : (6 : Int32) * nI b = nI (b * 6) := by
  rw [show (6 : Int32) = nI 6 from rfl, pk_mul, Nat.mul_comm]
theorem nI_40m (b : Nat) : (40 : Int32) * nI b = nI (b * 40) := by
  rw [show (40 : Int32) = nI 40 from rfl, pk_mul, Nat.mul_comm]
theorem sp_mgo_touch {n b W : Nat} {GG LL : Nat → Int32} {g l tc ts : Nat → Nat} {line : Nat → Int32} {sets : Int32} {O : Nat → Int32} {Q : (Nat → Int32) → (Nat → Int32) → (Nat → Int32) → Prop} [∀ i j, Decidable (smS n line sets i j)] (hn : n ≤ 40) (hb : b < 40) (hW : W ≤ 4) (hW0 : 0 < W) (htc : tc b ≤ 6) (hts : ∀ i, i < tc b → ts (b * 6 + i) < n) (hg : ∀ k, g k ≤ W) (hl : ∀ k, l k ≤ W)
    (h : Q (repE W (ath_G (smS n line sets) (fun i => ts (b * 6 + i)) g (tc b))) (repE W (ath_L W (smS n line sets) (fun i => ts (b * 6 + i)) l (tc b))) (aout W (smS n line sets) b (fun i => ts (b * 6 + i)) g l O (tc b))) :
    ∀ d i, i + d = tc b → lp_X4_goThrough_55 (nI b) sets (nI W) (nI n) (rep tc) (rep ts) line GG LL Q (d + 1) (nI (b * 6 + i)) (repE W (ath_G (smS n line sets) (fun i => ts (b * 6 + i)) g i)) (repE W (ath_L W (smS n line sets) (fun i => ts (b * 6 + i)) l i)) (aout W (smS n line sets) b (fun i => ts (b * 6 + i)) g l O i) := by
  have cb : (nI b).toNatClampNeg = b := nI_clamp (by omega)
  have ib : vp_in (nI b) 40 := vp_in_nI (by omega) (by decide)
  intro d
  induction d with
  | zero =>
    intro i hi
    have hi : i = tc b := by omega
    subst hi
    unfold lp_X4_goThrough_55
    rw [cb, rep_at tc, nI_6m, nI_add]
    exact ⟨ib, fun _ => h, fun q => absurd (nI_le (Nat.le_refl _) (by omega)) q⟩
  | succ d ih =>
    intro i hi
    have hin : i < tc b := by omega
    have nx := ih (i + 1) (by omega)
    have hu := hts i hin
    have i6 : vp_in (nI (b * 6 + i)) 240 := vp_in_nI (by omega) (by decide)
    have c6 : (nI (b * 6 + i)).toNatClampNeg = b * 6 + i := nI_clamp (by omega)
    have cu : (nI (ts (b * 6 + i))).toNatClampNeg = ts (b * 6 + i) := nI_clamp (by omega)
    have iu : vp_in (nI (ts (b * 6 + i))) 40 := vp_in_nI (by omega) (by decide)
    have J : ∀ v : Int32, v = nI (aoc W (ath_G (smS n line sets) (fun i => ts (b * 6 + i)) g i) (ath_L W (smS n line sets) (fun i => ts (b * 6 + i)) l i) (ts (b * 6 + i))) → wp_X4_touchNow (nI (ts (b * 6 + i))) sets (nI W) (nI n) line (repE W (ath_G (smS n line sets) (fun i => ts (b * 6 + i)) g i)) (repE W (ath_L W (smS n line sets) (fun i => ts (b * 6 + i)) l i)) (fun m_nowGreatest_120 m_nowLeast_120 => (lp_X4_goThrough_55 (nI b) sets (nI W) (nI n) (rep tc) (rep ts) line GG LL Q (d + 1)) (nI (b * 6 + i) + 1) m_nowGreatest_120 m_nowLeast_120 (upd (aout W (smS n line sets) b (fun i => ts (b * 6 + i)) g l O i) (b * 6 + i) v)) := by
      intro v hv
      subst hv
      refine sp_touchNow hn hu hW hW0 (ath_G_le' hg i) (ath_L_le' hl i) ?_
      rw [aout_s (t := fun i => ts (b * 6 + i)), nI_1]
      exact nx
    have b1 := ath_G_le' (sm := smS n line sets) (t := fun i => ts (b * 6 + i)) hg i (ts (b * 6 + i))
    have b2 := ath_L_le' (W := W) (sm := smS n line sets) (t := fun i => ts (b * 6 + i)) hl i (ts (b * 6 + i))
    unfold lp_X4_goThrough_55
    rw [cb, rep_at tc, nI_6m, nI_add, c6, rep_at ts, cu, repE_at, repE_at]
    refine ⟨ib, fun q => absurd q (nI_ge (by omega) (by omega)), fun _ => ⟨i6, iu, fun c1 => ⟨i6, iu, fun c2 => ⟨i6, i6, J 0 ?_⟩, fun c2 => ⟨i6, i6, J 2 ?_⟩⟩, fun c1 => ⟨i6, i6, J 1 ?_⟩⟩⟩
    · have c1 := (enc_neg hW).mp c1
      have c2 := (enc_pos hW).mp c2
      unfold aoc
      rw [if_neg (by omega), if_pos c2]
      rfl
    · have c1 := (enc_neg hW).mp c1
      have c2 := fun z => c2 ((enc_pos hW).mpr z)
      unfold aoc
      rw [if_neg (by omega), if_neg c2]
      rfl
    · have c1 : ath_G (smS n line sets) (fun i => ts (b * 6 + i)) g i (ts (b * 6 + i)) < W := by
        rcases Nat.lt_or_ge (ath_G (smS n line sets) (fun i => ts (b * 6 + i)) g i (ts (b * 6 + i))) W with z | z
        · exact z
        · exact absurd ((enc_neg hW).mpr z) c1
      unfold aoc
      rw [if_pos c1]
      rfl
theorem sp_mgo {n b W : Nat} {GG LL NG NL tc ts : Nat → Nat} {line : Nat → Int32} {sets : Int32} {O : Nat → Int32} {Q : (Nat → Int32) → (Nat → Int32) → (Nat → Int32) → Prop} [∀ i j, Decidable (smS n line sets i j)] (hn : n ≤ 40) (hb : b < 40) (hW : W ≤ 4) (hW0 : 0 < W) (htc : tc b ≤ 6) (hts : ∀ i, i < tc b → ts (b * 6 + i) < n) (hGG : ∀ k, GG k ≤ W) (hLL : ∀ k, LL k ≤ W) (hNG : ∀ k, NG k ≤ W) (hNL : ∀ k, NL k ≤ W)
    (h : Q (repE W (ath_G (smS n line sets) (fun i => ts (b * 6 + i)) (fun k => if k < n then GG (b * 40 + k) else NG k) (tc b))) (repE W (ath_L W (smS n line sets) (fun i => ts (b * 6 + i)) (fun k => if k < n then LL (b * 40 + k) else NL k) (tc b))) (aout W (smS n line sets) b (fun i => ts (b * 6 + i)) (fun k => if k < n then GG (b * 40 + k) else NG k) (fun k => if k < n then LL (b * 40 + k) else NL k) O (tc b))) :
    wp_X4_goThrough (nI b) sets (nI W) (nI n) (rep tc) (rep ts) line (repE W GG) (repE W LL) (repE W NG) (repE W NL) O Q := by
  have hgk : ∀ k, (if k < n then GG (b * 40 + k) else NG k) ≤ W := fun k => by split; exact hGG _; exact hNG _
  have hlk : ∀ k, (if k < n then LL (b * 40 + k) else NL k) ≤ W := fun k => by split; exact hLL _; exact hNL _
  have LP : ∀ d i, i + d = n → lp_X4_goThrough_2 (nI b) sets (nI W) (nI n) (rep tc) (rep ts) line (repE W GG) (repE W LL) O Q (d + 1) (nI i) (repE W (fun k => if k < i then GG (b * 40 + k) else NG k)) (repE W (fun k => if k < i then LL (b * 40 + k) else NL k)) := by
    intro d
    induction d with
    | zero =>
      intro i hi
      have hi : i = n := by omega
      subst hi
      unfold lp_X4_goThrough_2
      refine ⟨fun _ => ⟨tc b + 1, ?_⟩, fun q => absurd (nI_le (Nat.le_refl _) (by omega)) q⟩
      have k := sp_mgo_touch (GG := repE W GG) (LL := repE W LL) hn hb hW hW0 htc hts hgk hlk h (tc b) 0 (by omega)
      rw [aout_0, Nat.add_zero] at k
      rw [nI_6m]
      exact k
    | succ d ih =>
      intro i hi
      have hin : i < n := by omega
      have nx := ih (i + 1) (by omega)
      rw [← nI_1] at nx
      have ci : (nI i).toNatClampNeg = i := nI_clamp (by omega)
      have ii : vp_in (nI i) 40 := vp_in_nI (by omega) (by decide)
      have ik : vp_in (nI (b * 40 + i)) 1600 := vp_in_nI (by omega) (by decide)
      have ck : (nI (b * 40 + i)).toNatClampNeg = b * 40 + i := nI_clamp (by omega)
      unfold lp_X4_goThrough_2
      rw [nI_40m, nI_add, ck, ci, repE_at W GG, repE_at W LL, repE_upd, repE_upd]
      refine ⟨fun q => absurd q (nI_ge hin (by omega)), fun _ => ⟨ik, ii, ik, ii, ?_⟩⟩
      have e1 : (repE W fun j => if j = i then GG (b * 40 + i) else if j < i then GG (b * 40 + j) else NG j) = repE W (fun k => if k < i + 1 then GG (b * 40 + k) else NG k) := repE_ext (fun k => by
        by_cases hk : k = i
        · subst hk
          simp
        · have : k < i ↔ k < i + 1 := by omega
          simp [hk, this])
      have e2 : (repE W fun j => if j = i then LL (b * 40 + i) else if j < i then LL (b * 40 + j) else NL j) = repE W (fun k => if k < i + 1 then LL (b * 40 + k) else NL k) := repE_ext (fun k => by
        by_cases hk : k = i
        · subst hk
          simp
        · have : k < i ↔ k < i + 1 := by omega
          simp [hk, this])
      rw [e1, e2]
      exact nx
  unfold wp_X4_goThrough
  refine ⟨n + 1, ?_⟩
  have k := LP n 0 (by omega)
  rw [nI_0] at k
  have e1 : (repE W fun k => if k < 0 then GG (b * 40 + k) else NG k) = repE W NG := repE_ext (fun k => by simp)
  have e2 : (repE W fun k => if k < 0 then LL (b * 40 + k) else NL k) = repE W NL := repE_ext (fun k => by simp)
  rw [e1, e2] at k
  exact k
