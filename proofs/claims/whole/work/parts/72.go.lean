theorem nI_m40 (b : Nat) : nI b * 40 = nI (b * 40) := pk_mul b 40
theorem nI_m6 (b : Nat) : nI b * 6 = nI (b * 6) := pk_mul b 6
def aoc (W : Nat) (g l : Nat → Nat) (u : Nat) : Nat := if g u < W then 1 else if l u < W then 0 else 2
theorem sp_outcomeNow {u W : Nat} {g l : Nat → Nat} {Q : Int32 → Prop} (hu : u < 40) (hW : W ≤ 4) (hg : ∀ k, g k ≤ W) (hl : ∀ k, l k ≤ W) (h : Q (nI (aoc W g l u))) : wp_X0_outcomeNow (nI u) (nI W) (rep g) (rep l) Q := by
  have cu : (nI u).toNatClampNeg = u := nI_clamp (by omega)
  have iu : vp_in (nI u) 40 := vp_in_nI (by omega) (by decide)
  have b1 := hg u
  have b2 := hl u
  unfold wp_X0_outcomeNow
  rw [cu, rep_at, rep_at]
  refine ⟨iu, fun c1 => ⟨iu, fun c2 => ?_, fun c2 => ?_⟩, fun c1 => ?_⟩
  · have c1 := (nI_leI (by omega) (by omega)).mp c1
    have c2 := (nI_leI (by omega) (by omega)).mp c2
    have e : aoc W g l u = 2 := by unfold aoc; rw [if_neg (by omega), if_neg (by omega)]
    rw [e] at h
    exact h
  · have c1 := (nI_leI (by omega) (by omega)).mp c1
    have c2 : l u < W := by
      rcases Nat.lt_or_ge (l u) W with z | z
      · exact z
      · exact absurd ((nI_leI (by omega) (by omega)).mpr z) c2
    have e : aoc W g l u = 0 := by unfold aoc; rw [if_neg (by omega), if_pos c2]
    rw [e] at h
    exact h
  · have c1 : g u < W := by
      rcases Nat.lt_or_ge (g u) W with z | z
      · exact z
      · exact absurd ((nI_leI (by omega) (by omega)).mpr z) c1
    have e : aoc W g l u = 1 := by unfold aoc; rw [if_pos c1]
    rw [e] at h
    exact h
theorem ath_G_le' {W : Nat} {sm : Nat → Nat → Prop} [∀ i j, Decidable (sm i j)] {t g : Nat → Nat} (h : ∀ k, g k ≤ W) : ∀ i k, ath_G sm t g i k ≤ W := by
  intro i
  induction i with
  | zero => exact h
  | succ i ih =>
    intro k
    have h1 := ih k
    have h2 := ih (t i)
    show au_G sm (t i) (ath_G sm t g i) k ≤ W
    unfold au_G
    by_cases e : k = t i
    · simp [e]
    · simp only [e, if_false]
      split <;> omega
theorem ath_L_le' {W : Nat} {sm : Nat → Nat → Prop} [∀ i j, Decidable (sm i j)] {t l : Nat → Nat} (h : ∀ k, l k ≤ W) : ∀ i k, ath_L W sm t l i k ≤ W := by
  intro i
  induction i with
  | zero => exact h
  | succ i ih =>
    intro k
    have h1 := ih k
    show au_L W sm (t i) (ath_L W sm t l i) k ≤ W
    unfold au_L
    by_cases e : k = t i
    · simp [e]
    · simp only [e, if_false]
      split <;> omega
def aout (W : Nat) (sm : Nat → Nat → Prop) [∀ i j, Decidable (sm i j)] (b : Nat) (t : Nat → Nat) (g l : Nat → Nat) (O : Nat → Int32) (i : Nat) : Nat → Int32 := fun j => if b * 6 ≤ j ∧ j < b * 6 + i then nI (aoc W (ath_G sm t g (j - b * 6)) (ath_L W sm t l (j - b * 6)) (t (j - b * 6))) else O j
theorem aout_s {W : Nat} {sm : Nat → Nat → Prop} [∀ i j, Decidable (sm i j)] {b : Nat} {t : Nat → Nat} {g l : Nat → Nat} {O : Nat → Int32} (i : Nat) : upd (aout W sm b t g l O i) (b * 6 + i) (nI (aoc W (ath_G sm t g i) (ath_L W sm t l i) (t i))) = aout W sm b t g l O (i + 1) := by
  funext j
  unfold upd aout
  by_cases h : j = b * 6 + i
  · subst h
    have e : b * 6 + i - b * 6 = i := by omega
    simp [e]
  · by_cases h2 : b * 6 ≤ j ∧ j < b * 6 + i
    · have h3 : b * 6 ≤ j ∧ j < b * 6 + (i + 1) := by omega
      rw [if_neg h, if_pos h2, if_pos h3]
    · have h3 : ¬ (b * 6 ≤ j ∧ j < b * 6 + (i + 1)) := by omega
      rw [if_neg h, if_neg h2, if_neg h3]
theorem aout_0 {W : Nat} {sm : Nat → Nat → Prop} [∀ i j, Decidable (sm i j)] {b : Nat} {t : Nat → Nat} {g l : Nat → Nat} {O : Nat → Int32} : aout W sm b t g l O 0 = O := by
  funext j
  unfold aout
  rw [if_neg (by omega)]
theorem sp_goThrough_touch {n b W : Nat} {GG LL : Nat → Int32} {g l tc ts : Nat → Nat} {line : Nat → Int32} {sets : Int32} {O : Nat → Int32} {Q : (Nat → Int32) → (Nat → Int32) → (Nat → Int32) → Prop} [∀ i j, Decidable (smS n line sets i j)] (hn : n ≤ 40) (hb : b < 40) (hW : W ≤ 4) (htc : tc b ≤ 6) (hts : ∀ i, i < tc b → ts (b * 6 + i) < n) (hg : ∀ k, g k ≤ W) (hl : ∀ k, l k ≤ W)
    (h : Q (aout W (smS n line sets) b (fun i => ts (b * 6 + i)) g l O (tc b)) (rep (ath_G (smS n line sets) (fun i => ts (b * 6 + i)) g (tc b))) (rep (ath_L W (smS n line sets) (fun i => ts (b * 6 + i)) l (tc b)))) :
    ∀ d i, i + d = tc b → lp_X0_goThrough_58 (nI b) (nI n) sets (nI W) (rep tc) (rep ts) line GG LL Q (d + 1) (nI i) (aout W (smS n line sets) b (fun i => ts (b * 6 + i)) g l O i) (rep (ath_G (smS n line sets) (fun i => ts (b * 6 + i)) g i)) (rep (ath_L W (smS n line sets) (fun i => ts (b * 6 + i)) l i)) := by
  have cb : (nI b).toNatClampNeg = b := nI_clamp (by omega)
  have ib : vp_in (nI b) 40 := vp_in_nI (by omega) (by decide)
  intro d
  induction d with
  | zero =>
    intro i hi
    have hi : i = tc b := by omega
    subst hi
    unfold lp_X0_goThrough_58
    rw [cb, rep_at]
    exact ⟨ib, fun _ => h, fun q => absurd (nI_le (Nat.le_refl _) (by omega)) q⟩
  | succ d ih =>
    intro i hi
    have hin : i < tc b := by omega
    have nx := ih (i + 1) (by omega)
    rw [← nI_1] at nx
    have hu := hts i hin
    have i6 : vp_in (nI (b * 6 + i)) 240 := vp_in_nI (by omega) (by decide)
    have c6 : (nI (b * 6 + i)).toNatClampNeg = b * 6 + i := nI_clamp (by omega)
    unfold lp_X0_goThrough_58
    rw [cb, rep_at, nI_m6, nI_add, c6, rep_at]
    refine ⟨ib, fun q => absurd q (nI_ge hin (by omega)), fun _ => ⟨i6, ?_⟩⟩
    refine sp_outcomeNow (by omega) hW (ath_G_le' hg i) (ath_L_le' hl i) ⟨i6, ?_⟩
    refine sp_use hn hu hW (ath_G_le' hg i) (ath_L_le' hl i) ?_
    rw [aout_s (t := fun i => ts (b * 6 + i))]
    exact nx
theorem sp_goThrough {n b W : Nat} {GG LL NG NL tc ts : Nat → Nat} {line : Nat → Int32} {sets : Int32} {O : Nat → Int32} {Q : (Nat → Int32) → (Nat → Int32) → (Nat → Int32) → Prop} [∀ i j, Decidable (smS n line sets i j)] (hn : n ≤ 40) (hb : b < 40) (hW : W ≤ 4) (htc : tc b ≤ 6) (hts : ∀ i, i < tc b → ts (b * 6 + i) < n) (hGG : ∀ k, GG k ≤ W) (hLL : ∀ k, LL k ≤ W) (hNG : ∀ k, NG k ≤ W) (hNL : ∀ k, NL k ≤ W)
    (h : Q (aout W (smS n line sets) b (fun i => ts (b * 6 + i)) (fun k => if k < n then GG (b * 40 + k) else NG k) (fun k => if k < n then LL (b * 40 + k) else NL k) O (tc b)) (rep (ath_G (smS n line sets) (fun i => ts (b * 6 + i)) (fun k => if k < n then GG (b * 40 + k) else NG k) (tc b))) (rep (ath_L W (smS n line sets) (fun i => ts (b * 6 + i)) (fun k => if k < n then LL (b * 40 + k) else NL k) (tc b)))) :
    wp_X0_goThrough (nI b) (nI n) sets (nI W) (rep tc) (rep ts) line O (rep GG) (rep LL) (rep NG) (rep NL) Q := by
  have hgk : ∀ k, (if k < n then GG (b * 40 + k) else NG k) ≤ W := fun k => by split; exact hGG _; exact hNG _
  have hlk : ∀ k, (if k < n then LL (b * 40 + k) else NL k) ≤ W := fun k => by split; exact hLL _; exact hNL _
  have LP : ∀ d i, i + d = n → lp_X0_goThrough_8 (nI b) (nI (b * 40)) (nI n) sets (nI W) (rep tc) (rep ts) line O (rep GG) (rep LL) Q (d + 1) (nI i) (rep (fun k => if k < i then GG (b * 40 + k) else NG k)) (rep (fun k => if k < i then LL (b * 40 + k) else NL k)) := by
    intro d
    induction d with
    | zero =>
      intro i hi
      have hi : i = n := by omega
      subst hi
      unfold lp_X0_goThrough_8
      refine ⟨fun _ => ⟨tc b + 1, ?_⟩, fun q => absurd (nI_le (Nat.le_refl _) (by omega)) q⟩
      have k := sp_goThrough_touch (GG := rep GG) (LL := rep LL) hn hb hW htc hts hgk hlk h (tc b) 0 (by omega)
      rw [nI_0, aout_0] at k
      exact k
    | succ d ih =>
      intro i hi
      have hin : i < n := by omega
      have nx := ih (i + 1) (by omega)
      rw [← nI_1] at nx
      have ci : (nI i).toNatClampNeg = i := nI_clamp (by omega)
      have ii : vp_in (nI i) 40 := vp_in_nI (by omega) (by decide)
      have ik : vp_in (nI (b * 40 + i)) 1600 := vp_in_nI (by omega) (by decide)
      have ck : (nI (b * 40 + i)).toNatClampNeg = b * 40 + i := nI_clamp (by omega)
      unfold lp_X0_goThrough_8
      rw [nI_add, ck, ci, rep_at GG, rep_at LL, rep_upd, rep_upd]
      refine ⟨fun q => absurd q (nI_ge hin (by omega)), fun _ => ⟨ik, ii, ik, ii, ?_⟩⟩
      have e1 : (rep fun j => if j = i then GG (b * 40 + i) else if j < i then GG (b * 40 + j) else NG j) = rep (fun k => if k < i + 1 then GG (b * 40 + k) else NG k) := rep_ext (fun k => by
        by_cases hk : k = i
        · subst hk
          simp
        · have : k < i ↔ k < i + 1 := by omega
          simp [hk, this])
      have e2 : (rep fun j => if j = i then LL (b * 40 + i) else if j < i then LL (b * 40 + j) else NL j) = rep (fun k => if k < i + 1 then LL (b * 40 + k) else NL k) := rep_ext (fun k => by
        by_cases hk : k = i
        · subst hk
          simp
        · have : k < i ↔ k < i + 1 := by omega
          simp [hk, this])
      rw [e1, e2]
      exact nx
  unfold wp_X0_goThrough
  refine ⟨n + 1, ?_⟩
  have k := LP n 0 (by omega)
  rw [nI_0] at k
  have e1 : (rep fun k => if k < 0 then GG (b * 40 + k) else NG k) = rep NG := rep_ext (fun k => by simp)
  have e2 : (rep fun k => if k < 0 then LL (b * 40 + k) else NL k) = rep NL := rep_ext (fun k => by simp)
  rw [e1, e2] at k
  rw [nI_m40]
  exact k
