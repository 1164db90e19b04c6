def rep (g : Nat → Nat) : Nat → Int32 := fun j => nI (g j)
theorem rep_at (g : Nat → Nat) (j : Nat) : rep g j = nI (g j) := rfl
theorem rep_upd (g : Nat → Nat) (i v : Nat) : upd (rep g) i (nI v) = rep (fun j => if j = i then v else g j) := by
  funext j
  unfold upd rep
  by_cases h : j = i <;> simp [h]
theorem rep_ext {g g' : Nat → Nat} (h : ∀ k, g k = g' k) : rep g = rep g' := by
  funext j
  unfold rep
  rw [h j]
def smS (n : Nat) (line : Nat → Int32) (sets : Int32) (k u : Nat) : Prop := k < n ∧ ((line k ^^^ line u) &&& (sets - 1)) = 0
theorem sp_use_loop {n u W : Nat} {g l : Nat → Nat} {line : Nat → Int32} {sets : Int32} {Q : (Nat → Int32) → (Nat → Int32) → Prop} [∀ i j, Decidable (smS n line sets i j)] (hn : n ≤ 40) (hu : u < n) (hW : W ≤ 4) (hg : ∀ k, g k ≤ W) (hl : ∀ k, l k ≤ W)
    (h : Q (rep (au_G (smS n line sets) u g)) (rep (au_L W (smS n line sets) u l))) :
    ∀ d i, i + d = n → lp_X0_use_18 (nI u) (nI (g u)) (nI (l u)) (nI n) sets (nI W) line Q (d + 1) (nI i) (rep (fun k => if k < i ∧ k ≠ u then au_G (smS n line sets) u g k else g k)) (rep (fun k => if k < i ∧ k ≠ u then au_L W (smS n line sets) u l k else l k)) := by
  have cu : (nI u).toNatClampNeg = u := nI_clamp (by omega)
  have iu : vp_in (nI u) 40 := vp_in_nI (by omega) (by decide)
  intro d
  induction d with
  | zero =>
    intro i hi
    have hi : i = n := by omega
    subst hi
    unfold lp_X0_use_18
    refine ⟨fun _ => ⟨iu, iu, ?_⟩, fun q => absurd (nI_le (Nat.le_refl _) (by omega)) q⟩
    rw [cu, ← nI_0, rep_upd, rep_upd]
    have e1 : (rep fun j => if j = u then 0 else if j < i ∧ j ≠ u then au_G (smS i line sets) u g j else g j) = rep (au_G (smS i line sets) u g) := by
      refine rep_ext (fun k => ?_)
      by_cases hk : k = u
      · simp [hk, au_G]
      · by_cases hk2 : k < i
        · simp [hk, hk2]
        · simp [hk, hk2, au_G, smS]
    have e2 : (rep fun j => if j = u then 0 else if j < i ∧ j ≠ u then au_L W (smS i line sets) u l j else l j) = rep (au_L W (smS i line sets) u l) := by
      refine rep_ext (fun k => ?_)
      by_cases hk : k = u
      · simp [hk, au_L]
      · by_cases hk2 : k < i
        · simp [hk, hk2]
        · simp [hk, hk2, au_L, smS]
    rw [e1, e2]
    exact h
  | succ d ih =>
    intro i hi
    have hin : i < n := by omega
    have ci : (nI i).toNatClampNeg = i := nI_clamp (by omega)
    have ii : vp_in (nI i) 40 := vp_in_nI (by omega) (by decide)
    have nx := ih (i + 1) (by omega)
    rw [← nI_1] at nx
    unfold lp_X0_use_18
    refine ⟨fun q => absurd q (nI_ge hin (by omega)), fun _ => ⟨fun e => ?_, fun e => ?_⟩⟩
    · have e : i = u := (nI_eq (by omega) (by omega)).mp e
      have e1 : (rep fun k => if k < i ∧ k ≠ u then au_G (smS n line sets) u g k else g k) = rep (fun k => if k < i + 1 ∧ k ≠ u then au_G (smS n line sets) u g k else g k) := rep_ext (fun k => by
        by_cases hk : k = u
        · simp [hk]
        · have : k < i ↔ k < i + 1 := by omega
          simp [hk, this])
      have e2 : (rep fun k => if k < i ∧ k ≠ u then au_L W (smS n line sets) u l k else l k) = rep (fun k => if k < i + 1 ∧ k ≠ u then au_L W (smS n line sets) u l k else l k) := rep_ext (fun k => by
        by_cases hk : k = u
        · simp [hk]
        · have : k < i ↔ k < i + 1 := by omega
          simp [hk, this])
      rw [e1, e2]
      exact nx
    · have e : ¬ i = u := fun q => e (by rw [q])
      have gi : (rep fun k => if k < i ∧ k ≠ u then au_G (smS n line sets) u g k else g k) i = nI (g i) := by simp [rep]
      have li : (rep fun k => if k < i ∧ k ≠ u then au_L W (smS n line sets) u l k else l k) i = nI (l i) := by simp [rep]
      have stepG : ∀ v, v = au_G (smS n line sets) u g i → (rep fun j => if j = i then v else if j < i ∧ j ≠ u then au_G (smS n line sets) u g j else g j) = rep (fun k => if k < i + 1 ∧ k ≠ u then au_G (smS n line sets) u g k else g k) := fun v hv => rep_ext (fun k => by
        by_cases hk : k = i
        · subst hk
          simp [hv, e]
        · have : k < i ↔ k < i + 1 := by omega
          simp [hk, this])
      have stepL : ∀ v, v = au_L W (smS n line sets) u l i → (rep fun j => if j = i then v else if j < i ∧ j ≠ u then au_L W (smS n line sets) u l j else l j) = rep (fun k => if k < i + 1 ∧ k ≠ u then au_L W (smS n line sets) u l k else l k) := fun v hv => rep_ext (fun k => by
        by_cases hk : k = i
        · subst hk
          simp [hv, e]
        · have : k < i ↔ k < i + 1 := by omega
          simp [hk, this])
      have stayG : g i = au_G (smS n line sets) u g i → (rep fun k => if k < i ∧ k ≠ u then au_G (smS n line sets) u g k else g k) = rep (fun k => if k < i + 1 ∧ k ≠ u then au_G (smS n line sets) u g k else g k) := fun hv => by
        rw [← stepG _ hv]
        refine rep_ext (fun k => ?_)
        by_cases hk : k = i
        · subst hk
          simp
        · simp [hk]
      have stayL : l i = au_L W (smS n line sets) u l i → (rep fun k => if k < i ∧ k ≠ u then au_L W (smS n line sets) u l k else l k) = rep (fun k => if k < i + 1 ∧ k ≠ u then au_L W (smS n line sets) u l k else l k) := fun hv => by
        rw [← stepL _ hv]
        refine rep_ext (fun k => ?_)
        by_cases hk : k = i
        · subst hk
          simp
        · simp [hk]
      have b1 := hg i
      have b2 := hg u
      have b3 := hl i
      have b4 := hl u
      refine ⟨ii, iu, ?_⟩
      rw [ci, cu]
      unfold wp_X0_sameSet
      refine ⟨fun q => ⟨fun _ => ?_, fun q0 => absurd rfl q0⟩, fun q => ⟨fun q0 => absurd q0 (by decide), fun _ => ⟨ii, ?_⟩⟩⟩
      · have ns : ¬ smS n line sets i u := fun z => q z.2
        rw [stayG (by simp [au_G, e, ns]), stayL (by simp [au_L, e, ns])]
        exact nx
      · have sm : smS n line sets i u := ⟨hin, q⟩
        have half : ∀ G : Nat → Int32, G = rep (fun k => if k < i + 1 ∧ k ≠ u then au_G (smS n line sets) u g k else g k) → jn_X0_use_75 (nI u) (nI (g u)) (nI (l u)) (nI i) (nI n) sets (nI W) line G (rep (fun k => if k < i ∧ k ≠ u then au_L W (smS n line sets) u l k else l k)) (lp_X0_use_18 (nI u) (nI (g u)) (nI (l u)) (nI n) sets (nI W) line Q (d + 1)) Q := by
          intro G hG
          unfold jn_X0_use_75
          rw [ci, li, hG]
          refine ⟨ii, fun c1 => ?_, fun c1 => ⟨ii, fun c2 => ?_, fun c2 => ⟨ii, ii, ?_⟩⟩⟩
          · have c1 := (nI_ltI (by omega) (by omega)).mp c1
            rw [stayL (by simp [au_L, e, sm]; omega)]
            exact nx
          · have c2 := (nI_leI (by omega) (by omega)).mp c2
            rw [stayL (by simp [au_L, e, sm]; omega)]
            exact nx
          · have c1 : l i ≤ l u := by
              rcases Nat.lt_or_ge (l u) (l i) with z | z
              · exact absurd ((nI_ltI (by omega) (by omega)).mpr z) c1
              · exact z
            have c2 : l i < W := by
              rcases Nat.lt_or_ge (l i) W with z | z
              · exact z
              · exact absurd ((nI_leI (by omega) (by omega)).mpr z) c2
            rw [nI_1 (l i), rep_upd, stepL _ (by simp [au_L, e, sm, c1, c2])]
            exact nx
        rw [gi]
        refine ⟨fun c1 => ?_, fun c1 => ⟨ii, ii, ?_⟩⟩
        · have c1 := (nI_leI (by omega) (by omega)).mp c1
          exact half _ (stayG (by simp [au_G, e, sm]; omega))
        · have c1 : g i < g u := by
            rcases Nat.lt_or_ge (g i) (g u) with z | z
            · exact z
            · exact absurd ((nI_leI (by omega) (by omega)).mpr z) c1
          rw [nI_1 (g i), rep_upd]
          exact half _ (stepG _ (by simp [au_G, e, sm, c1]))
theorem sp_use {n u W : Nat} {g l : Nat → Nat} {line : Nat → Int32} {sets : Int32} {Q : (Nat → Int32) → (Nat → Int32) → Prop} [∀ i j, Decidable (smS n line sets i j)] (hn : n ≤ 40) (hu : u < n) (hW : W ≤ 4) (hg : ∀ k, g k ≤ W) (hl : ∀ k, l k ≤ W)
    (h : Q (rep (au_G (smS n line sets) u g)) (rep (au_L W (smS n line sets) u l))) : wp_X0_use (nI u) (nI n) sets (nI W) line (rep g) (rep l) Q := by
  have cu : (nI u).toNatClampNeg = u := nI_clamp (by omega)
  have iu : vp_in (nI u) 40 := vp_in_nI (by omega) (by decide)
  unfold wp_X0_use
  refine ⟨iu, iu, n + 1, ?_⟩
  have k := sp_use_loop hn hu hW hg hl h n 0 (by omega)
  rw [nI_0] at k
  rw [cu, rep_at, rep_at]
  have e1 : (rep fun k => if k < 0 ∧ k ≠ u then au_G (smS n line sets) u g k else g k) = rep g := rep_ext (fun k => by simp)
  have e2 : (rep fun k => if k < 0 ∧ k ≠ u then au_L W (smS n line sets) u l k else l k) = rep l := rep_ext (fun k => by simp)
  rw [e1, e2] at k
  exact k
