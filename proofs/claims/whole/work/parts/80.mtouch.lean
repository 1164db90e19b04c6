def enc (W v : Nat) : Int32 := if v < W then nI v else -1
def repE (W : Nat) (g : Nat → Nat) : Nat → Int32 := fun j => enc W (g j)
theorem repE_at (W : Nat) (g : Nat → Nat) (j : Nat) : repE W g j = enc W (g j) := rfl
theorem repE_upd (W : Nat) (g : Nat → Nat) (i v : Nat) : upd (repE W g) i (enc W v) = repE W (fun j => if j = i then v else g j) := by
  funext j
  unfold upd repE
  by_cases h : j = i <;> simp [h]
theorem repE_ext {W : Nat} {g g' : Nat → Nat} (h : ∀ k, g k = g' k) : repE W g = repE W g' := by
  funext j
  unfold repE
  rw [h j]
theorem enc_in {W v : Nat} (h : v < W) : enc W v = nI v := by unfold enc; rw [if_pos h]
theorem enc_out {W v : Nat} (h : W ≤ v) : enc W v = -1 := by unfold enc; rw [if_neg (by omega)]
theorem enc_neg {W v : Nat} (hW : W ≤ 4) : enc W v < 0 ↔ W ≤ v := by
  rcases Nat.lt_or_ge v W with h | h
  · rw [enc_in h]
    exact ⟨fun q => absurd q (nI_pos (by omega)), fun q => by omega⟩
  · rw [enc_out h]
    exact ⟨fun _ => h, fun _ => by decide⟩
theorem enc_pos {W v : Nat} (hW : W ≤ 4) : 0 ≤ enc W v ↔ v < W := by
  rcases Nat.lt_or_ge v W with h | h
  · rw [enc_in h]
    exact ⟨fun _ => h, fun _ => nI_pos' (by omega)⟩
  · rw [enc_out h]
    exact ⟨fun q => absurd q (by decide), fun q => by omega⟩
theorem sp_touchNow_loop {n u W : Nat} {g l : Nat → Nat} {line : Nat → Int32} {sets : Int32} {Q : (Nat → Int32) → (Nat → Int32) → Prop} [∀ i j, Decidable (smS n line sets i j)] (hn : n ≤ 40) (hu : u < n) (hW : W ≤ 4) (hW0 : 0 < W) (hg : ∀ k, g k ≤ W) (hl : ∀ k, l k ≤ W)
    (h : Q (repE W (au_G (smS n line sets) u g)) (repE W (au_L W (smS n line sets) u l))) :
    ∀ d i, i + d = n → lp_X4_touchNow_49 (nI u) (nI (g u)) (nI (l u)) sets (nI W) (nI n) line Q (d + 1) (nI i) (repE W (fun k => if k < i ∧ k ≠ u then au_G (smS n line sets) u g k else g k)) (repE W (fun k => if k < i ∧ k ≠ u then au_L W (smS n line sets) u l k else l k)) := by
  have cu : (nI u).toNatClampNeg = u := nI_clamp (by omega)
  have iu : vp_in (nI u) 40 := vp_in_nI (by omega) (by decide)
  intro d
  induction d with
  | zero =>
    intro i hi
    have hi : i = n := by omega
    subst hi
    unfold lp_X4_touchNow_49
    refine ⟨fun _ => ⟨iu, iu, ?_⟩, fun q => absurd (nI_le (Nat.le_refl _) (by omega)) q⟩
    have z0 : (0 : Int32) = enc W 0 := by rw [enc_in hW0]; rfl
    rw [cu, z0, repE_upd, repE_upd]
    have e1 : (repE W fun j => if j = u then 0 else if j < i ∧ j ≠ u then au_G (smS i line sets) u g j else g j) = repE W (au_G (smS i line sets) u g) := by
      refine repE_ext (fun k => ?_)
      by_cases hk : k = u
      · simp [hk, au_G]
      · by_cases hk2 : k < i
        · simp [hk, hk2]
        · simp [hk, hk2, au_G, smS]
    have e2 : (repE W fun j => if j = u then 0 else if j < i ∧ j ≠ u then au_L W (smS i line sets) u l j else l j) = repE W (au_L W (smS i line sets) u l) := by
      refine repE_ext (fun k => ?_)
      by_cases hk : k = u
      · simp [hk, au_L]
      · by_cases hk2 : k < i
        · simp [hk, hk2]
        · simp [hk, hk2, au_L, smS]
    rw [e1, e2]
    exact h
  | succ d ih =>
    intro i hi
    have hin : i < n := by omega
    have ci : (nI i).toNatClampNeg = i := nI_clamp (by omega)
    have ii : vp_in (nI i) 40 := vp_in_nI (by omega) (by decide)
    have nx := ih (i + 1) (by omega)
    rw [← nI_1] at nx
    unfold lp_X4_touchNow_49
    refine ⟨fun q => absurd q (nI_ge hin (by omega)), fun _ => ⟨fun e => ?_, fun e => ?_⟩⟩
    · have e : i = u := (nI_eq (by omega) (by omega)).mp e
      have e1 : (repE W fun k => if k < i ∧ k ≠ u then au_G (smS n line sets) u g k else g k) = repE W (fun k => if k < i + 1 ∧ k ≠ u then au_G (smS n line sets) u g k else g k) := repE_ext (fun k => by
        by_cases hk : k = u
        · simp [hk]
        · have : k < i ↔ k < i + 1 := by omega
          simp [hk, this])
      have e2 : (repE W fun k => if k < i ∧ k ≠ u then au_L W (smS n line sets) u l k else l k) = repE W (fun k => if k < i + 1 ∧ k ≠ u then au_L W (smS n line sets) u l k else l k) := repE_ext (fun k => by
        by_cases hk : k = u
        · simp [hk]
        · have : k < i ↔ k < i + 1 := by omega
          simp [hk, this])
      rw [e1, e2]
      exact nx
    · have e : ¬ i = u := fun q => e (by rw [q])
      have gi : (repE W fun k => if k < i ∧ k ≠ u then au_G (smS n line sets) u g k else g k) i = enc W (g i) := by simp [repE]
      have li : (repE W fun k => if k < i ∧ k ≠ u then au_L W (smS n line sets) u l k else l k) i = enc W (l i) := by simp [repE]
      have stepG : ∀ v, v = au_G (smS n line sets) u g i → (repE W fun j => if j = i then v else if j < i ∧ j ≠ u then au_G (smS n line sets) u g j else g j) = repE W (fun k => if k < i + 1 ∧ k ≠ u then au_G (smS n line sets) u g k else g k) := fun v hv => repE_ext (fun k => by
        by_cases hk : k = i
        · subst hk
          simp [hv, e]
        · have : k < i ↔ k < i + 1 := by omega
          simp [hk, this])
      have stepL : ∀ v, v = au_L W (smS n line sets) u l i → (repE W fun j => if j = i then v else if j < i ∧ j ≠ u then au_L W (smS n line sets) u l j else l j) = repE W (fun k => if k < i + 1 ∧ k ≠ u then au_L W (smS n line sets) u l k else l k) := fun v hv => repE_ext (fun k => by
        by_cases hk : k = i
        · subst hk
          simp [hv, e]
        · have : k < i ↔ k < i + 1 := by omega
          simp [hk, this])
      have stayG : g i = au_G (smS n line sets) u g i → (repE W fun k => if k < i ∧ k ≠ u then au_G (smS n line sets) u g k else g k) = repE W (fun k => if k < i + 1 ∧ k ≠ u then au_G (smS n line sets) u g k else g k) := fun hv => by
        rw [← stepG _ hv]
        refine repE_ext (fun k => ?_)
        by_cases hk : k = i
        · subst hk
          simp
        · simp [hk]
      have stayL : l i = au_L W (smS n line sets) u l i → (repE W fun k => if k < i ∧ k ≠ u then au_L W (smS n line sets) u l k else l k) = repE W (fun k => if k < i + 1 ∧ k ≠ u then au_L W (smS n line sets) u l k else l k) := fun hv => by
        rw [← stepL _ hv]
        refine repE_ext (fun k => ?_)
        by_cases hk : k = i
        · subst hk
          simp
        · simp [hk]
      have b1 := hg i
      have b2 := hg u
      have b3 := hl i
      have b4 := hl u
      unfold wp_X4_isOfSet
      rw [ci, cu]
      refine ⟨ii, iu, fun q => ⟨fun _ => ?_, fun q0 => absurd rfl q0⟩, fun q => ⟨fun q0 => absurd q0 (by decide), fun _ => ⟨ii, ?_⟩⟩⟩
      · have ns : ¬ smS n line sets i u := fun z => q z.2
        rw [stayG (by simp [au_G, e, ns]), stayL (by simp [au_L, e, ns])]
        exact nx
      · have sm : smS n line sets i u := ⟨hin, q⟩
        have half : ∀ G : Nat → Int32, G = repE W (fun k => if k < i + 1 ∧ k ≠ u then au_G (smS n line sets) u g k else g k) → jn_X4_touchNow_131 (nI u) (nI (g u)) (nI (l u)) (nI i) sets (nI W) (nI n) line G (repE W (fun k => if k < i ∧ k ≠ u then au_L W (smS n line sets) u l k else l k)) (lp_X4_touchNow_49 (nI u) (nI (g u)) (nI (l u)) sets (nI W) (nI n) line Q (d + 1)) Q := by
          intro G hG
          unfold jn_X4_touchNow_131
          rw [ci, li, hG]
          refine ⟨ii, fun c1 => ?_, fun c1 => ⟨ii, ?_⟩⟩
          · have c1 := (enc_neg hW).mp c1
            rw [stayL (by simp [au_L, e, sm]; omega)]
            exact nx
          · have c1 : l i < W := by
              rcases Nat.lt_or_ge (l i) W with z | z
              · exact z
              · exact absurd ((enc_neg hW).mpr z) c1
            rw [enc_in c1]
            refine ⟨fun c2 => ?_, fun c2 => ⟨ii, ?_⟩⟩
            · have c2 := (nI_ltI (by omega) (by omega)).mp c2
              rw [stayL (by simp [au_L, e, sm]; omega)]
              exact nx
            · have c2 : l i ≤ l u := by
                rcases Nat.lt_or_ge (l u) (l i) with z | z
                · exact absurd ((nI_ltI (by omega) (by omega)).mpr z) c2
                · exact z
              rw [nI_1 (l i)]
              refine ⟨fun c3 => ⟨ii, ?_⟩, fun c3 => ⟨ii, ii, ?_⟩⟩
              · have c3 := (nI_leI (by omega) (by omega)).mp c3
                rw [← enc_out c3, repE_upd, stepL _ (by simp [au_L, e, sm, c1, c2])]
                exact nx
              · have c3 : l i + 1 < W := by
                  rcases Nat.lt_or_ge (l i + 1) W with z | z
                  · exact z
                  · exact absurd ((nI_leI (by omega) (by omega)).mpr z) c3
                rw [← enc_in c3, repE_upd, stepL _ (by simp [au_L, e, sm, c1, c2])]
                exact nx
        rw [gi]
        refine ⟨fun c1 => ?_, fun c1 => ⟨ii, ?_⟩⟩
        · have c1 := (enc_neg hW).mp c1
          exact half _ (stayG (by simp [au_G, e, sm]; omega))
        · have c1 : g i < W := by
            rcases Nat.lt_or_ge (g i) W with z | z
            · exact z
            · exact absurd ((enc_neg hW).mpr z) c1
          rw [enc_in c1]
          refine ⟨fun c2 => ?_, fun c2 => ⟨ii, ?_⟩⟩
          · have c2 := (nI_leI (by omega) (by omega)).mp c2
            exact half _ (stayG (by simp [au_G, e, sm]; omega))
          · have c2 : g i < g u := by
              rcases Nat.lt_or_ge (g i) (g u) with z | z
              · exact z
              · exact absurd ((nI_leI (by omega) (by omega)).mpr z) c2
            rw [nI_1 (g i)]
            refine ⟨fun c3 => ⟨ii, ?_⟩, fun c3 => ⟨ii, ii, ?_⟩⟩
            · have c3 := (nI_leI (by omega) (by omega)).mp c3
              rw [← enc_out c3, repE_upd]
              exact half _ (stepG _ (by simp [au_G, e, sm, c2]))
            · have c3 : g i + 1 < W := by
                rcases Nat.lt_or_ge (g i + 1) W with z | z
                · exact z
                · exact absurd ((nI_leI (by omega) (by omega)).mpr z) c3
              rw [← enc_in c3, repE_upd]
              exact half _ (stepG _ (by simp [au_G, e, sm, c2]))
theorem sp_touchNow {n u W : Nat} {g l : Nat → Nat} {line : Nat → Int32} {sets : Int32} {Q : (Nat → Int32) → (Nat → Int32) → Prop} [∀ i j, Decidable (smS n line sets i j)] (hn : n ≤ 40) (hu : u < n) (hW : W ≤ 4) (hW0 : 0 < W) (hg : ∀ k, g k ≤ W) (hl : ∀ k, l k ≤ W)
    (h : Q (repE W (au_G (smS n line sets) u g)) (repE W (au_L W (smS n line sets) u l))) : wp_X4_touchNow (nI u) sets (nI W) (nI n) line (repE W g) (repE W l) Q := by
  have cu : (nI u).toNatClampNeg = u := nI_clamp (by omega)
  have iu : vp_in (nI u) 40 := vp_in_nI (by omega) (by decide)
  have b2 := hg u
  have b4 := hl u
  have k := sp_touchNow_loop hn hu hW hW0 hg hl h n 0 (by omega)
  rw [nI_0] at k
  have e1 : (repE W fun k => if k < 0 ∧ k ≠ u then au_G (smS n line sets) u g k else g k) = repE W g := repE_ext (fun k => by simp)
  have e2 : (repE W fun k => if k < 0 ∧ k ≠ u then au_L W (smS n line sets) u l k else l k) = repE W l := repE_ext (fun k => by simp)
  rw [e1, e2] at k
  have J : jn_X4_touchNow_22 (nI u) sets (nI W) (nI n) line (repE W g) (repE W l) (nI (g u)) Q := by
    unfold jn_X4_touchNow_22
    rw [cu, repE_at]
    refine ⟨iu, fun q => ⟨iu, n + 1, ?_⟩, fun q => ⟨n + 1, ?_⟩⟩
    · rw [enc_in ((enc_pos hW).mp q)]
      exact k
    · have q : ¬ l u < W := fun z => q ((enc_pos hW).mpr z)
      have e : l u = W := by omega
      rw [e] at k
      exact k
  unfold wp_X4_touchNow
  rw [cu, repE_at]
  refine ⟨iu, fun q => ⟨iu, ?_⟩, fun q => ?_⟩
  · rw [enc_in ((enc_pos hW).mp q)]
    exact J
  · have q : ¬ g u < W := fun z => q ((enc_pos hW).mpr z)
    have e : g u = W := by omega
    rw [e] at J
    exact J
