theorem sp_fa_edges {W B n E M0 : Nat} {line : Nat → Int32} {sets pen : Int32} [∀ i j, Decidable (smS n line sets i j)] {tc ts fr to : Nat → Nat} {time : Nat → Int32} {MT LT : Nat → Int64} {K70 : Int32 → (Nat → Int32) → (Nat → Int32) → (Nat → Int32) → (Nat → Int32) → (Nat → Int32) → (Nat → Int32) → Prop} {Q : (Nat → Int32) → (Nat → Int32) → (Nat → Int32) → (Nat → Int32) → (Nat → Int32) → (Nat → Int32) → (Nat → Int64) → (Nat → Int64) → Prop} (hp : agPq W B n E tc ts fr to) (hW0 : 0 < W)
    (hK : ∀ (more : Nat) (cm GG LL NG NL : Nat → Nat) (DO : Nat → Int32), agR W B n E line sets tc ts fr to cm GG LL E more → (∀ k, NG k ≤ W ∧ NL k ≤ W) → more ≤ 1 → M0 + more ≤ agM W B n cm GG LL → K70 (nI more) (rep cm) (repE W GG) (repE W LL) (repE W NG) (repE W NL) DO) :
    ∀ d e, e + d = E → ∀ (more : Nat) (cm GG LL NG NL : Nat → Nat) (DO : Nat → Int32), agR W B n E line sets tc ts fr to cm GG LL e more → (∀ k, NG k ≤ W ∧ NL k ≤ W) → more ≤ 1 → M0 + more ≤ agM W B n cm GG LL →
      lp_X4_findAges_78 sets (nI W) pen (nI B) (nI E) (nI n) time (rep tc) (rep ts) line (rep fr) (rep to) MT LT K70 Q (d + 1) (nI more) (nI e) (rep cm) (repE W GG) (repE W LL) (repE W NG) (repE W NL) DO := by
  obtain ⟨⟨hW, hB, hn, hE⟩, htc, hfr⟩ := id hp
  intro d
  induction d with
  | zero =>
    intro e he more cm GG LL NG NL DO hR hN hm hM
    have q : e = E := by omega
    subst q
    unfold lp_X4_findAges_78
    exact ⟨fun _ => hK more cm GG LL NG NL DO hR hN hm hM, fun q => absurd (nI_le (Nat.le_refl _) (by omega)) q⟩
  | succ d ih =>
    intro e he more cm GG LL NG NL DO hR hN hm hM
    have hlt : e < E := by omega
    obtain ⟨hf, ht⟩ := hfr e hlt
    have ce : (nI e).toNatClampNeg = e := nI_clamp (by omega)
    have ie : vp_in (nI e) 80 := vp_in_nI (by omega) (by decide)
    have cf : (nI (fr e)).toNatClampNeg = fr e := nI_clamp (by omega)
    have if_ : vp_in (nI (fr e)) 40 := vp_in_nI (by omega) (by decide)
    have hcf := hR.1 (fr e)
    have hct := hR.1 (to e)
    have c0 : nI (cm (fr e)) = 0 ↔ cm (fr e) = 0 := by rw [← nI_0]; exact nI_eq (by omega) (by decide)
    have m0 : nI more = 0 ↔ more = 0 := by rw [← nI_0]; exact nI_eq (by omega) (by decide)
    unfold lp_X4_findAges_78
    rw [ce, rep_at fr, cf, rep_at cm, rep_at to]
    refine ⟨fun q => absurd q (nI_ge hlt (by omega)), fun _ => ⟨ie, if_, fun q => ?_, fun q => ⟨ie, ?_⟩⟩⟩
    · have q := c0.mp q
      rw [nI_1]
      exact ih (e + 1) (by omega) more cm GG LL NG NL DO (agR_skip (by omega) hR) hN hm hM
    · have q : cm (fr e) = 1 := by
        have : ¬ cm (fr e) = 0 := fun z => q (c0.mpr z)
        omega
      refine sp_mgo hn (by omega) hW hW0 (htc _ hf).1 (htc _ hf).2 (fun k => (hR.2.1 k).1) (fun k => (hR.2.1 k).2) (fun k => (hN k).1) (fun k => (hN k).2) ⟨ie, ?_⟩
      have g0 : ∀ k, (if k < n then GG (fr e * 40 + k) else NG k) ≤ W := fun k => by split; exact (hR.2.1 _).1; exact (hN _).1
      have l0 : ∀ k, (if k < n then LL (fr e * 40 + k) else NL k) ≤ W := fun k => by split; exact (hR.2.1 _).2; exact (hN _).2
      have hN2 : ∀ k, ath_G (smS n line sets) (fun i => ts (fr e * 6 + i)) (fun k => if k < n then GG (fr e * 40 + k) else NG k) (tc (fr e)) k ≤ W ∧ ath_L W (smS n line sets) (fun i => ts (fr e * 6 + i)) (fun k => if k < n then LL (fr e * 40 + k) else NL k) (tc (fr e)) k ≤ W := fun k => ⟨ath_G_le' g0 _ k, ath_L_le' l0 _ k⟩
      have eG : ∀ k, k < n → ath_G (smS n line sets) (fun i => ts (fr e * 6 + i)) (fun k => if k < n then GG (fr e * 40 + k) else NG k) (tc (fr e)) k = ath_G (smS n line sets) (fun i => ts (fr e * 6 + i)) (fun k => GG (fr e * 40 + k)) (tc (fr e)) k := fun k hk => ath_G_cg (fun k hk => by simp [hk]) _ (htc _ hf).2 k hk
      have eL : ∀ k, k < n → ath_L W (smS n line sets) (fun i => ts (fr e * 6 + i)) (fun k => if k < n then LL (fr e * 40 + k) else NL k) (tc (fr e)) k = ath_L W (smS n line sets) (fun i => ts (fr e * 6 + i)) (fun k => LL (fr e * 40 + k)) (tc (fr e)) k := fun k hk => ath_L_cg (fun k hk => by simp [hk]) _ (htc _ hf).2 k hk
      have st := agR_edge hp hlt q hN2 eG eL hR
      have hMj := agM_join (W := W) (B := B) (GG := GG) (LL := LL) (NG := ath_G (smS n line sets) (fun i => ts (fr e * 6 + i)) (fun k => if k < n then GG (fr e * 40 + k) else NG k) (tc (fr e))) (NL := ath_L W (smS n line sets) (fun i => ts (fr e * 6 + i)) (fun k => if k < n then LL (fr e * 40 + k) else NL k) (tc (fr e))) ht hn hct (fun k => (hR.2.1 k).2) (fun k => (hN2 k).2)
      have hA : jnA (1 - cm (to e)) (to e) GG LL (ath_G (smS n line sets) (fun i => ts (fr e * 6 + i)) (fun k => if k < n then GG (fr e * 40 + k) else NG k) (tc (fr e))) (ath_L W (smS n line sets) (fun i => ts (fr e * 6 + i)) (fun k => if k < n then LL (fr e * 40 + k) else NL k) (tc (fr e))) n ≤ 1 := jnA_le (by omega) n
      refine sp_meet (W := W) hn (by omega) hct hW (fun k => (hR.2.1 k).1) (fun k => (hR.2.1 k).2) (fun k => (hN2 k).1) (fun k => (hN2 k).2) ?_
      generalize hr : jnA (1 - cm (to e)) (to e) GG LL (ath_G (smS n line sets) (fun i => ts (fr e * 6 + i)) (fun k => if k < n then GG (fr e * 40 + k) else NG k) (tc (fr e))) (ath_L W (smS n line sets) (fun i => ts (fr e * 6 + i)) (fun k => if k < n then LL (fr e * 40 + k) else NL k) (tc (fr e))) n = r at st hMj hA ⊢
      have r0 : nI r = 0 ↔ r = 0 := by rw [← nI_0]; exact nI_eq (by omega) (by decide)
      refine ⟨fun z => ?_, fun z => ⟨fun z2 => ?_, fun z2 => ?_⟩⟩
      · have z : ¬ r = 0 := fun w => z (r0.mpr w)
        rw [if_neg z] at st
        rw [nI_1]
        exact ih (e + 1) (by omega) 1 _ _ _ _ _ _ st hN2 (Nat.le_refl 1) (by omega)
      · have z := r0.mp z
        have z2 := m0.mp z2
        rw [if_pos z, z2] at st
        rw [nI_1]
        have k := ih (e + 1) (by omega) 0 _ _ _ _ _ (aout W (smS n line sets) (fr e) (fun i => ts (fr e * 6 + i)) (fun k => if k < n then GG (fr e * 40 + k) else NG k) (fun k => if k < n then LL (fr e * 40 + k) else NL k) DO (tc (fr e))) st hN2 (by omega) (by omega)
        exact k
      · have z := r0.mp z
        have z2 : more = 1 := by
          have : ¬ more = 0 := fun w => z2 (m0.mpr w)
          omega
        rw [if_pos z, z2] at st
        rw [nI_1]
        exact ih (e + 1) (by omega) 1 _ _ _ _ _ _ st hN2 (Nat.le_refl 1) (by omega)
theorem sp_fa_passes {W B n E : Nat} {line : Nat → Int32} {sets pen : Int32} [∀ i j, Decidable (smS n line sets i j)] {tc ts fr to : Nat → Nat} {time : Nat → Int32} {MT LT : Nat → Int64} {Q : (Nat → Int32) → (Nat → Int32) → (Nat → Int32) → (Nat → Int32) → (Nat → Int32) → (Nat → Int32) → (Nat → Int64) → (Nat → Int64) → Prop} (hp : agPq W B n E tc ts fr to) (hW0 : 0 < W)
    (hF : ∀ (cm GG LL NG NL : Nat → Nat) (DO : Nat → Int32), agR W B n E line sets tc ts fr to cm GG LL E 0 → (∀ k, NG k ≤ W ∧ NL k ≤ W) → ∃ k144, lp_X4_findAges_144 sets (nI W) pen (nI B) (nI E) (nI n) time (rep tc) (rep ts) line (rep fr) (rep to) (rep cm) (repE W GG) (repE W LL) Q k144 0 (repE W NG) (repE W NL) DO MT LT) :
    ∀ d p, p + d = 12842 → ∀ (more : Nat) (cm GG LL NG NL : Nat → Nat) (DO : Nat → Int32), agR W B n E line sets tc ts fr to cm GG LL E more → (∀ k, NG k ≤ W ∧ NL k ≤ W) → more ≤ 1 → (more = 1 → p ≤ agM W B n cm GG LL) →
      lp_X4_findAges_70 sets (nI W) pen (nI B) (nI E) (nI n) time (rep tc) (rep ts) line (rep fr) (rep to) MT LT Q (d + 1) (nI more) (rep cm) (repE W GG) (repE W LL) (repE W NG) (repE W NL) DO := by
  obtain ⟨⟨hW, hB, hn, hE⟩, htc, hfr⟩ := id hp
  intro d
  induction d with
  | zero =>
    intro p hp1 more cm GG LL NG NL DO hR hN hm hM
    have mm := agM_le (cm := cm) (LL := LL) hW hB hn (fun k => (hR.2.1 k).1)
    have r0 : more = 0 := by
      rcases (show more = 0 ∨ more = 1 by omega) with z | z
      · exact z
      · have := hM z
        omega
    subst r0
    unfold lp_X4_findAges_70
    exact ⟨fun _ => hF cm GG LL NG NL DO hR hN, fun q => absurd nI_0 q⟩
  | succ d ih =>
    intro p hp1 more cm GG LL NG NL DO hR hN hm hM
    have m0 : nI more = 0 ↔ more = 0 := by rw [← nI_0]; exact nI_eq (by omega) (by decide)
    unfold lp_X4_findAges_70
    refine ⟨fun q => ?_, fun q => ⟨E + 1, ?_⟩⟩
    · have q := m0.mp q
      rw [q] at hR
      exact hF cm GG LL NG NL DO hR hN
    · have q : more = 1 := by
        have : ¬ more = 0 := fun w => q (m0.mpr w)
        omega
      have hMp := hM q
      have k := sp_fa_edges (M0 := agM W B n cm GG LL) (pen := pen) (time := time) (MT := MT) (LT := LT) (Q := Q) hp hW0 (K70 := lp_X4_findAges_70 sets (nI W) pen (nI B) (nI E) (nI n) time (rep tc) (rep ts) line (rep fr) (rep to) MT LT Q (d + 1)) (fun more2 cm2 GG2 LL2 NG2 NL2 DO2 hR2 hN2 hm2 hM2 => ih (p + 1) (by omega) more2 cm2 GG2 LL2 NG2 NL2 DO2 hR2 hN2 hm2 (fun z => by omega)) E 0 (by omega) 0 cm GG LL NG NL DO (agR_again hR) hN (by omega) (by omega)
      rw [nI_0] at k
      exact k
