def agR (W B n E : Nat) (line : Nat → Int32) (sets : Int32) [∀ i j, Decidable (smS n line sets i j)] (tc ts fr to cm GG LL : Nat → Nat) (e more : Nat) : Prop :=
  (∀ b, cm b ≤ 1) ∧ (∀ k, GG k ≤ W ∧ LL k ≤ W) ∧ (0 < B → cm 0 = 1 ∧ ∀ k, k < n → W ≤ GG (0 * 40 + k)) ∧
  (∀ Y, agCl W B n E (smS n line sets) tc (fun b i => ts (b * 6 + i)) fr to Y → agLe B n (agX cm GG LL) Y) ∧
  (more = 0 → ∀ x, x < e → cm (fr x) = 1 → agJ n cm GG LL (ath_G (smS n line sets) (fun i => ts (fr x * 6 + i)) (fun k => GG (fr x * 40 + k)) (tc (fr x))) (ath_L W (smS n line sets) (fun i => ts (fr x * 6 + i)) (fun k => LL (fr x * 40 + k)) (tc (fr x))) (to x))
def agPq (W B n E : Nat) (tc ts fr to : Nat → Nat) : Prop := (W ≤ 4 ∧ B ≤ 40 ∧ n ≤ 40 ∧ E ≤ 80) ∧ (∀ b, b < B → tc b ≤ 6 ∧ ∀ i, i < tc b → ts (b * 6 + i) < n) ∧ (∀ e, e < E → fr e < B ∧ to e < B)
theorem agPr.q {W B n E : Nat} {tc ts fr to lv fl : Nat → Nat} (h : agPr W B n E tc ts fr to lv fl) : agPq W B n E tc ts fr to := ⟨h.1, h.2.1, h.2.2.1⟩
theorem agR_skip {W B n E : Nat} {line : Nat → Int32} {sets : Int32} [∀ i j, Decidable (smS n line sets i j)] {tc ts fr to cm GG LL : Nat → Nat} {e more : Nat} (hc : ¬ cm (fr e) = 1) (h : agR W B n E line sets tc ts fr to cm GG LL e more) : agR W B n E line sets tc ts fr to cm GG LL (e + 1) more := by
  obtain ⟨a1, a2, a3, a4, a5⟩ := h
  refine ⟨a1, a2, a3, a4, fun hm x hx hcx => ?_⟩
  rcases Nat.lt_or_ge x e with z | z
  · exact a5 hm x z hcx
  · have q : x = e := by omega
    rw [q] at hcx
    exact absurd hcx hc
theorem agR_edge {W B n E : Nat} {line : Nat → Int32} {sets : Int32} [∀ i j, Decidable (smS n line sets i j)] {tc ts fr to cm GG LL NG NL : Nat → Nat} {e more : Nat} (hp : agPq W B n E tc ts fr to) (he : e < E) (hc : cm (fr e) = 1) (hN : ∀ k, NG k ≤ W ∧ NL k ≤ W)
    (hNG : ∀ k, k < n → NG k = ath_G (smS n line sets) (fun i => ts (fr e * 6 + i)) (fun k => GG (fr e * 40 + k)) (tc (fr e)) k) (hNL : ∀ k, k < n → NL k = ath_L W (smS n line sets) (fun i => ts (fr e * 6 + i)) (fun k => LL (fr e * 40 + k)) (tc (fr e)) k) (h : agR W B n E line sets tc ts fr to cm GG LL e more) :
    agR W B n E line sets tc ts fr to (fun j => if j = to e then 1 else cm j) (jnG (1 - cm (to e)) (to e) GG NG n) (jnL (1 - cm (to e)) (to e) LL NL n) (e + 1) (if jnA (1 - cm (to e)) (to e) GG LL NG NL n = 0 then more else 1) := by
  obtain ⟨⟨hW, hB, hn, hE⟩, htc, hfr⟩ := hp
  obtain ⟨a1, a2, a3, a4, a5⟩ := h
  obtain ⟨hf, hnx⟩ := hfr e he
  have hcm := a1 (to e)
  refine ⟨fun b => ?_, fun k => ⟨jnG_le (fun k => (a2 k).1) (fun k => (hN k).1) k, jnL_le (fun k => (a2 k).2) (fun k => (hN k).2) k⟩, fun h0 => ?_, fun Y hY b hb hcb => ?_, fun hm x hx hcx => ?_⟩
  · have := a1 b
    show (if b = to e then 1 else cm b) ≤ 1
    split <;> omega
  · obtain ⟨z1, z2⟩ := a3 h0
    refine ⟨by show (if 0 = to e then 1 else cm 0) = 1; split <;> omega, fun k hk => ?_⟩
    have g0 := z2 k hk
    have gN := (hN k).1
    by_cases q : 0 = to e
    · rw [← q]
      have f0 : 1 - cm 0 = 0 := by omega
      rw [f0, jnG_in hk]
      split <;> omega
    · rw [jnG_out hn (by omega) q]
      exact g0
  · obtain ⟨y1, y2⟩ := ag_join (X := agX cm GG LL) hY (a4 Y hY) (fun b hb i hi => (htc b hb).2 i hi) (fun b hb _ k hk => a2 (b * 40 + k)) he hf hc
    by_cases q : b = to e
    · subst q
      refine ⟨y1, fun k hk => ?_⟩
      have y3 := y2 k hk
      have y3 : NG k ≤ Y.2.1 (to e) k ∧ Y.2.2 (to e) k ≤ NL k := by
        rw [hNG k hk, hNL k hk]
        exact y3
      show jnG (1 - cm (to e)) (to e) GG NG n (to e * 40 + k) ≤ _ ∧ _ ≤ jnL (1 - cm (to e)) (to e) LL NL n (to e * 40 + k)
      rw [jnG_in hk, jnL_in hk]
      rcases (show cm (to e) = 0 ∨ cm (to e) = 1 by omega) with z | z
      · have f1 : 1 - cm (to e) = 1 := by omega
        rw [f1, if_pos (Or.inl rfl), if_pos (Or.inl rfl)]
        exact y3
      · have old : GG (to e * 40 + k) ≤ Y.2.1 (to e) k ∧ Y.2.2 (to e) k ≤ LL (to e * 40 + k) := (a4 Y hY (to e) hb z).2 k hk
        constructor <;> (split <;> omega)
    · have hcb : cm b = 1 := by
        have : (if b = to e then 1 else cm b) = 1 := hcb
        rw [if_neg q] at this
        exact this
      obtain ⟨o1, o2⟩ := a4 Y hY b hb hcb
      refine ⟨o1, fun k hk => ?_⟩
      show jnG (1 - cm (to e)) (to e) GG NG n (b * 40 + k) ≤ _ ∧ _ ≤ jnL (1 - cm (to e)) (to e) LL NL n (b * 40 + k)
      rw [jnG_out hn (by omega) q, jnL_out hn (by omega) q]
      exact o2 k hk
  · -- nothing has changed in this pass
    have hA : jnA (1 - cm (to e)) (to e) GG LL NG NL n = 0 := by
      by_cases z : jnA (1 - cm (to e)) (to e) GG LL NG NL n = 0
      · exact z
      · rw [if_neg z] at hm
        omega
    rw [if_pos hA] at hm
    obtain ⟨h1, h2⟩ := jnA_0 n hA
    have c1 : cm (to e) = 1 := by omega
    have e1 : (fun j => if j = to e then 1 else cm j) = cm := by
      funext j
      by_cases q : j = to e
      · rw [if_pos q, q, c1]
      · rw [if_neg q]
    have e2 : jnG (1 - cm (to e)) (to e) GG NG n = GG := by rw [h1]; exact jnG_same (fun k hk => (h2 k hk).1)
    have e3 : jnL (1 - cm (to e)) (to e) LL NL n = LL := by rw [h1]; exact jnL_same (fun k hk => (h2 k hk).2)
    rw [e1] at hcx
    rw [e1, e2, e3]
    rcases Nat.lt_or_ge x e with z | z
    · exact a5 hm x z hcx
    · have q : x = e := by omega
      rw [q]
      refine ⟨c1, fun k hk => ?_⟩
      rw [← hNG k hk, ← hNL k hk]
      exact h2 k hk
theorem agR_is {W B n E : Nat} {line : Nat → Int32} {sets : Int32} [∀ i j, Decidable (smS n line sets i j)] {tc ts fr to cm GG LL : Nat → Nat} (h : agR W B n E line sets tc ts fr to cm GG LL E 0) : agIs W B n E (smS n line sets) tc (fun b i => ts (b * 6 + i)) fr to (agX cm GG LL) := by
  obtain ⟨a1, a2, a3, a4, a5⟩ := h
  refine ⟨⟨a3, fun b _ _ k _ => a2 (b * 40 + k), fun e he hc => ?_⟩, a4⟩
  have d := a5 rfl e he hc
  exact ⟨d.1, fun k hk => d.2 k hk⟩
theorem agR_again {W B n E : Nat} {line : Nat → Int32} {sets : Int32} [∀ i j, Decidable (smS n line sets i j)] {tc ts fr to cm GG LL : Nat → Nat} {e more : Nat} (h : agR W B n E line sets tc ts fr to cm GG LL e more) : agR W B n E line sets tc ts fr to cm GG LL 0 0 := by
  obtain ⟨a1, a2, a3, a4, a5⟩ := h
  exact ⟨a1, a2, a3, a4, fun _ x hx => absurd hx (Nat.not_lt_zero x)⟩
