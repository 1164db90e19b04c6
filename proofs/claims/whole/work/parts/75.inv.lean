def agX (cm GG LL : Nat → Nat) : agS := (fun b => cm b = 1, fun b k => GG (b * 40 + k), fun b k => LL (b * 40 + k))
def agPr (W B n E : Nat) (tc ts fr to lv fl : Nat → Nat) : Prop := (W ≤ 4 ∧ B ≤ 40 ∧ n ≤ 40 ∧ E ≤ 80) ∧ (∀ b, b < B → tc b ≤ 6 ∧ ∀ i, i < tc b → ts (b * 6 + i) < n) ∧ (∀ e, e < E → fr e < B ∧ to e < B) ∧
  (∀ b, b < B → fl b ≤ fl (b + 1) ∧ fl (b + 1) ≤ E ∧ ∀ i, fl b ≤ i → i < fl (b + 1) → lv i < E ∧ fr (lv i) = b) ∧ ∀ e, e < E → ∃ i, fl (fr e) ≤ i ∧ i < fl (fr e + 1) ∧ lv i = e
def agO (W n : Nat) (line : Nat → Int32) (sets : Int32) [∀ i j, Decidable (smS n line sets i j)] (tc ts GG LL : Nat → Nat) (O : Nat → Int32) (b : Nat) : Prop := ∀ i, i < tc b → O (b * 6 + i) = nI (aoc W (ath_G (smS n line sets) (fun i => ts (b * 6 + i)) (fun k => GG (b * 40 + k)) i) (ath_L W (smS n line sets) (fun i => ts (b * 6 + i)) (fun k => LL (b * 40 + k)) i) (ts (b * 6 + i)))
def agJ (n : Nat) (cm GG LL NG NL : Nat → Nat) (x : Nat) : Prop := cm x = 1 ∧ ∀ k, k < n → NG k ≤ GG (x * 40 + k) ∧ LL (x * 40 + k) ≤ NL k
def agDn (W n E : Nat) (line : Nat → Int32) (sets : Int32) [∀ i j, Decidable (smS n line sets i j)] (tc ts fr to cm GG LL : Nat → Nat) (O : Nat → Int32) (b : Nat) : Prop := agO W n line sets tc ts GG LL O b ∧ ∀ e, e < E → fr e = b → agJ n cm GG LL (ath_G (smS n line sets) (fun i => ts (b * 6 + i)) (fun k => GG (b * 40 + k)) (tc b)) (ath_L W (smS n line sets) (fun i => ts (b * 6 + i)) (fun k => LL (b * 40 + k)) (tc b)) (to e)
def agV (W B n E : Nat) (line : Nat → Int32) (sets : Int32) [∀ i j, Decidable (smS n line sets i j)] (tc ts fr to cm ch GG LL : Nat → Nat) (O : Nat → Int32) (s : Nat) : Prop :=
  (∀ b, cm b ≤ 1 ∧ ch b ≤ 1) ∧ (∀ k, GG k ≤ W ∧ LL k ≤ W) ∧ (0 < B → cm 0 = 1 ∧ ∀ k, k < n → W ≤ GG (0 * 40 + k)) ∧
  (∀ Y, agCl W B n E (smS n line sets) tc (fun b i => ts (b * 6 + i)) fr to Y → agLe B n (agX cm GG LL) Y) ∧
  (∀ b, b < B → b ≠ s → cm b = 1 → ch b = 0 → agDn W n E line sets tc ts fr to cm GG LL O b) ∧ (∀ b, b < B → ch b = 1 → cm b = 1)
def agS9 (W B n E : Nat) (line : Nat → Int32) (sets : Int32) [∀ i j, Decidable (smS n line sets i j)] (tc ts fr to lv fl cm ch GG LL NG NL : Nat → Nat) (O : Nat → Int32) (s i : Nat) : Prop :=
  cm s = 1 ∧ (∀ k, NG k ≤ W ∧ NL k ≤ W) ∧ (∀ Y, agCl W B n E (smS n line sets) tc (fun b i => ts (b * 6 + i)) fr to Y → ∀ e, e < E → fr e = s → Y.1 (to e) ∧ ∀ k, k < n → NG k ≤ Y.2.1 (to e) k ∧ Y.2.2 (to e) k ≤ NL k) ∧
  (ch s = 1 ∨ (agO W n line sets tc ts GG LL O s ∧ (∀ k, k < n → NG k = ath_G (smS n line sets) (fun i => ts (s * 6 + i)) (fun k => GG (s * 40 + k)) (tc s) k ∧ NL k = ath_L W (smS n line sets) (fun i => ts (s * 6 + i)) (fun k => LL (s * 40 + k)) (tc s) k) ∧ ∀ j, fl s ≤ j → j < i → agJ n cm GG LL NG NL (to (lv j))))
theorem agJ_keep {n nx x : Nat} {cm GG LL NG NL MG ML : Nat → Nat} (hn : n ≤ 40) (h : agJ n cm GG LL MG ML x) : agJ n (fun j => if j = nx then 1 else cm j) (jnG (1 - cm nx) nx GG NG n) (jnL (1 - cm nx) nx LL NL n) MG ML x := by
  obtain ⟨h1, h2⟩ := h
  by_cases e : x = nx
  · subst e
    have f0 : 1 - cm x = 0 := by omega
    refine ⟨by simp, fun k hk => ?_⟩
    have := h2 k hk
    rw [f0, jnG_in hk, jnL_in hk]
    constructor <;> (split <;> omega)
  · refine ⟨by simp [e, h1], fun k hk => ?_⟩
    rw [jnG_out hn (by omega) e, jnL_out hn (by omega) e]
    exact h2 k hk
theorem agJ_new {n nx : Nat} {cm GG LL NG NL : Nat → Nat} (hcm : cm nx ≤ 1) : agJ n (fun j => if j = nx then 1 else cm j) (jnG (1 - cm nx) nx GG NG n) (jnL (1 - cm nx) nx LL NL n) NG NL nx := by
  refine ⟨by simp, fun k hk => ?_⟩
  rw [jnG_in hk, jnL_in hk]
  constructor <;> (split <;> omega)
theorem agO_keep {W n nx b : Nat} {line : Nat → Int32} {sets : Int32} [∀ i j, Decidable (smS n line sets i j)] {tc ts cm GG LL NG NL : Nat → Nat} {O : Nat → Int32} (hn : n ≤ 40) (ht : ∀ i, i < tc b → ts (b * 6 + i) < n) (hb : b ≠ nx) (h : agO W n line sets tc ts GG LL O b) : agO W n line sets tc ts (jnG (1 - cm nx) nx GG NG n) (jnL (1 - cm nx) nx LL NL n) O b := by
  intro i hi
  rw [h i hi]
  have e1 := ath_G_cg (line := line) (sets := sets) (t := fun i => ts (b * 6 + i)) (g := fun k => GG (b * 40 + k)) (g' := fun k => jnG (1 - cm nx) nx GG NG n (b * 40 + k)) (fun k hk => (jnG_out hn (by omega) hb).symm) i (fun j hj => ht j (by omega)) (ts (b * 6 + i)) (ht i hi)
  have e2 := ath_L_cg (W := W) (line := line) (sets := sets) (t := fun i => ts (b * 6 + i)) (g := fun k => LL (b * 40 + k)) (g' := fun k => jnL (1 - cm nx) nx LL NL n (b * 40 + k)) (fun k hk => (jnL_out hn (by omega) hb).symm) i (fun j hj => ht j (by omega)) (ts (b * 6 + i)) (ht i hi)
  unfold aoc
  rw [e1, e2]
theorem agJ_cg {n x : Nat} {cm GG LL NG NL MG ML : Nat → Nat} (h : agJ n cm GG LL NG NL x) (e : ∀ k, k < n → MG k = NG k ∧ ML k = NL k) : agJ n cm GG LL MG ML x :=
  ⟨h.1, fun k hk => by rw [(e k hk).1, (e k hk).2]; exact h.2 k hk⟩
theorem ag_one {W B n E : Nat} {line : Nat → Int32} {sets : Int32} [∀ i j, Decidable (smS n line sets i j)] {tc ts fr to lv fl cm ch GG LL NG NL : Nat → Nat} {O : Nat → Int32} {s i : Nat} (hp : agPr W B n E tc ts fr to lv fl) (hs : s < B) (hi : fl s ≤ i) (hi2 : i < fl (s + 1))
    (hV : agV W B n E line sets tc ts fr to cm ch GG LL O s) (hS : agS9 W B n E line sets tc ts fr to lv fl cm ch GG LL NG NL O s i) :
    agV W B n E line sets tc ts fr to (fun j => if j = to (lv i) then 1 else cm j) (fun j => if j = to (lv i) then 1 else ch j) (jnG (1 - cm (to (lv i))) (to (lv i)) GG NG n) (jnL (1 - cm (to (lv i))) (to (lv i)) LL NL n) O s ∧
    agS9 W B n E line sets tc ts fr to lv fl (fun j => if j = to (lv i) then 1 else cm j) (fun j => if j = to (lv i) then 1 else ch j) (jnG (1 - cm (to (lv i))) (to (lv i)) GG NG n) (jnL (1 - cm (to (lv i))) (to (lv i)) LL NL n) NG NL O s (i + 1) := by
  obtain ⟨⟨hW, hB, hn, hE⟩, htc, hfr, hfl, hall⟩ := hp
  obtain ⟨a1, a2, a3, a4, a5, a6⟩ := hV
  obtain ⟨c1, c2, c3, c4⟩ := hS
  obtain ⟨hlv, hfs⟩ := (hfl s hs).2.2 i hi hi2
  have hnx := (hfr (lv i) hlv).2
  generalize hnxe : to (lv i) = nx at hnx ⊢
  have hcm := (a1 nx).1
  refine ⟨⟨fun b => ?_, fun k => ⟨jnG_le (fun k => (a2 k).1) (fun k => (c2 k).1) k, jnL_le (fun k => (a2 k).2) (fun k => (c2 k).2) k⟩, fun h0 => ?_, fun Y hY b hb hc => ?_, fun b hb hbs hc hz => ?_, fun b hb hz => ?_⟩, ?_, c2, c3, ?_⟩
  · have := a1 b
    constructor <;> (show (if b = nx then 1 else _) ≤ 1; split <;> omega)
  · obtain ⟨z1, z2⟩ := a3 h0
    refine ⟨by show (if 0 = nx then 1 else cm 0) = 1; split <;> omega, fun k hk => ?_⟩
    have g0 := z2 k hk
    by_cases e : 0 = nx
    · subst e
      have f0 : 1 - cm 0 = 0 := by omega
      rw [f0, jnG_in hk]
      split <;> omega
    · rw [jnG_out hn (by omega) e]
      exact g0
  · -- below every closed state
    obtain ⟨y1, y2⟩ := c3 Y hY (lv i) hlv hfs
    rw [hnxe] at y1 y2
    by_cases e : b = nx
    · subst e
      refine ⟨y1, fun k hk => ?_⟩
      have y3 := y2 k hk
      show jnG (1 - cm b) b GG NG n (b * 40 + k) ≤ _ ∧ _ ≤ jnL (1 - cm b) b LL NL n (b * 40 + k)
      rw [jnG_in hk, jnL_in hk]
      rcases (show cm b = 0 ∨ cm b = 1 by omega) with z | z
      · have f1 : 1 - cm b = 1 := by omega
        rw [f1, if_pos (Or.inl rfl), if_pos (Or.inl rfl)]
        exact y3
      · have old := (a4 Y hY b hb z).2 k hk
        have old : GG (b * 40 + k) ≤ Y.2.1 b k ∧ Y.2.2 b k ≤ LL (b * 40 + k) := old
        constructor <;> (split <;> omega)
    · have hc : cm b = 1 := by
        have : (if b = nx then 1 else cm b) = 1 := hc
        rw [if_neg e] at this
        exact this
      obtain ⟨o1, o2⟩ := a4 Y hY b hb hc
      refine ⟨o1, fun k hk => ?_⟩
      show jnG (1 - cm nx) nx GG NG n (b * 40 + k) ≤ _ ∧ _ ≤ jnL (1 - cm nx) nx LL NL n (b * 40 + k)
      rw [jnG_out hn (by omega) e, jnL_out hn (by omega) e]
      exact o2 k hk
  · -- blocks that have been gone through
    have e : b ≠ nx := fun e => by
      have : (if b = nx then 1 else ch b) = 0 := hz
      rw [if_pos e] at this
      omega
    have hc : cm b = 1 := by
      have : (if b = nx then 1 else cm b) = 1 := hc
      rw [if_neg e] at this
      exact this
    have hz : ch b = 0 := by
      have : (if b = nx then 1 else ch b) = 0 := hz
      rw [if_neg e] at this
      exact this
    obtain ⟨d1, d2⟩ := a5 b hb hbs hc hz
    refine ⟨agO_keep hn (htc b hb).2 e d1, fun e9 he9 hf9 => ?_⟩
    refine agJ_cg (agJ_keep hn (d2 e9 he9 hf9)) (fun k hk => ⟨?_, ?_⟩)
    · exact ath_G_cg (fun k hk => jnG_out hn (by omega) e) (tc b) (htc b hb).2 k hk
    · exact ath_L_cg (fun k hk => jnL_out hn (by omega) e) (tc b) (htc b hb).2 k hk
  · show (if b = nx then 1 else cm b) = 1
    by_cases e : b = nx
    · rw [if_pos e]
    · have : (if b = nx then 1 else ch b) = 1 := hz
      rw [if_neg e] at this ⊢
      exact a6 b hb this
  · show (if s = nx then 1 else cm s) = 1
    split <;> omega
  · -- block s itself
    by_cases e : s = nx
    · exact Or.inl (by show (if s = nx then 1 else ch s) = 1; rw [if_pos e])
    · rcases c4 with z | ⟨z1, z2, z3⟩
      · exact Or.inl (by show (if s = nx then 1 else ch s) = 1; rw [if_neg e]; exact z)
      · refine Or.inr ⟨agO_keep hn (htc s hs).2 e z1, fun k hk => ⟨?_, ?_⟩, fun j h1 h2 => ?_⟩
        · rw [(z2 k hk).1]
          exact (ath_G_cg (fun k hk => jnG_out hn (by omega) e) (tc s) (htc s hs).2 k hk).symm
        · rw [(z2 k hk).2]
          exact (ath_L_cg (fun k hk => jnL_out hn (by omega) e) (tc s) (htc s hs).2 k hk).symm
        · rcases Nat.lt_or_ge j i with q | q
          · exact agJ_keep hn (z3 j h1 q)
          · have ej : j = i := by omega
            rw [ej, hnxe]
            exact agJ_new hcm
