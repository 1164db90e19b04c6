theorem jnA_0 {f b : Nat} {GG LL NG NL : Nat → Nat} : ∀ n, jnA f b GG LL NG NL n = 0 → f = 0 ∧ ∀ k, k < n → NG k ≤ GG (b * 40 + k) ∧ LL (b * 40 + k) ≤ NL k := by
  intro n
  induction n with
  | zero => intro h; exact ⟨h, fun k hk => absurd hk (Nat.not_lt_zero k)⟩
  | succ n ih =>
    intro h
    unfold jnA at h
    by_cases c : f = 1 ∨ GG (b * 40 + n) < NG n ∨ NL n < LL (b * 40 + n)
    · rw [if_pos c] at h
      omega
    · rw [if_neg c] at h
      obtain ⟨h1, h2⟩ := ih (by cases n <;> exact h)
      refine ⟨h1, fun k hk => ?_⟩
      rcases Nat.lt_or_ge k n with z | z
      · exact h2 k z
      · have e : k = n := by omega
        subst e
        omega
theorem jnG_same {b n : Nat} {GG NG : Nat → Nat} (h : ∀ k, k < n → NG k ≤ GG (b * 40 + k)) : jnG 0 b GG NG n = GG := by
  funext j
  unfold jnG
  by_cases c : b * 40 ≤ j ∧ j < b * 40 + n ∧ ((0 : Nat) = 1 ∨ GG j < NG (j - b * 40))
  · have h1 := h (j - b * 40) (by omega)
    have e : b * 40 + (j - b * 40) = j := by omega
    rw [e] at h1
    omega
  · rw [if_neg c]
theorem jnL_same {b n : Nat} {LL NL : Nat → Nat} (h : ∀ k, k < n → LL (b * 40 + k) ≤ NL k) : jnL 0 b LL NL n = LL := by
  funext j
  unfold jnL
  by_cases c : b * 40 ≤ j ∧ j < b * 40 + n ∧ ((0 : Nat) = 1 ∨ NL (j - b * 40) < LL j)
  · have h1 := h (j - b * 40) (by omega)
    have e : b * 40 + (j - b * 40) = j := by omega
    rw [e] at h1
    omega
  · rw [if_neg c]
theorem jnG_in {f b n k : Nat} {GG NG : Nat → Nat} (hk : k < n) : jnG f b GG NG n (b * 40 + k) = if f = 1 ∨ GG (b * 40 + k) < NG k then NG k else GG (b * 40 + k) := by
  unfold jnG
  have e : b * 40 + k - b * 40 = k := by omega
  rw [e]
  by_cases c : f = 1 ∨ GG (b * 40 + k) < NG k
  · rw [if_pos ⟨by omega, by omega, c⟩, if_pos c]
  · rw [if_neg (fun z => c z.2.2), if_neg c]
theorem jnL_in {f b n k : Nat} {LL NL : Nat → Nat} (hk : k < n) : jnL f b LL NL n (b * 40 + k) = if f = 1 ∨ NL k < LL (b * 40 + k) then NL k else LL (b * 40 + k) := by
  unfold jnL
  have e : b * 40 + k - b * 40 = k := by omega
  rw [e]
  by_cases c : f = 1 ∨ NL k < LL (b * 40 + k)
  · rw [if_pos ⟨by omega, by omega, c⟩, if_pos c]
  · rw [if_neg (fun z => c z.2.2), if_neg c]
theorem jnG_out {f b c n k : Nat} {GG NG : Nat → Nat} (hn : n ≤ 40) (hk : k < 40) (h : c ≠ b) : jnG f b GG NG n (c * 40 + k) = GG (c * 40 + k) := by
  unfold jnG
  rw [if_neg (fun z => by omega)]
theorem jnL_out {f b c n k : Nat} {LL NL : Nat → Nat} (hn : n ≤ 40) (hk : k < 40) (h : c ≠ b) : jnL f b LL NL n (c * 40 + k) = LL (c * 40 + k) := by
  unfold jnL
  rw [if_neg (fun z => by omega)]
theorem jnG_le {f b n W : Nat} {GG NG : Nat → Nat} (h1 : ∀ k, GG k ≤ W) (h2 : ∀ k, NG k ≤ W) : ∀ k, jnG f b GG NG n k ≤ W := fun k => by
  unfold jnG
  split
  · exact h2 _
  · exact h1 _
theorem jnL_le {f b n W : Nat} {LL NL : Nat → Nat} (h1 : ∀ k, LL k ≤ W) (h2 : ∀ k, NL k ≤ W) : ∀ k, jnL f b LL NL n k ≤ W := fun k => by
  unfold jnL
  split
  · exact h2 _
  · exact h1 _
theorem ath_G_cg {n : Nat} {line : Nat → Int32} {sets : Int32} [∀ i j, Decidable (smS n line sets i j)] {t g g' : Nat → Nat} (h : ∀ k, k < n → g k = g' k) : ∀ i, (∀ j, j < i → t j < n) → ∀ k, k < n → ath_G (smS n line sets) t g i k = ath_G (smS n line sets) t g' i k := by
  intro i
  induction i with
  | zero => intro _ k hk; exact h k hk
  | succ i ih =>
    intro ht k hk
    have h1 := ih (fun j hj => ht j (Nat.lt_succ_of_lt hj)) k hk
    have h2 := ih (fun j hj => ht j (Nat.lt_succ_of_lt hj)) (t i) (ht i (Nat.lt_succ_self i))
    show au_G _ (t i) _ k = au_G _ (t i) _ k
    unfold au_G
    rw [h1, h2]
theorem ath_L_cg {n W : Nat} {line : Nat → Int32} {sets : Int32} [∀ i j, Decidable (smS n line sets i j)] {t g g' : Nat → Nat} (h : ∀ k, k < n → g k = g' k) : ∀ i, (∀ j, j < i → t j < n) → ∀ k, k < n → ath_L W (smS n line sets) t g i k = ath_L W (smS n line sets) t g' i k := by
  intro i
  induction i with
  | zero => intro _ k hk; exact h k hk
  | succ i ih =>
    intro ht k hk
    have h1 := ih (fun j hj => ht j (Nat.lt_succ_of_lt hj)) k hk
    have h2 := ih (fun j hj => ht j (Nat.lt_succ_of_lt hj)) (t i) (ht i (Nat.lt_succ_self i))
    show au_L _ _ (t i) _ k = au_L _ _ (t i) _ k
    unfold au_L
    rw [h1, h2]
def sumN (f : Nat → Nat) : Nat → Nat
  | 0 => 0
  | n + 1 => sumN f n + f n
theorem sumN_le {f g : Nat → Nat} : ∀ n, (∀ k, k < n → f k ≤ g k) → sumN f n ≤ sumN g n := by
  intro n
  induction n with
  | zero => intro _; exact Nat.le_refl 0
  | succ n ih => intro h; exact Nat.add_le_add (ih (fun k hk => h k (Nat.lt_succ_of_lt hk))) (h n (Nat.lt_succ_self n))
theorem sumN_lt {f g : Nat → Nat} : ∀ n, (∀ k, k < n → f k ≤ g k) → (∃ k, k < n ∧ f k < g k) → sumN f n < sumN g n := by
  intro n
  induction n with
  | zero => intro _ ⟨k, hk, _⟩; exact absurd hk (Nat.not_lt_zero k)
  | succ n ih =>
    intro h ⟨k, hk, hl⟩
    show sumN f n + f n < sumN g n + g n
    have h0 := h n (Nat.lt_succ_self n)
    rcases Nat.lt_or_ge k n with z | z
    · have := ih (fun k hk => h k (Nat.lt_succ_of_lt hk)) ⟨k, z, hl⟩
      omega
    · have e : k = n := by omega
      subst e
      have := sumN_le k (fun j hj => h j (Nat.lt_succ_of_lt hj))
      omega
theorem sumN_cst {f : Nat → Nat} {c : Nat} : ∀ n, (∀ k, k < n → f k ≤ c) → sumN f n ≤ n * c := by
  intro n
  induction n with
  | zero => intro _; exact Nat.zero_le _
  | succ n ih =>
    intro h
    have h1 := ih (fun k hk => h k (Nat.lt_succ_of_lt hk))
    have h2 := h n (Nat.lt_succ_self n)
    show sumN f n + f n ≤ (n + 1) * c
    rw [Nat.succ_mul]
    omega
def agM (W B n : Nat) (cm GG LL : Nat → Nat) : Nat := sumN (fun b => if cm b = 1 then 1 + sumN (fun k => GG (b * 40 + k) + (W - LL (b * 40 + k))) n else 0) B
theorem agM_le {W B n : Nat} {cm GG LL : Nat → Nat} (hW : W ≤ 4) (hB : B ≤ 40) (hn : n ≤ 40) (hG : ∀ k, GG k ≤ W) : agM W B n cm GG LL ≤ 12840 := by
  have h1 : ∀ b, sumN (fun k => GG (b * 40 + k) + (W - LL (b * 40 + k))) n ≤ n * 8 := fun b => sumN_cst n (fun k _ => by have := hG (b * 40 + k); show GG (b * 40 + k) + (W - LL (b * 40 + k)) ≤ 8; omega)
  have h2 : agM W B n cm GG LL ≤ B * 321 := sumN_cst B (fun b _ => by
    have := h1 b
    show (if cm b = 1 then 1 + sumN (fun k => GG (b * 40 + k) + (W - LL (b * 40 + k))) n else 0) ≤ 321
    split <;> omega)
  omega
theorem jnA_1 {b : Nat} {GG LL NG NL : Nat → Nat} : ∀ n, jnA 0 b GG LL NG NL n = 1 → ∃ k, k < n ∧ (GG (b * 40 + k) < NG k ∨ NL k < LL (b * 40 + k)) := by
  intro n
  induction n with
  | zero => intro h; exact absurd (show (0 : Nat) = 1 from h) (by decide)
  | succ n ih =>
    intro h
    unfold jnA at h
    by_cases c : (0 : Nat) = 1 ∨ GG (b * 40 + n) < NG n ∨ NL n < LL (b * 40 + n)
    · exact ⟨n, Nat.lt_succ_self n, by omega⟩
    · rw [if_neg c] at h
      obtain ⟨k, hk, h2⟩ := ih (by cases n <;> exact h)
      exact ⟨k, Nat.lt_succ_of_lt hk, h2⟩
theorem agM_join {W B n nx : Nat} {cm GG LL NG NL : Nat → Nat} (hB : nx < B) (hn : n ≤ 40) (hcm : cm nx ≤ 1) (hL : ∀ k, LL k ≤ W) (hNL : ∀ k, NL k ≤ W) :
    agM W B n cm GG LL + jnA (1 - cm nx) nx GG LL NG NL n ≤ agM W B n (fun j => if j = nx then 1 else cm j) (jnG (1 - cm nx) nx GG NG n) (jnL (1 - cm nx) nx LL NL n) := by
  have hA : jnA (1 - cm nx) nx GG LL NG NL n ≤ 1 := jnA_le (by omega) n
  have other : ∀ b, b ≠ nx → (if (if b = nx then 1 else cm b) = 1 then 1 + sumN (fun k => jnG (1 - cm nx) nx GG NG n (b * 40 + k) + (W - jnL (1 - cm nx) nx LL NL n (b * 40 + k))) n else 0) = (if cm b = 1 then 1 + sumN (fun k => GG (b * 40 + k) + (W - LL (b * 40 + k))) n else 0) := by
    intro b hb
    have e : sumN (fun k => jnG (1 - cm nx) nx GG NG n (b * 40 + k) + (W - jnL (1 - cm nx) nx LL NL n (b * 40 + k))) n = sumN (fun k => GG (b * 40 + k) + (W - LL (b * 40 + k))) n := by
      apply Nat.le_antisymm
      · exact sumN_le n (fun k hk => by rw [jnG_out hn (by omega) hb, jnL_out hn (by omega) hb]; exact Nat.le_refl _)
      · exact sumN_le n (fun k hk => by rw [jnG_out hn (by omega) hb, jnL_out hn (by omega) hb]; exact Nat.le_refl _)
    rw [e, if_neg hb]
  have own : (if cm nx = 1 then 1 + sumN (fun k => GG (nx * 40 + k) + (W - LL (nx * 40 + k))) n else 0) + jnA (1 - cm nx) nx GG LL NG NL n ≤ 1 + sumN (fun k => jnG (1 - cm nx) nx GG NG n (nx * 40 + k) + (W - jnL (1 - cm nx) nx LL NL n (nx * 40 + k))) n := by
    rcases (show cm nx = 0 ∨ cm nx = 1 by omega) with c | c
    · rw [if_neg (by omega)]
      omega
    · have e0 : 1 - cm nx = 0 := by omega
      rw [if_pos c, e0]
      have mono : ∀ k, k < n → GG (nx * 40 + k) + (W - LL (nx * 40 + k)) ≤ jnG 0 nx GG NG n (nx * 40 + k) + (W - jnL 0 nx LL NL n (nx * 40 + k)) := by
        intro k hk
        have b1 := hL (nx * 40 + k)
        have b2 := hNL k
        rw [jnG_in hk, jnL_in hk]
        split <;> split <;> omega
      rcases (show jnA 0 nx GG LL NG NL n = 0 ∨ jnA 0 nx GG LL NG NL n = 1 by rw [e0] at hA; omega) with a | a
      · rw [a]
        have := sumN_le n mono
        omega
      · rw [a]
        obtain ⟨k, hk, hc⟩ := jnA_1 n a
        have := sumN_lt n mono ⟨k, hk, by
          have b1 := hL (nx * 40 + k)
          have b2 := hNL k
          show GG (nx * 40 + k) + (W - LL (nx * 40 + k)) < jnG 0 nx GG NG n (nx * 40 + k) + (W - jnL 0 nx LL NL n (nx * 40 + k))
          rw [jnG_in hk, jnL_in hk]
          split <;> split <;> omega⟩
        omega
  have key : ∀ m, (nx < m → sumN (fun b => if cm b = 1 then 1 + sumN (fun k => GG (b * 40 + k) + (W - LL (b * 40 + k))) n else 0) m + jnA (1 - cm nx) nx GG LL NG NL n ≤ sumN (fun b => if (if b = nx then 1 else cm b) = 1 then 1 + sumN (fun k => jnG (1 - cm nx) nx GG NG n (b * 40 + k) + (W - jnL (1 - cm nx) nx LL NL n (b * 40 + k))) n else 0) m) ∧ (m ≤ nx → sumN (fun b => if cm b = 1 then 1 + sumN (fun k => GG (b * 40 + k) + (W - LL (b * 40 + k))) n else 0) m = sumN (fun b => if (if b = nx then 1 else cm b) = 1 then 1 + sumN (fun k => jnG (1 - cm nx) nx GG NG n (b * 40 + k) + (W - jnL (1 - cm nx) nx LL NL n (b * 40 + k))) n else 0) m) := by
    intro m
    induction m with
    | zero => exact ⟨fun h => absurd h (Nat.not_lt_zero _), fun _ => rfl⟩
    | succ m ih =>
      refine ⟨fun h => ?_, fun h => ?_⟩
      · simp only [sumN]
        by_cases e : m = nx
        · subst e
          have h1 := ih.2 (Nat.le_refl _)
          rw [if_pos rfl, if_pos rfl]
          omega
        · have h1 := ih.1 (by omega)
          have h2 := other m e
          omega
      · simp only [sumN]
        have h1 := ih.2 (by omega)
        have h2 := other m (by omega)
        omega
  exact (key B).1 hB
