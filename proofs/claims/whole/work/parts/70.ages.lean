def au_G (sm : Nat → Nat → Prop) [∀ i j, Decidable (sm i j)] (u : Nat) (g : Nat → Nat) : Nat → Nat := fun k => if k = u then 0 else if sm k u ∧ g k < g u then g k + 1 else g k
def au_L (W : Nat) (sm : Nat → Nat → Prop) [∀ i j, Decidable (sm i j)] (u : Nat) (l : Nat → Nat) : Nat → Nat := fun k => if k = u then 0 else if sm k u ∧ l k ≤ l u ∧ l k < W then l k + 1 else l k
theorem au_G_mono {sm : Nat → Nat → Prop} [∀ i j, Decidable (sm i j)] {n u : Nat} (hu : u < n) {g g' : Nat → Nat} (h : ∀ k, k < n → g k ≤ g' k) : ∀ k, k < n → au_G sm u g k ≤ au_G sm u g' k := by
  intro k hk
  have h1 := h k hk
  have h2 := h u hu
  unfold au_G
  by_cases e : k = u
  · simp [e]
  · by_cases hs : sm k u
    · simp only [e, hs, if_false, true_and]
      split <;> split <;> omega
    · simp only [e, hs, if_false, false_and]
      omega
theorem au_L_mono {W : Nat} {sm : Nat → Nat → Prop} [∀ i j, Decidable (sm i j)] {n u : Nat} (hu : u < n) {l l' : Nat → Nat} (hW : ∀ k, k < n → l k ≤ W) (h : ∀ k, k < n → l' k ≤ l k) : ∀ k, k < n → au_L W sm u l' k ≤ au_L W sm u l k := by
  intro k hk
  have h1 := h k hk
  have h2 := h u hu
  have h3 := hW k hk
  unfold au_L
  by_cases e : k = u
  · simp [e]
  · by_cases hs : sm k u
    · simp only [e, hs, if_false, true_and]
      split <;> split <;> omega
    · simp only [e, hs, if_false, false_and]
      omega
theorem au_G_le {W : Nat} {sm : Nat → Nat → Prop} [∀ i j, Decidable (sm i j)] {n u : Nat} (hu : u < n) {g : Nat → Nat} (h : ∀ k, k < n → g k ≤ W) : ∀ k, k < n → au_G sm u g k ≤ W := by
  intro k hk
  have h1 := h k hk
  have h2 := h u hu
  unfold au_G
  by_cases e : k = u
  · simp [e]
  · simp only [e, if_false]
    split <;> omega
theorem au_L_le {W : Nat} {sm : Nat → Nat → Prop} [∀ i j, Decidable (sm i j)] {n u : Nat} {l : Nat → Nat} (h : ∀ k, k < n → l k ≤ W) : ∀ k, k < n → au_L W sm u l k ≤ W := by
  intro k hk
  have h1 := h k hk
  unfold au_L
  by_cases e : k = u
  · simp [e]
  · simp only [e, if_false]
    split <;> omega
def ath_G (sm : Nat → Nat → Prop) [∀ i j, Decidable (sm i j)] (t : Nat → Nat) (g : Nat → Nat) : Nat → Nat → Nat
  | 0 => g
  | i + 1 => au_G sm (t i) (ath_G sm t g i)
def ath_L (W : Nat) (sm : Nat → Nat → Prop) [∀ i j, Decidable (sm i j)] (t : Nat → Nat) (l : Nat → Nat) : Nat → Nat → Nat
  | 0 => l
  | i + 1 => au_L W sm (t i) (ath_L W sm t l i)
theorem ath_G_mono {sm : Nat → Nat → Prop} [∀ i j, Decidable (sm i j)] {n : Nat} {t g g' : Nat → Nat} (h : ∀ k, k < n → g k ≤ g' k) : ∀ i, (∀ j, j < i → t j < n) → ∀ k, k < n → ath_G sm t g i k ≤ ath_G sm t g' i k := by
  intro i
  induction i with
  | zero => intro _ k hk; exact h k hk
  | succ i ih => intro ht k hk; exact au_G_mono (ht i (Nat.lt_succ_self i)) (ih (fun j hj => ht j (Nat.lt_succ_of_lt hj))) k hk
theorem ath_L_le {W : Nat} {sm : Nat → Nat → Prop} [∀ i j, Decidable (sm i j)] {n : Nat} {t l : Nat → Nat} (h : ∀ k, k < n → l k ≤ W) : ∀ i k, k < n → ath_L W sm t l i k ≤ W := by
  intro i
  induction i with
  | zero => exact h
  | succ i ih => exact au_L_le ih
theorem ath_G_le {W : Nat} {sm : Nat → Nat → Prop} [∀ i j, Decidable (sm i j)] {n : Nat} {t g : Nat → Nat} (h : ∀ k, k < n → g k ≤ W) : ∀ i, (∀ j, j < i → t j < n) → ∀ k, k < n → ath_G sm t g i k ≤ W := by
  intro i
  induction i with
  | zero => intro _; exact h
  | succ i ih => intro ht; exact au_G_le (ht i (Nat.lt_succ_self i)) (ih (fun j hj => ht j (Nat.lt_succ_of_lt hj)))
theorem ath_L_mono {W : Nat} {sm : Nat → Nat → Prop} [∀ i j, Decidable (sm i j)] {n : Nat} {t l l' : Nat → Nat} (hW : ∀ k, k < n → l k ≤ W) (h : ∀ k, k < n → l' k ≤ l k) : ∀ i, (∀ j, j < i → t j < n) → ∀ k, k < n → ath_L W sm t l' i k ≤ ath_L W sm t l i k := by
  intro i
  induction i with
  | zero => intro _ k hk; exact h k hk
  | succ i ih => intro ht k hk; exact au_L_mono (ht i (Nat.lt_succ_self i)) (ath_L_le hW i) (ih (fun j hj => ht j (Nat.lt_succ_of_lt hj))) k hk
abbrev agS : Type := (Nat → Prop) × (Nat → Nat → Nat) × (Nat → Nat → Nat)
abbrev agP : Type := Nat × Nat × Nat × Nat × (Nat → Nat) × (Nat → Nat → Nat) × (Nat → Nat) × (Nat → Nat)
def agLe (B n : Nat) (X Y : agS) : Prop := ∀ b, b < B → X.1 b → Y.1 b ∧ ∀ k, k < n → X.2.1 b k ≤ Y.2.1 b k ∧ Y.2.2 b k ≤ X.2.2 b k
def agCl (W B n E : Nat) (sm : Nat → Nat → Prop) [∀ i j, Decidable (sm i j)] (tc : Nat → Nat) (t : Nat → Nat → Nat) (fr to : Nat → Nat) (X : agS) : Prop :=
  (0 < B → X.1 0 ∧ ∀ k, k < n → W ≤ X.2.1 0 k) ∧ (∀ b, b < B → X.1 b → ∀ k, k < n → X.2.1 b k ≤ W ∧ X.2.2 b k ≤ W) ∧
  ∀ e, e < E → X.1 (fr e) → X.1 (to e) ∧ ∀ k, k < n → ath_G sm (t (fr e)) (X.2.1 (fr e)) (tc (fr e)) k ≤ X.2.1 (to e) k ∧ X.2.2 (to e) k ≤ ath_L W sm (t (fr e)) (X.2.2 (fr e)) (tc (fr e)) k
def agIs (W B n E : Nat) (sm : Nat → Nat → Prop) [∀ i j, Decidable (sm i j)] (tc : Nat → Nat) (t : Nat → Nat → Nat) (fr to : Nat → Nat) (X : agS) : Prop :=
  agCl W B n E sm tc t fr to X ∧ ∀ Y, agCl W B n E sm tc t fr to Y → agLe B n X Y
theorem agIs_one {W B n E : Nat} {sm : Nat → Nat → Prop} [∀ i j, Decidable (sm i j)] {tc : Nat → Nat} {t : Nat → Nat → Nat} {fr to : Nat → Nat} {X Y : agS} (hX : agIs W B n E sm tc t fr to X) (hY : agIs W B n E sm tc t fr to Y) : ∀ b, b < B → (X.1 b ↔ Y.1 b) ∧ (X.1 b → ∀ k, k < n → X.2.1 b k = Y.2.1 b k ∧ X.2.2 b k = Y.2.2 b k) := by
  intro b hb
  have h1 := hX.2 Y hY.1 b hb
  have h2 := hY.2 X hX.1 b hb
  refine ⟨⟨fun h => (h1 h).1, fun h => (h2 h).1⟩, fun h k hk => ?_⟩
  have h3 := (h1 h).2 k hk
  have h4 := (h2 (h1 h).1).2 k hk
  omega
theorem ag_join {W B n E : Nat} {sm : Nat → Nat → Prop} [∀ i j, Decidable (sm i j)] {tc : Nat → Nat} {t : Nat → Nat → Nat} {fr to : Nat → Nat} {X Y : agS} (hY : agCl W B n E sm tc t fr to Y) (hle : agLe B n X Y) (ht : ∀ b, b < B → ∀ i, i < tc b → t b i < n) (hXW : ∀ b, b < B → X.1 b → ∀ k, k < n → X.2.1 b k ≤ W ∧ X.2.2 b k ≤ W) {e : Nat} (he : e < E) (hf : fr e < B) (hc : X.1 (fr e)) : Y.1 (to e) ∧ ∀ k, k < n → ath_G sm (t (fr e)) (X.2.1 (fr e)) (tc (fr e)) k ≤ Y.2.1 (to e) k ∧ Y.2.2 (to e) k ≤ ath_L W sm (t (fr e)) (X.2.2 (fr e)) (tc (fr e)) k := by
  obtain ⟨hc2, h2⟩ := hle (fr e) hf hc
  obtain ⟨hc3, h3⟩ := hY.2.2 e he hc2
  refine ⟨hc3, fun k hk => ⟨?_, ?_⟩⟩
  · exact Nat.le_trans (ath_G_mono (fun k hk => (h2 k hk).1) (tc (fr e)) (ht (fr e) hf) k hk) (h3 k hk).1
  · exact Nat.le_trans (h3 k hk).2 (ath_L_mono (fun k hk => (hXW (fr e) hf hc k hk).2) (fun k hk => (h2 k hk).2) (tc (fr e)) (ht (fr e) hf) k hk)
