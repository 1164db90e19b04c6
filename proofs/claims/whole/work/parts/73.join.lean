theorem nar1 : vp_nar .boolean 1 = nI 1 := by rfl
theorem nar0 : vp_nar .boolean 0 = nI 0 := by rfl
theorem nar01 {x : Nat} (h : x ≤ 1) : narrow .boolean (.int (nI x)) = .int (nI x) := by
  rcases (show x = 0 ∨ x = 1 by omega) with rfl | rfl <;> rfl
theorem narV {x : Nat} (h : x ≤ 1) : vp_nar .boolean (nI x) = nI x := by
  rcases (show x = 0 ∨ x = 1 by omega) with rfl | rfl <;> rfl
def jnG (f b : Nat) (GG NG : Nat → Nat) (i : Nat) : Nat → Nat := fun j => if b * 40 ≤ j ∧ j < b * 40 + i ∧ (f = 1 ∨ GG j < NG (j - b * 40)) then NG (j - b * 40) else GG j
def jnL (f b : Nat) (LL NL : Nat → Nat) (i : Nat) : Nat → Nat := fun j => if b * 40 ≤ j ∧ j < b * 40 + i ∧ (f = 1 ∨ NL (j - b * 40) < LL j) then NL (j - b * 40) else LL j
def jnA (f b : Nat) (GG LL NG NL : Nat → Nat) : Nat → Nat
  | 0 => f
  | i + 1 => if f = 1 ∨ GG (b * 40 + i) < NG i ∨ NL i < LL (b * 40 + i) then 1 else jnA f b GG LL NG NL i
theorem jnA_le {f b : Nat} {GG LL NG NL : Nat → Nat} (hf : f ≤ 1) : ∀ i, jnA f b GG LL NG NL i ≤ 1 := by
  intro i
  induction i with
  | zero => exact hf
  | succ i ih =>
    unfold jnA
    split <;> omega
theorem jnG_at {f b i : Nat} {GG NG : Nat → Nat} : jnG f b GG NG i (b * 40 + i) = GG (b * 40 + i) := by
  unfold jnG
  rw [if_neg (by omega)]
theorem jnL_at {f b i : Nat} {LL NL : Nat → Nat} : jnL f b LL NL i (b * 40 + i) = LL (b * 40 + i) := by
  unfold jnL
  rw [if_neg (by omega)]
theorem jnG_put {f b i : Nat} {GG NG : Nat → Nat} (h : f = 1 ∨ GG (b * 40 + i) < NG i) : (fun j => if j = b * 40 + i then NG i else jnG f b GG NG i j) = jnG f b GG NG (i + 1) := by
  funext j
  by_cases e : j = b * 40 + i
  · subst e
    have e2 : b * 40 + i - b * 40 = i := by omega
    unfold jnG
    rw [if_pos rfl, e2, if_pos ⟨by omega, by omega, h⟩]
  · unfold jnG
    rw [if_neg e]
    have : (b * 40 ≤ j ∧ j < b * 40 + i ∧ (f = 1 ∨ GG j < NG (j - b * 40))) ↔ (b * 40 ≤ j ∧ j < b * 40 + (i + 1) ∧ (f = 1 ∨ GG j < NG (j - b * 40))) := ⟨fun ⟨a, c, d⟩ => ⟨a, by omega, d⟩, fun ⟨a, c, d⟩ => ⟨a, by omega, d⟩⟩
    simp only [this]
theorem jnG_stay {f b i : Nat} {GG NG : Nat → Nat} (h : ¬ (f = 1 ∨ GG (b * 40 + i) < NG i)) : jnG f b GG NG i = jnG f b GG NG (i + 1) := by
  funext j
  unfold jnG
  by_cases e : j = b * 40 + i
  · subst e
    have e2 : b * 40 + i - b * 40 = i := by omega
    rw [e2, if_neg (fun z => h z.2.2), if_neg (fun z => h z.2.2)]
  · have : (b * 40 ≤ j ∧ j < b * 40 + i ∧ (f = 1 ∨ GG j < NG (j - b * 40))) ↔ (b * 40 ≤ j ∧ j < b * 40 + (i + 1) ∧ (f = 1 ∨ GG j < NG (j - b * 40))) := ⟨fun ⟨a, c, d⟩ => ⟨a, by omega, d⟩, fun ⟨a, c, d⟩ => ⟨a, by omega, d⟩⟩
    simp only [this]
theorem jnL_put {f b i : Nat} {LL NL : Nat → Nat} (h : f = 1 ∨ NL i < LL (b * 40 + i)) : (fun j => if j = b * 40 + i then NL i else jnL f b LL NL i j) = jnL f b LL NL (i + 1) := by
  funext j
  by_cases e : j = b * 40 + i
  · subst e
    have e2 : b * 40 + i - b * 40 = i := by omega
    unfold jnL
    rw [if_pos rfl, e2, if_pos ⟨by omega, by omega, h⟩]
  · unfold jnL
    rw [if_neg e]
    have : (b * 40 ≤ j ∧ j < b * 40 + i ∧ (f = 1 ∨ NL (j - b * 40) < LL j)) ↔ (b * 40 ≤ j ∧ j < b * 40 + (i + 1) ∧ (f = 1 ∨ NL (j - b * 40) < LL j)) := ⟨fun ⟨a, c, d⟩ => ⟨a, by omega, d⟩, fun ⟨a, c, d⟩ => ⟨a, by omega, d⟩⟩
    simp only [this]
theorem jnL_stay {f b i : Nat} {LL NL : Nat → Nat} (h : ¬ (f = 1 ∨ NL i < LL (b * 40 + i))) : jnL f b LL NL i = jnL f b LL NL (i + 1) := by
  funext j
  unfold jnL
  by_cases e : j = b * 40 + i
  · subst e
    have e2 : b * 40 + i - b * 40 = i := by omega
    rw [e2, if_neg (fun z => h z.2.2), if_neg (fun z => h z.2.2)]
  · have : (b * 40 ≤ j ∧ j < b * 40 + i ∧ (f = 1 ∨ NL (j - b * 40) < LL j)) ↔ (b * 40 ≤ j ∧ j < b * 40 + (i + 1) ∧ (f = 1 ∨ NL (j - b * 40) < LL j)) := ⟨fun ⟨a, c, d⟩ => ⟨a, by omega, d⟩, fun ⟨a, c, d⟩ => ⟨a, by omega, d⟩⟩
    simp only [this]
theorem sp_joinInto_loop {n b f W : Nat} {GG LL NG NL : Nat → Nat} {come : Nat → Int32} {Q : Int32 → (Nat → Int32) → (Nat → Int32) → (Nat → Int32) → Prop} (hn : n ≤ 40) (hb : b < 40) (hf : f ≤ 1) (hW : W ≤ 4) (hGG : ∀ k, GG k ≤ W) (hLL : ∀ k, LL k ≤ W) (hNG : ∀ k, NG k ≤ W) (hNL : ∀ k, NL k ≤ W)
    (h : Q (nI (jnA f b GG LL NG NL n)) come (rep (jnG f b GG NG n)) (rep (jnL f b LL NL n))) :
    ∀ d i, i + d = n → lp_X0_joinInto_35 (nI n) (nI (b * 40)) (nI f) come (rep NG) (rep NL) Q (d + 1) (nI (jnA f b GG LL NG NL i)) (nI i) (rep (jnG f b GG NG i)) (rep (jnL f b LL NL i)) := by
  intro d
  induction d with
  | zero =>
    intro i hi
    have hi : i = n := by omega
    subst hi
    unfold lp_X0_joinInto_35
    exact ⟨fun _ => ⟨nar01 (jnA_le hf _), h⟩, fun q => absurd (nI_le (Nat.le_refl _) (by omega)) q⟩
  | succ d ih =>
    intro i hi
    have hin : i < n := by omega
    have nx := ih (i + 1) (by omega)
    rw [← nI_1] at nx
    have ci : (nI i).toNatClampNeg = i := nI_clamp (by omega)
    have ii : vp_in (nI i) 40 := vp_in_nI (by omega) (by decide)
    have ik : vp_in (nI (b * 40 + i)) 1600 := vp_in_nI (by omega) (by decide)
    have ck : (nI (b * 40 + i)).toNatClampNeg = b * 40 + i := nI_clamp (by omega)
    have b1 := hGG (b * 40 + i)
    have b2 := hNG i
    have b3 := hLL (b * 40 + i)
    have b4 := hNL i
    have f0 : nI f = 0 ↔ f = 0 := by rw [← nI_0]; exact nI_eq (by omega) (by decide)
    have J108 : ∀ G : Nat → Int32, G = rep (jnG f b GG NG (i + 1)) → (f = 1 ∨ NL i < LL (b * 40 + i)) → jn_X0_joinInto_108 (nI n) (nI (b * 40)) (nI f) (nI i) come G (rep (jnL f b LL NL i)) (rep NG) (rep NL) (lp_X0_joinInto_35 (nI n) (nI (b * 40)) (nI f) come (rep NG) (rep NL) Q (d + 1)) Q := by
      intro G hG hc
      unfold jn_X0_joinInto_108
      rw [nI_add, ck, ci, rep_at NL, rep_upd, jnL_put hc, hG]
      refine ⟨ii, ik, ?_⟩
      have e : jnA f b GG LL NG NL (i + 1) = 1 := by
        unfold jnA
        rw [if_pos (by rcases hc with z | z; exact Or.inl z; exact Or.inr (Or.inr z))]
      rw [e] at nx
      exact nx
    have J84 : ∀ (G : Nat → Int32) (v : Nat), G = rep (jnG f b GG NG (i + 1)) → (¬ (f = 1 ∨ NL i < LL (b * 40 + i)) → v = jnA f b GG LL NG NL (i + 1)) → jn_X0_joinInto_84 (nI n) (nI (b * 40)) (nI f) (nI v) (nI i) come G (rep (jnL f b LL NL i)) (rep NG) (rep NL) (lp_X0_joinInto_35 (nI n) (nI (b * 40)) (nI f) come (rep NG) (rep NL) Q (d + 1)) Q := by
      intro G v hG hv
      unfold jn_X0_joinInto_84
      refine ⟨fun q => J108 G hG (Or.inl (by have : ¬ f = 0 := fun z => q (f0.mpr z); omega)), fun q => ?_⟩
      have q := f0.mp q
      rw [nI_add, ck, ci, rep_at, rep_at, jnL_at]
      refine ⟨ii, ik, fun c1 => ?_, fun c1 => J108 G hG (Or.inr ?_)⟩
      · have c1 := (nI_leI (by omega) (by omega)).mp c1
        have no : ¬ (f = 1 ∨ NL i < LL (b * 40 + i)) := by omega
        rw [hv no, jnL_stay no, hG]
        exact nx
      · rcases Nat.lt_or_ge (NL i) (LL (b * 40 + i)) with z | z
        · exact z
        · exact absurd ((nI_leI (by omega) (by omega)).mpr z) c1
    have J65 : (f = 1 ∨ GG (b * 40 + i) < NG i) → jn_X0_joinInto_65 (nI n) (nI (b * 40)) (nI f) (nI i) come (rep (jnG f b GG NG i)) (rep (jnL f b LL NL i)) (rep NG) (rep NL) (lp_X0_joinInto_35 (nI n) (nI (b * 40)) (nI f) come (rep NG) (rep NL) Q (d + 1)) Q := by
      intro hc
      unfold jn_X0_joinInto_65
      rw [nI_add, ck, ci, rep_at NG, rep_upd, jnG_put hc]
      refine ⟨ii, ik, ?_⟩
      refine J84 _ 1 rfl (fun no => ?_)
      unfold jnA
      rw [if_pos (by rcases hc with z | z; exact Or.inl z; exact Or.inr (Or.inl z))]
    unfold lp_X0_joinInto_35
    refine ⟨fun q => absurd q (nI_ge hin (by omega)), fun _ => ⟨fun q => J65 (Or.inl (by have : ¬ f = 0 := fun z => q (f0.mpr z); omega)), fun q => ?_⟩⟩
    have q := f0.mp q
    rw [nI_add, ck, ci, rep_at, rep_at, jnG_at]
    refine ⟨ii, ik, fun c1 => ?_, fun c1 => J65 (Or.inr ?_)⟩
    · have c1 := (nI_leI (by omega) (by omega)).mp c1
      have no : ¬ (f = 1 ∨ GG (b * 40 + i) < NG i) := by omega
      rw [jnG_stay no]
      refine J84 _ _ rfl (fun no2 => ?_)
      show jnA f b GG LL NG NL i = jnA f b GG LL NG NL (i + 1)
      unfold jnA
      rw [if_neg (by omega)]
      cases i <;> rfl
    · rcases Nat.lt_or_ge (GG (b * 40 + i)) (NG i) with z | z
      · exact z
      · exact absurd ((nI_leI (by omega) (by omega)).mpr z) c1
theorem sp_joinInto {n b W : Nat} {cm GG LL NG NL : Nat → Nat} {Q : Int32 → (Nat → Int32) → (Nat → Int32) → (Nat → Int32) → Prop} (hn : n ≤ 40) (hb : b < 40) (hcm : cm b ≤ 1) (hW : W ≤ 4) (hGG : ∀ k, GG k ≤ W) (hLL : ∀ k, LL k ≤ W) (hNG : ∀ k, NG k ≤ W) (hNL : ∀ k, NL k ≤ W)
    (h : Q (nI (jnA (1 - cm b) b GG LL NG NL n)) (rep (fun j => if j = b then 1 else cm j)) (rep (jnG (1 - cm b) b GG NG n)) (rep (jnL (1 - cm b) b LL NL n))) :
    wp_X0_joinInto (nI b) (nI n) (rep cm) (rep GG) (rep LL) (rep NG) (rep NL) Q := by
  have cb : (nI b).toNatClampNeg = b := nI_clamp (by omega)
  have ib : vp_in (nI b) 40 := vp_in_nI (by omega) (by decide)
  have c0 : nI (cm b) = 0 ↔ cm b = 0 := by rw [← nI_0]; exact nI_eq (by omega) (by decide)
  have J : ∀ f, f = 1 - cm b → jn_X0_joinInto_19 (nI b) (nI n) (nI (b * 40)) (rep cm) (rep GG) (rep LL) (rep NG) (rep NL) (nI f) Q := by
    intro f hf
    subst hf
    unfold jn_X0_joinInto_19
    rw [cb, nar1, rep_upd]
    refine ⟨ib, n + 1, ?_⟩
    have k := sp_joinInto_loop (f := 1 - cm b) (GG := GG) (LL := LL) (NG := NG) (NL := NL) hn hb (by omega) hW hGG hLL hNG hNL h n 0 (by omega)
    have e1 : jnG (1 - cm b) b GG NG 0 = GG := by funext j; unfold jnG; rw [if_neg (by omega)]
    have e2 : jnL (1 - cm b) b LL NL 0 = LL := by funext j; unfold jnL; rw [if_neg (by omega)]
    rw [e1, e2, nI_0] at k
    exact k
  unfold wp_X0_joinInto
  rw [cb, rep_at cm, nI_m40]
  refine ⟨ib, fun q => ?_, fun q => ?_⟩
  · have : ¬ cm b = 0 := fun z => q (c0.mpr z)
    exact J 0 (by omega)
  · have := c0.mp q
    exact J 1 (by omega)
