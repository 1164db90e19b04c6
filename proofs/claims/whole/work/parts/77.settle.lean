theorem filled_rep (g : Nat → Nat) (n v : Nat) : filled (rep g) n (nI v) = rep (fun j => if j < n then v else g j) := by
  funext j
  unfold filled rep
  by_cases h : j < n <;> simp [h]
theorem jnA_f {b : Nat} {GG LL NG NL : Nat → Nat} : ∀ n, jnA 1 b GG LL NG NL n = 1 := by
  intro n
  cases n with
  | zero => rfl
  | succ n => unfold jnA; rw [if_pos (Or.inl rfl)]
theorem sp_begin {W B n E : Nat} {line : Nat → Int32} {sets : Int32} [∀ i j, Decidable (smS n line sets i j)] {tc ts fr to lv fl cm ch GG LL NG NL : Nat → Nat} {O : Nat → Int32} {Q : (Nat → Int32) → (Nat → Int32) → (Nat → Int32) → (Nat → Int32) → (Nat → Int32) → (Nat → Int32) → Prop} (hp : agPr W B n E tc ts fr to lv fl) (hc : ∀ b, cm b ≤ 1 ∧ ch b ≤ 1) (hG : ∀ k, GG k ≤ W ∧ LL k ≤ W) (hN : ∀ k, NG k ≤ W ∧ NL k ≤ W)
    (h : ∀ (cm ch GG LL NG NL : Nat → Nat), agV W B n E line sets tc ts fr to cm ch GG LL O B → (∀ k, NG k ≤ W ∧ NL k ≤ W) → Q (rep cm) (rep ch) (rep GG) (rep LL) (rep NG) (rep NL)) :
    wp_X0_begin (nI B) (nI n) (nI W) (rep cm) (rep ch) (rep GG) (rep LL) (rep NG) (rep NL) Q := by
  obtain ⟨⟨hW, hB, hn, hE⟩, htc, hfr, hfl, hall⟩ := id hp
  have LP : ∀ d i, i + d = 40 → lp_X0_begin_2 (nI B) (nI n) (nI W) (rep GG) (rep LL) (rep NG) (rep NL) Q (d + 1) (nI i) (rep (fun j => if j < i then 0 else cm j)) (rep (fun j => if j < i then 0 else ch j)) := by
    intro d
    induction d with
    | zero =>
      intro i hi
      have e : i = 40 := by omega
      subst e
      have c1 : ∀ b, (if b < 40 then 0 else cm b) ≤ 1 ∧ (if b < 40 then 0 else ch b) ≤ 1 := fun b => by have := hc b; constructor <;> (split <;> omega)
      unfold lp_X0_begin_2
      refine ⟨fun _ => ⟨fun q => ?_, fun q => ?_⟩, fun q => absurd (show (40 : Int32) ≤ nI 40 from by decide) q⟩
      · have q : B = 0 := by
          rw [← nI_0] at q
          have := (nI_leI (by omega) (by decide)).mp q
          omega
        exact h _ _ _ _ _ _ ⟨c1, hG, fun z => absurd z (by omega), fun Y _ b hb => absurd hb (by omega), fun b hb => absurd hb (by omega), fun b hb => absurd hb (by omega)⟩ hN
      · have q : 0 < B := by
          rcases Nat.eq_zero_or_pos B with z | z
          · exact absurd (by rw [z]; decide) q
          · exact z
        have i0 : vp_in (0 : Int32) 40 := by unfold vp_in; decide
        have z0 : (0 : Int32).toNatClampNeg = 0 := by decide
        rw [filled_rep, filled_rep, z0, ← nI_0]
        have hF : ∀ k, (if k < 40 then W else NG k) ≤ W ∧ (if k < 40 then W else NL k) ≤ W := fun k => by have := hN k; constructor <;> (split <;> omega)
        refine sp_joinInto (W := W) hn (by omega) (c1 0).1 hW (fun k => (hG k).1) (fun k => (hG k).2) (fun k => (hF k).1) (fun k => (hF k).2) ⟨by rw [nI_0]; exact i0, ?_⟩
        have e0 : 1 - (fun j => if j < 40 then 0 else cm j) 0 = 1 := by simp
        rw [e0, jnA_f, narV (Nat.le_refl 1), rep_upd]
        refine h _ _ _ _ _ _ ⟨fun b => ?_, fun k => ⟨jnG_le (fun k => (hG k).1) (fun k => (hF k).1) k, jnL_le (fun k => (hG k).2) (fun k => (hF k).2) k⟩, fun _ => ⟨by simp, fun k hk => ?_⟩, fun Y hY b hb hz => ?_, fun b hb _ hz hy => ?_, fun b hb hz => ?_⟩ hF
        · have := c1 b
          constructor
          · show (if b = 0 then 1 else if b < 40 then 0 else cm b) ≤ 1
            split <;> omega
          · show (if b = 0 then 1 else if b < 40 then 0 else ch b) ≤ 1
            split <;> omega
        · rw [jnG_in hk, if_pos (Or.inl rfl)]
          have : k < 40 := by omega
          simp [this]
        · have e : b = 0 := by
            have : (if b = 0 then 1 else if b < 40 then 0 else cm b) = 1 := hz
            by_cases e : b = 0
            · exact e
            · rw [if_neg e, if_pos (by omega)] at this
              omega
          subst e
          obtain ⟨y1, y2⟩ := hY.1 q
          refine ⟨y1, fun k hk => ?_⟩
          have y3 := y2 k hk
          have y4 := (hY.2.1 0 q y1 k hk).2
          have k4 : k < 40 := by omega
          show jnG 1 0 GG (fun j => if j < 40 then W else NG j) n (0 * 40 + k) ≤ Y.2.1 0 k ∧ Y.2.2 0 k ≤ jnL 1 0 LL (fun j => if j < 40 then W else NL j) n (0 * 40 + k)
          rw [jnG_in hk, jnL_in hk, if_pos (Or.inl rfl), if_pos (Or.inl rfl)]
          simp only [k4, if_true]
          exact ⟨y3, y4⟩
        · have z1 : (if b = 0 then 1 else if b < 40 then 0 else cm b) = 1 := hz
          have z2 : (if b = 0 then 1 else if b < 40 then 0 else ch b) = 0 := hy
          by_cases e : b = 0
          · rw [if_pos e] at z2
            omega
          · rw [if_neg e, if_pos (by omega)] at z1
            omega
        · have z2 : (if b = 0 then 1 else if b < 40 then 0 else ch b) = 1 := hz
          show (if b = 0 then 1 else if b < 40 then 0 else cm b) = 1
          by_cases e : b = 0
          · rw [if_pos e]
          · rw [if_neg e, if_pos (by omega)] at z2
            omega
    | succ d ih =>
      intro i hi
      have ci : (nI i).toNatClampNeg = i := nI_clamp (by omega)
      have ii : vp_in (nI i) 40 := vp_in_nI (by omega) (by decide)
      have nx := ih (i + 1) (by omega)
      rw [← nI_1] at nx
      have e1 : ∀ f : Nat → Nat, (rep fun j => if j = i then 0 else if j < i then 0 else f j) = rep (fun j => if j < i + 1 then 0 else f j) := fun f => rep_ext (fun k => by
        by_cases hk : k = i
        · subst hk
          simp
        · have : k < i ↔ k < i + 1 := by omega
          simp [hk, this])
      unfold lp_X0_begin_2
      rw [ci, nar0, rep_upd, rep_upd, e1, e1]
      exact ⟨fun q => absurd q (by rw [show (40 : Int32) = nI 40 from rfl]; exact nI_ge (by omega) (by decide)), fun _ => ⟨ii, ii, nx⟩⟩
  unfold wp_X0_begin
  have k := LP 40 0 (by omega)
  rw [nI_0] at k
  have e1 : ∀ f : Nat → Nat, (rep fun j => if j < 0 then 0 else f j) = rep f := fun f => rep_ext (fun k => by simp)
  rw [e1, e1] at k
  exact ⟨41, k⟩
def jdH (pn : Nat) (oc : Nat → Nat) (base : Nat) : Nat → Nat
  | 0 => base
  | i + 1 => jdH pn oc base i + if oc i = 1 then 0 else pn
def jdL (pn : Nat) (oc : Nat → Nat) (base : Nat) : Nat → Nat
  | 0 => base
  | i + 1 => jdL pn oc base i + if oc i = 2 then pn else 0
theorem sp_judge {b pn : Nat} {tm tc cm : Nat → Nat} {oc : Nat → Nat} {O GT LT : Nat → Int32} {Q : (Nat → Int32) → (Nat → Int32) → Prop} (hb : b < 40) (hcm : cm b ≤ 1) (htc : tc b ≤ 6) (hO : cm b = 1 → ∀ i, i < tc b → O (b * 6 + i) = nI (oc i) ∧ oc i ≤ 2)
    (h : Q (upd GT b (nI (if cm b = 1 then jdH pn oc (tm b) (tc b) else tm b))) (upd LT b (nI (if cm b = 1 then jdL pn oc (tm b) (tc b) else tm b)))) : wp_X0_judge (nI b) (nI pn) (rep tm) (rep tc) (rep cm) O GT LT Q := by
  have cb : (nI b).toNatClampNeg = b := nI_clamp (by omega)
  have ib : vp_in (nI b) 40 := vp_in_nI (by omega) (by decide)
  have c0 : nI (cm b) = 0 ↔ cm b = 0 := by rw [← nI_0]; exact nI_eq (by omega) (by decide)
  unfold wp_X0_judge
  rw [cb, rep_at tm, rep_at cm]
  refine ⟨ib, ib, ib, fun q => ?_, fun q => ?_⟩
  · have q := c0.mp q
    rw [if_neg (by omega), if_neg (by omega)] at h
    unfold jn_X0_judge_86
    rw [cb]
    exact ⟨ib, ib, h⟩
  · have q : cm b = 1 := by
      have : ¬ cm b = 0 := fun z => q (c0.mpr z)
      omega
    rw [if_pos q, if_pos q] at h
    have LP : ∀ d i, i + d = tc b → lp_X0_judge_27 (nI b) (nI pn) (rep tm) (rep tc) (rep cm) O GT LT Q (d + 1) (nI (jdH pn oc (tm b) i)) (nI (jdL pn oc (tm b) i)) (nI i) := by
      intro d
      induction d with
      | zero =>
        intro i hi
        have e : i = tc b := by omega
        subst e
        unfold lp_X0_judge_27 jn_X0_judge_86
        rw [cb, rep_at tc]
        exact ⟨ib, fun _ => ⟨ib, ib, h⟩, fun q => absurd (nI_le (Nat.le_refl _) (by omega)) q⟩
      | succ d ih =>
        intro i hi
        have hlt : i < tc b := by omega
        obtain ⟨o1, o2⟩ := hO q i hlt
        have nx := ih (i + 1) (by omega)
        rw [← nI_1] at nx
        have i6 : vp_in (nI (b * 6 + i)) 240 := vp_in_nI (by omega) (by decide)
        have c6 : (nI (b * 6 + i)).toNatClampNeg = b * 6 + i := nI_clamp (by omega)
        have J : ∀ v, v = jdH pn oc (tm b) (i + 1) → jn_X0_judge_65 (nI b) (nI v) (nI (jdL pn oc (tm b) i)) (nI i) (nI (oc i)) (nI pn) (rep tm) (rep tc) (rep cm) O GT LT (lp_X0_judge_27 (nI b) (nI pn) (rep tm) (rep tc) (rep cm) O GT LT Q (d + 1)) Q := by
          intro v hv
          subst hv
          unfold jn_X0_judge_65
          refine ⟨fun z => ?_, fun z => ?_⟩
          · have z : ¬ oc i = 2 := fun w => z (by rw [w]; rfl)
            have e : jdL pn oc (tm b) (i + 1) = jdL pn oc (tm b) i := by show _ + (if oc i = 2 then pn else 0) = _; rw [if_neg z]; omega
            rw [e] at nx
            exact nx
          · have z : oc i = 2 := (nI_eq (by omega) (by decide)).mp (show nI (oc i) = nI 2 from z)
            have e : jdL pn oc (tm b) (i + 1) = jdL pn oc (tm b) i + pn := by show _ + (if oc i = 2 then pn else 0) = _; rw [if_pos z]
            rw [e] at nx
            rw [nI_add]
            exact nx
        unfold lp_X0_judge_27
        rw [cb, rep_at tc, nI_m6, nI_add, c6, o1]
        refine ⟨ib, fun z => absurd z (nI_ge hlt (by omega)), fun _ => ⟨i6, fun z => ?_, fun z => ?_⟩⟩
        · have z : oc i = 1 := (nI_eq (by omega) (by decide)).mp (show nI (oc i) = nI 1 from z)
          exact J _ (by show _ = _ + (if oc i = 1 then 0 else pn); rw [if_pos z]; omega)
        · have z : ¬ oc i = 1 := fun w => z (by rw [w]; rfl)
          rw [nI_add]
          exact J _ (by show _ = _ + (if oc i = 1 then 0 else pn); rw [if_neg z])
    have k := LP (tc b) 0 (by omega)
    rw [nI_0] at k
    exact ⟨tc b + 1, k⟩
