theorem sp_findAges {W B n E pn : Nat} {line : Nat → Int32} {sets : Int32} [∀ i j, Decidable (smS n line sets i j)] {tm tc ts fr to cm GG LL NG NL : Nat → Nat} {DO : Nat → Int32} {MT LT : Nat → Int64} {Q : (Nat → Int32) → (Nat → Int32) → (Nat → Int32) → (Nat → Int32) → (Nat → Int32) → (Nat → Int32) → (Nat → Int64) → (Nat → Int64) → Prop} (hp : agPq W B n E tc ts fr to) (hW0 : 0 < W) (hpn : pn < 1000) (htm : ∀ b, b < B → tm b ≤ 100000) (hc : ∀ b, cm b ≤ 1) (hG : ∀ k, GG k ≤ W ∧ LL k ≤ W) (hN : ∀ k, NG k ≤ W ∧ NL k ≤ W)
    (h : ∀ (cm GG LL NG NL : Nat → Nat) (DO : Nat → Int32) (MT LT : Nat → Int64), agIs W B n E (smS n line sets) tc (fun b i => ts (b * 6 + i)) fr to (agX cm GG LL) → (∀ b, cm b ≤ 1) → (∀ k, GG k ≤ W ∧ LL k ≤ W) → (∀ k, NG k ≤ W ∧ NL k ≤ W) → (∀ b, b < B → (MT b = lN (agHi W n line sets pn tm tc ts cm GG LL b) ∧ LT b = lN (agLo W n line sets pn tm tc ts cm GG LL b)) ∧ ∀ i, i < tc b → DO (b * 6 + i) = agDv W n line sets ts cm GG LL b i) → Q (rep cm) (repE W GG) (repE W LL) (repE W NG) (repE W NL) DO MT LT) :
    wp_X4_findAges sets (nI W) (nI pn) (nI B) (nI E) (nI n) (rep tm) (rep tc) (rep ts) line (rep fr) (rep to) (rep cm) (repE W GG) (repE W LL) (repE W NG) (repE W NL) DO MT LT Q := by
  obtain ⟨⟨hW, hB, hn, hE⟩, htc, hfr⟩ := id hp
  have m1 : (-1 : Int32) = enc W W := (enc_out (Nat.le_refl W)).symm
  have PS : ∀ (more : Nat) (cm GG LL NG NL : Nat → Nat) (DO : Nat → Int32), agR W B n E line sets tc ts fr to cm GG LL E more → (∀ k, NG k ≤ W ∧ NL k ≤ W) → more ≤ 1 → ∃ k70, lp_X4_findAges_70 sets (nI W) (nI pn) (nI B) (nI E) (nI n) (rep tm) (rep tc) (rep ts) line (rep fr) (rep to) MT LT Q k70 (nI more) (rep cm) (repE W GG) (repE W LL) (repE W NG) (repE W NL) DO := by
    intro more cm GG LL NG NL DO hR hN hm
    refine ⟨12842 + 1, sp_fa_passes hp hW0 (fun cm GG LL NG NL DO hR hN => ⟨B + 1, ?_⟩) 12842 0 (by omega) more cm GG LL NG NL DO hR hN hm (fun _ => Nat.zero_le _)⟩
    have k := sp_fa_last (tm := tm) (pn := pn) (Q := Q) hp hW0 hpn htm hR (fun NG NL DO MT LT hN hT => h cm GG LL NG NL DO MT LT (agR_is hR) hR.1 hR.2.1 hN hT) B 0 (by omega) NG NL DO MT LT hN (fun j hj => absurd hj (Nat.not_lt_zero j))
    rw [nI_0] at k
    exact k
  have L23 : ∀ d i, i + d = 40 → lp_X4_findAges_23 sets (nI W) (nI pn) (nI B) (nI E) (nI n) (rep tm) (rep tc) (rep ts) line (rep fr) (rep to) (rep (fun j => if j < 40 then 0 else cm j)) (repE W GG) (repE W LL) DO MT LT Q (d + 1) (nI i) (repE W (fun j => if j < i then W else NG j)) (repE W (fun j => if j < i then W else NL j)) := by
    intro d
    induction d with
    | zero =>
      intro i hi
      have e : i = 40 := by omega
      subst e
      have c1 : ∀ b, (if b < 40 then 0 else cm b) ≤ 1 := fun b => by have := hc b; split <;> omega
      have hF : ∀ k, (if k < 40 then W else NG k) ≤ W ∧ (if k < 40 then W else NL k) ≤ W := fun k => by have := hN k; constructor <;> (split <;> omega)
      unfold lp_X4_findAges_23
      refine ⟨fun _ => ⟨fun q => ?_, fun q => ?_⟩, fun q => absurd (show (40 : Int32) ≤ nI 40 from by decide) q⟩
      · have q : B = 0 := by
          rw [← nI_0] at q
          have := (nI_leI (by omega) (by decide)).mp q
          omega
        have e0 : E = 0 := by
          rcases Nat.eq_zero_or_pos E with z | z
          · exact z
          · have := (hfr 0 z).1
            omega
        have k := PS 0 (fun j => if j < 40 then 0 else cm j) GG LL (fun j => if j < 40 then W else NG j) (fun j => if j < 40 then W else NL j) DO ⟨c1, hG, fun z => absurd z (by omega), fun Y _ b hb => absurd hb (by omega), fun _ x hx => absurd hx (by omega)⟩ hF (by omega)
        rw [nI_0] at k
        exact k
      · have q : 0 < B := by
          rcases Nat.eq_zero_or_pos B with z | z
          · exact absurd (by rw [z]; decide) q
          · exact z
        have e0 : 1 - (fun j => if j < 40 then 0 else cm j) 0 = 1 := by simp
        rw [← nI_0]
        refine sp_meet (W := W) hn (by omega) (c1 0) hW (fun k => (hG k).1) (fun k => (hG k).2) (fun k => (hF k).1) (fun k => (hF k).2) ?_
        rw [e0, jnA_f]
        refine ⟨fun z => absurd z (by decide), fun _ => ?_⟩
        refine PS 1 _ _ _ _ _ DO ⟨fun b => ?_, fun k => ⟨jnG_le (fun k => (hG k).1) (fun k => (hF k).1) k, jnL_le (fun k => (hG k).2) (fun k => (hF k).2) k⟩, fun _ => ⟨by simp, fun k hk => ?_⟩, fun Y hY b hb hz => ?_, fun z => absurd z (by decide)⟩ hF (Nat.le_refl 1)
        · have := c1 b
          show (if b = 0 then 1 else if b < 40 then 0 else cm b) ≤ 1
          split <;> omega
        · rw [jnG_in hk, if_pos (Or.inl rfl)]
          have : k < 40 := by omega
          simp [this]
        · have e : b = 0 := by
            have : (if b = 0 then 1 else if b < 40 then 0 else cm b) = 1 := hz
            by_cases e : b = 0
            · exact e
            · rw [if_neg e, if_pos (by omega)] at this
              omega
          subst e
          obtain ⟨y1, y2⟩ := hY.1 q
          refine ⟨y1, fun k hk => ?_⟩
          have y3 := y2 k hk
          have y4 := (hY.2.1 0 q y1 k hk).2
          have k4 : k < 40 := by omega
          show jnG 1 0 GG (fun j => if j < 40 then W else NG j) n (0 * 40 + k) ≤ Y.2.1 0 k ∧ Y.2.2 0 k ≤ jnL 1 0 LL (fun j => if j < 40 then W else NL j) n (0 * 40 + k)
          rw [jnG_in hk, jnL_in hk, if_pos (Or.inl rfl), if_pos (Or.inl rfl)]
          simp only [k4, if_true]
          exact ⟨y3, y4⟩
    | succ d ih =>
      intro i hi
      have ci : (nI i).toNatClampNeg = i := nI_clamp (by omega)
      have ii : vp_in (nI i) 40 := vp_in_nI (by omega) (by decide)
      have nx := ih (i + 1) (by omega)
      rw [← nI_1] at nx
      have e1 : ∀ f : Nat → Nat, (repE W fun j => if j = i then W else if j < i then W else f j) = repE W (fun j => if j < i + 1 then W else f j) := fun f => repE_ext (fun k => by
        by_cases hk : k = i
        · subst hk
          simp
        · have : k < i ↔ k < i + 1 := by omega
          simp [hk, this])
      unfold lp_X4_findAges_23
      rw [ci, m1, repE_upd, repE_upd, e1, e1]
      exact ⟨fun q => absurd q (by rw [show (40 : Int32) = nI 40 from rfl]; exact nI_ge (by omega) (by decide)), fun _ => ⟨ii, ii, nx⟩⟩
  have L2 : ∀ d i, i + d = 40 → lp_X4_findAges_2 sets (nI W) (nI pn) (nI B) (nI E) (nI n) (rep tm) (rep tc) (rep ts) line (rep fr) (rep to) (repE W GG) (repE W LL) (repE W NG) (repE W NL) DO MT LT Q (d + 1) (nI i) (rep (fun j => if j < i then 0 else cm j)) := by
    intro d
    induction d with
    | zero =>
      intro i hi
      have e : i = 40 := by omega
      subst e
      unfold lp_X4_findAges_2
      refine ⟨fun _ => ⟨41, ?_⟩, fun q => absurd (show (40 : Int32) ≤ nI 40 from by decide) q⟩
      have k := L23 40 0 (by omega)
      rw [nI_0] at k
      have e1 : ∀ f : Nat → Nat, (repE W fun j => if j < 0 then W else f j) = repE W f := fun f => repE_ext (fun k => by simp)
      rw [e1, e1] at k
      exact k
    | succ d ih =>
      intro i hi
      have ci : (nI i).toNatClampNeg = i := nI_clamp (by omega)
      have ii : vp_in (nI i) 40 := vp_in_nI (by omega) (by decide)
      have nx := ih (i + 1) (by omega)
      rw [← nI_1] at nx
      have e1 : (rep fun j => if j = i then 0 else if j < i then 0 else cm j) = rep (fun j => if j < i + 1 then 0 else cm j) := rep_ext (fun k => by
        by_cases hk : k = i
        · subst hk
          simp
        · have : k < i ↔ k < i + 1 := by omega
          simp [hk, this])
      unfold lp_X4_findAges_2
      rw [ci, nar0, rep_upd, e1]
      exact ⟨fun q => absurd q (by rw [show (40 : Int32) = nI 40 from rfl]; exact nI_ge (by omega) (by decide)), fun _ => ⟨ii, nx⟩⟩
  unfold wp_X4_findAges
  have k := L2 40 0 (by omega)
  rw [nI_0] at k
  have e1 : (rep fun j => if j < 0 then 0 else cm j) = rep cm := rep_ext (fun k => by simp)
  rw [e1] at k
  exact ⟨41, k⟩
