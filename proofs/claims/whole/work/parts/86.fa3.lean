theorem ms_jdH {pn : Nat} {oc : Nat → Nat} {base : Nat} : ∀ m, (∀ i, i < m → oc i ≤ 2) → msH pn (fun i => nI (oc i)) base m = jdH pn oc base m := by
  intro m
  induction m with
  | zero => intro _; rfl
  | succ m ih =>
    intro h
    have h1 := h m (Nat.lt_succ_self m)
    show msH pn _ base m + (if nI (oc m) = 2 ∨ nI (oc m) = 0 then pn else 0) = jdH pn oc base m + (if oc m = 1 then 0 else pn)
    rw [ih (fun i hi => h i (Nat.lt_succ_of_lt hi))]
    rcases (show oc m = 0 ∨ oc m = 1 ∨ oc m = 2 by omega) with z | z | z <;> rw [z] <;> rfl
theorem ms_jdL {pn : Nat} {oc : Nat → Nat} {base : Nat} : ∀ m, (∀ i, i < m → oc i ≤ 2) → msL pn (fun i => nI (oc i)) base m = jdL pn oc base m := by
  intro m
  induction m with
  | zero => intro _; rfl
  | succ m ih =>
    intro h
    have h1 := h m (Nat.lt_succ_self m)
    show msL pn _ base m + (if nI (oc m) = 2 then pn else 0) = jdL pn oc base m + (if oc m = 2 then pn else 0)
    rw [ih (fun i hi => h i (Nat.lt_succ_of_lt hi))]
    rcases (show oc m = 0 ∨ oc m = 1 ∨ oc m = 2 by omega) with z | z | z <;> rw [z] <;> rfl
theorem ms_n {pn base : Nat} : ∀ m, msH pn (fun _ => -1) base m = base ∧ msL pn (fun _ => -1) base m = base := by
  intro m
  induction m with
  | zero => exact ⟨rfl, rfl⟩
  | succ m ih =>
    refine ⟨?_, ?_⟩
    · show msH pn _ base m + (if (-1 : Int32) = 2 ∨ (-1 : Int32) = 0 then pn else 0) = base
      rw [ih.1, if_neg (by decide)]
      rfl
    · show msL pn _ base m + (if (-1 : Int32) = 2 then pn else 0) = base
      rw [ih.2, if_neg (by decide)]
      rfl
def agDv (W n : Nat) (line : Nat → Int32) (sets : Int32) [∀ i j, Decidable (smS n line sets i j)] (ts cm GG LL : Nat → Nat) (b i : Nat) : Int32 := if cm b = 1 then nI (agOc W n line sets ts GG LL b i) else -1
theorem sp_fa_last {W B n E pn : Nat} {line : Nat → Int32} {sets : Int32} [∀ i j, Decidable (smS n line sets i j)] {tm tc ts fr to cm GG LL : Nat → Nat} {Q : (Nat → Int32) → (Nat → Int32) → (Nat → Int32) → (Nat → Int32) → (Nat → Int32) → (Nat → Int32) → (Nat → Int64) → (Nat → Int64) → Prop} (hp : agPq W B n E tc ts fr to) (hW0 : 0 < W) (hpn : pn < 1000) (htm : ∀ b, b < B → tm b ≤ 100000) (hR : agR W B n E line sets tc ts fr to cm GG LL E 0)
    (h : ∀ (NG NL : Nat → Nat) (DO : Nat → Int32) (MT LT : Nat → Int64), (∀ k, NG k ≤ W ∧ NL k ≤ W) → (∀ b, b < B → (MT b = lN (agHi W n line sets pn tm tc ts cm GG LL b) ∧ LT b = lN (agLo W n line sets pn tm tc ts cm GG LL b)) ∧ ∀ i, i < tc b → DO (b * 6 + i) = agDv W n line sets ts cm GG LL b i) → Q (rep cm) (repE W GG) (repE W LL) (repE W NG) (repE W NL) DO MT LT) :
    ∀ d b, b + d = B → ∀ (NG NL : Nat → Nat) (DO : Nat → Int32) (MT LT : Nat → Int64), (∀ k, NG k ≤ W ∧ NL k ≤ W) → (∀ j, j < b → (MT j = lN (agHi W n line sets pn tm tc ts cm GG LL j) ∧ LT j = lN (agLo W n line sets pn tm tc ts cm GG LL j)) ∧ ∀ i, i < tc j → DO (j * 6 + i) = agDv W n line sets ts cm GG LL j i) →
      lp_X4_findAges_144 sets (nI W) (nI pn) (nI B) (nI E) (nI n) (rep tm) (rep tc) (rep ts) line (rep fr) (rep to) (rep cm) (repE W GG) (repE W LL) Q (d + 1) (nI b) (repE W NG) (repE W NL) DO MT LT := by
  obtain ⟨⟨hW, hB, hn, hE⟩, htc, hfr⟩ := id hp
  intro d
  induction d with
  | zero =>
    intro b hb NG NL DO MT LT hN hT
    have e : b = B := by omega
    subst e
    unfold lp_X4_findAges_144
    exact ⟨fun _ => h NG NL DO MT LT hN hT, fun q => absurd (nI_le (Nat.le_refl _) (by omega)) q⟩
  | succ d ih =>
    intro b hb NG NL DO MT LT hN hT
    have hlt : b < B := by omega
    have cb : (nI b).toNatClampNeg = b := nI_clamp (by omega)
    have ib : vp_in (nI b) 40 := vp_in_nI (by omega) (by decide)
    have hcb := hR.1 b
    have c0 : nI (cm b) = 0 ↔ cm b = 0 := by rw [← nI_0]; exact nI_eq (by omega) (by decide)
    have t0 := htm b hlt
    have tl : (nI (tm b)).toInt64 = lN (tm b) := nI_l (by omega)
    have t6 := (htc b hlt).1
    have go : ∀ (NG NL : Nat → Nat) (DO : Nat → Int32), (∀ k, NG k ≤ W ∧ NL k ≤ W) → (∀ j, j < b → ∀ i, i < tc j → DO (j * 6 + i) = agDv W n line sets ts cm GG LL j i) → (cm b = 1 → ∀ i, i < tc b → DO (b * 6 + i) = agDv W n line sets ts cm GG LL b i) → ∃ k197, lp_X4_findAges_197 (nI b) sets (nI W) (nI pn) (nI B) (nI E) (nI n) (rep tm) (rep tc) (rep ts) line (rep fr) (rep to) (rep cm) (repE W GG) (repE W LL) (repE W NG) (repE W NL) (lp_X4_findAges_144 sets (nI W) (nI pn) (nI B) (nI E) (nI n) (rep tm) (rep tc) (rep ts) line (rep fr) (rep to) (rep cm) (repE W GG) (repE W LL) Q (d + 1)) Q k197 (nI (b * 6)) DO (vp_updL MT b (lN (tm b))) (vp_updL LT b (lN (tm b))) := by
      intro NG NL DO hN hD1 hD2
      have nx := ih (b + 1) (by omega) NG NL (dsV b (fun i => agDv W n line sets ts cm GG LL b i) DO (tc b)) (vp_updL MT b (lN (msH pn (fun i => agDv W n line sets ts cm GG LL b i) (tm b) (tc b)))) (vp_updL LT b (lN (msL pn (fun i => agDv W n line sets ts cm GG LL b i) (tm b) (tc b)))) hN (fun j hj => by
        by_cases e : j = b
        · subst e
          refine ⟨⟨?_, ?_⟩, fun i hi => ?_⟩
          · rw [pk_uLs]
            unfold agHi
            rcases (show cm j = 0 ∨ cm j = 1 by omega) with z | z
            · rw [if_neg (by omega)]
              have : (fun i => agDv W n line sets ts cm GG LL j i) = fun _ => -1 := by funext i; unfold agDv; rw [if_neg (by omega)]
              rw [this, (ms_n _).1]
            · rw [if_pos z]
              have : (fun i => agDv W n line sets ts cm GG LL j i) = fun i => nI (agOc W n line sets ts GG LL j i) := by funext i; unfold agDv; rw [if_pos z]
              rw [this, ms_jdH (oc := agOc W n line sets ts GG LL j) _ (fun i _ => by unfold agOc; exact aoc_le)]
          · rw [pk_uLs]
            unfold agLo
            rcases (show cm j = 0 ∨ cm j = 1 by omega) with z | z
            · rw [if_neg (by omega)]
              have : (fun i => agDv W n line sets ts cm GG LL j i) = fun _ => -1 := by funext i; unfold agDv; rw [if_neg (by omega)]
              rw [this, (ms_n _).2]
            · rw [if_pos z]
              have : (fun i => agDv W n line sets ts cm GG LL j i) = fun i => nI (agOc W n line sets ts GG LL j i) := by funext i; unfold agDv; rw [if_pos z]
              rw [this, ms_jdL (oc := agOc W n line sets ts GG LL j) _ (fun i _ => by unfold agOc; exact aoc_le)]
          · unfold dsV
            have e6 : j * 6 + i - j * 6 = i := by omega
            rw [if_pos ⟨by omega, by omega⟩, e6]
        · have hj2 : j < b := by omega
          have tj := (htc j (by omega)).1
          refine ⟨?_, fun i hi => ?_⟩
          · rw [pk_uLn e, pk_uLn e]
            exact (hT j hj2).1
          · unfold dsV
            rw [if_neg (by omega)]
            exact hD1 j hj2 i hi)
      rw [← nI_1] at nx
      have k := sp_fa_block (val := fun i => agDv W n line sets ts cm GG LL b i) (base := tm b) (MT := MT) (LT := LT) (time := rep tm) (ts := rep ts) (fr := rep fr) (to := rep to) (GG := repE W GG) (LL := repE W LL) (W := W) (B := B) (n := n) (E := E) (line := line) (sets := sets) (Q := Q) (by omega) hpn hcb t6 hD2 (fun z i => by show agDv W n line sets ts cm GG LL b i = -1; unfold agDv; rw [if_neg (by omega)]) nx (tc b) 0 (by omega)
      rw [dsV_0, Nat.add_zero] at k
      exact ⟨tc b + 1, k⟩
    unfold lp_X4_findAges_144
    rw [cb, rep_at tm, rep_at cm, tl, nI_6m]
    refine ⟨fun q => absurd q (nI_ge hlt (by omega)), fun _ => ⟨ib, ib, ib, ib, ib, fun q => ?_, fun q => ?_⟩⟩
    · have q := c0.mp q
      exact go NG NL DO hN (fun j hj => (hT j hj).2) (fun z => by omega)
    · have q : cm b = 1 := by
        have : ¬ cm b = 0 := fun z => q (c0.mpr z)
        omega
      refine sp_mgo hn (by omega) hW hW0 t6 (htc b hlt).2 (fun k => (hR.2.1 k).1) (fun k => (hR.2.1 k).2) (fun k => (hN k).1) (fun k => (hN k).2) ?_
      have g0 : ∀ k, (if k < n then GG (b * 40 + k) else NG k) ≤ W := fun k => by split; exact (hR.2.1 _).1; exact (hN _).1
      have l0 : ∀ k, (if k < n then LL (b * 40 + k) else NL k) ≤ W := fun k => by split; exact (hR.2.1 _).2; exact (hN _).2
      refine go _ _ _ (fun k => ⟨ath_G_le' g0 _ k, ath_L_le' l0 _ k⟩) (fun j hj i hi => ?_) (fun _ i hi => ?_)
      · have tj := (htc j (by omega)).1
        unfold aout
        rw [if_neg (by omega)]
        exact (hT j hj).2 i hi
      · unfold aout agDv agOc
        have e6 : b * 6 + i - b * 6 = i := by omega
        rw [if_pos ⟨by omega, by omega⟩, e6, if_pos q]
        have u := (htc b hlt).2 i hi
        unfold aoc
        rw [ath_G_cg (line := line) (sets := sets) (g' := fun k => GG (b * 40 + k)) (fun k hk => by simp [hk]) i (fun j hj => (htc b hlt).2 j (by omega)) _ u, ath_L_cg (line := line) (sets := sets) (g' := fun k => LL (b * 40 + k)) (fun k hk => by simp [hk]) i (fun j hj => (htc b hlt).2 j (by omega)) _ u]
