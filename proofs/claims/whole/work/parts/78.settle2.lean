def agOc (W n : Nat) (line : Nat → Int32) (sets : Int32) [∀ i j, Decidable (smS n line sets i j)] (ts GG LL : Nat → Nat) (b i : Nat) : Nat := aoc W (ath_G (smS n line sets) (fun i => ts (b * 6 + i)) (fun k => GG (b * 40 + k)) i) (ath_L W (smS n line sets) (fun i => ts (b * 6 + i)) (fun k => LL (b * 40 + k)) i) (ts (b * 6 + i))
theorem aoc_le {W : Nat} {g l : Nat → Nat} {u : Nat} : aoc W g l u ≤ 2 := by
  unfold aoc
  split
  · omega
  · split <;> omega
def agHi (W n : Nat) (line : Nat → Int32) (sets : Int32) [∀ i j, Decidable (smS n line sets i j)] (pn : Nat) (tm tc ts cm GG LL : Nat → Nat) (b : Nat) : Nat := if cm b = 1 then jdH pn (agOc W n line sets ts GG LL b) (tm b) (tc b) else tm b
def agLo (W n : Nat) (line : Nat → Int32) (sets : Int32) [∀ i j, Decidable (smS n line sets i j)] (pn : Nat) (tm tc ts cm GG LL : Nat → Nat) (b : Nat) : Nat := if cm b = 1 then jdL pn (agOc W n line sets ts GG LL b) (tm b) (tc b) else tm b
theorem agV_is {W B n E : Nat} {line : Nat → Int32} {sets : Int32} [∀ i j, Decidable (smS n line sets i j)] {tc ts fr to lv fl cm ch GG LL : Nat → Nat} {O : Nat → Int32} (hp : agPr W B n E tc ts fr to lv fl) (hV : agV W B n E line sets tc ts fr to cm ch GG LL O B) (hz : ∀ b, b < B → ch b = 0) : agIs W B n E (smS n line sets) tc (fun b i => ts (b * 6 + i)) fr to (agX cm GG LL) ∧ ∀ b, b < B → cm b = 1 → agO W n line sets tc ts GG LL O b := by
  obtain ⟨-, htc, hfr, hfl, hall⟩ := hp
  obtain ⟨a1, a2, a3, a4, a5, a6⟩ := hV
  refine ⟨⟨⟨a3, fun b _ _ k _ => a2 (b * 40 + k), fun e he hc => ?_⟩, a4⟩, fun b hb hc => (a5 b hb (by omega) hc (hz b hb)).1⟩
  have hf := (hfr e he).1
  have d := (a5 (fr e) hf (by omega) hc (hz _ hf)).2 e he rfl
  exact ⟨d.1, fun k hk => d.2 k hk⟩
theorem sp_settle {W B n E pn : Nat} {line : Nat → Int32} {sets cc : Int32} [∀ i j, Decidable (smS n line sets i j)] {tm tc ts fr to lv fl cm ch GG LL NG NL : Nat → Nat} {O GT LT : Nat → Int32} {Q : Int32 → (Nat → Int32) → (Nat → Int32) → (Nat → Int32) → (Nat → Int32) → (Nat → Int32) → (Nat → Int32) → (Nat → Int32) → (Nat → Int32) → (Nat → Int32) → Prop} (hp : agPr W B n E tc ts fr to lv fl) (hc : ∀ b, cm b ≤ 1 ∧ ch b ≤ 1) (hG : ∀ k, GG k ≤ W ∧ LL k ≤ W) (hN : ∀ k, NG k ≤ W ∧ NL k ≤ W)
    (h : ∀ (cm ch GG LL NG NL : Nat → Nat) (O GT LT : Nat → Int32), agIs W B n E (smS n line sets) tc (fun b i => ts (b * 6 + i)) fr to (agX cm GG LL) → (∀ b, b < B → cm b = 1 → agO W n line sets tc ts GG LL O b) → (∀ b, cm b ≤ 1 ∧ ch b ≤ 1) → (∀ k, GG k ≤ W ∧ LL k ≤ W) → (∀ k, NG k ≤ W ∧ NL k ≤ W) → (∀ b, b < B → GT b = nI (agHi W n line sets pn tm tc ts cm GG LL b) ∧ LT b = nI (agLo W n line sets pn tm tc ts cm GG LL b)) → Q (nI (sumN cm B)) (rep cm) O GT LT (rep ch) (rep GG) (rep LL) (rep NG) (rep NL)) :
    wp_X0_settle (nI B) (nI n) sets (nI W) (nI pn) cc (rep tm) (rep tc) (rep ts) line (rep to) (rep lv) (rep fl) (rep cm) O GT LT (rep ch) (rep GG) (rep LL) (rep NG) (rep NL) Q := by
  obtain ⟨⟨hW, hB, hn, hE⟩, htc, hfr, hfl, hall⟩ := id hp
  have TM : ∀ (cm ch GG LL NG NL : Nat → Nat) (O : Nat → Int32), agV W B n E line sets tc ts fr to cm ch GG LL O B → (∀ k, NG k ≤ W ∧ NL k ≤ W) → (∀ b, b < B → ch b = 0) → ∀ (GT LT : Nat → Int32), ∃ k38, lp_X0_settle_38 (nI B) (nI n) sets (nI W) (nI pn) (rep tm) (rep tc) (rep ts) line (rep to) (rep lv) (rep fl) (rep cm) O (rep ch) (rep GG) (rep LL) (rep NG) (rep NL) Q k38 0 0 GT LT := by
    intro cm ch GG LL NG NL O hV hN hz GT LT
    obtain ⟨hI, hO⟩ := agV_is hp hV hz
    have LP : ∀ d b, b + d = B → ∀ (GT LT : Nat → Int32), (∀ j, j < b → GT j = nI (agHi W n line sets pn tm tc ts cm GG LL j) ∧ LT j = nI (agLo W n line sets pn tm tc ts cm GG LL j)) → lp_X0_settle_38 (nI B) (nI n) sets (nI W) (nI pn) (rep tm) (rep tc) (rep ts) line (rep to) (rep lv) (rep fl) (rep cm) O (rep ch) (rep GG) (rep LL) (rep NG) (rep NL) Q (d + 1) (nI b) (nI (sumN cm b)) GT LT := by
      intro d
      induction d with
      | zero =>
        intro b hb GT LT hT
        have e : b = B := by omega
        subst e
        unfold lp_X0_settle_38
        exact ⟨fun _ => h cm ch GG LL NG NL O GT LT hI hO hV.1 hV.2.1 hN hT, fun q => absurd (nI_le (Nat.le_refl _) (by omega)) q⟩
      | succ d ih =>
        intro b hb GT LT hT
        have hlt : b < B := by omega
        have cb : (nI b).toNatClampNeg = b := nI_clamp (by omega)
        have ib : vp_in (nI b) 40 := vp_in_nI (by omega) (by decide)
        have hcb := (hV.1 b).1
        have c0 : nI (cm b) = 0 ↔ cm b = 0 := by rw [← nI_0]; exact nI_eq (by omega) (by decide)
        unfold lp_X0_settle_38
        refine ⟨fun q => absurd q (nI_ge hlt (by omega)), fun _ => ?_⟩
        refine sp_judge (oc := agOc W n line sets ts GG LL b) (by omega) hcb (htc b hlt).1 (fun z i hi => ⟨hO b hlt z i hi, aoc_le⟩) ⟨ib, ?_⟩
        rw [cb, rep_at cm]
        have nx := ih (b + 1) (by omega) (upd GT b (nI (if cm b = 1 then jdH pn (agOc W n line sets ts GG LL b) (tm b) (tc b) else tm b))) (upd LT b (nI (if cm b = 1 then jdL pn (agOc W n line sets ts GG LL b) (tm b) (tc b) else tm b))) (fun j hj => by
          by_cases e : j = b
          · subst e
            rw [pk_us, pk_us]
            exact ⟨rfl, rfl⟩
          · rw [pk_un e, pk_un e]
            exact hT j (by omega))
        rw [← nI_1] at nx
        refine ⟨fun q => ?_, fun q => ?_⟩
        · have q := c0.mp q
          have e : sumN cm (b + 1) = sumN cm b := by show sumN cm b + cm b = _; omega
          rw [e] at nx
          exact nx
        · have q : cm b = 1 := by
            have : ¬ cm b = 0 := fun z => q (c0.mpr z)
            omega
          have e : sumN cm (b + 1) = sumN cm b + 1 := by show sumN cm b + cm b = _; omega
          rw [e] at nx
          rw [nI_1 (sumN cm b)]
          exact nx
    have k := LP B 0 (by omega) GT LT (fun j hj => absurd hj (Nat.not_lt_zero j))
    have e : sumN cm 0 = 0 := rfl
    rw [e, nI_0] at k
    exact ⟨B + 1, k⟩
  have PS : ∀ d p, p + d = 12842 → ∀ (r : Nat) (cm ch GG LL NG NL : Nat → Nat) (O : Nat → Int32), agV W B n E line sets tc ts fr to cm ch GG LL O B → (∀ k, NG k ≤ W ∧ NL k ≤ W) → r ≤ 1 → (r = 0 → ∀ b, b < B → ch b = 0) → (r = 1 → p ≤ agM W B n cm GG LL) → lp_X0_settle_9 (nI B) (nI n) sets (nI W) (nI pn) cc (rep tm) (rep tc) (rep ts) line (rep to) (rep lv) (rep fl) GT LT Q (d + 1) (nI r) (nI p) (rep cm) O (rep ch) (rep GG) (rep LL) (rep NG) (rep NL) := by
    intro d
    induction d with
    | zero =>
      intro p hp1 r cm ch GG LL NG NL O hV hN hr hz hM
      have mm := agM_le (cm := cm) (LL := LL) hW hB hn (fun k => (hV.2.1 k).1)
      have r0 : r = 0 := by
        rcases (show r = 0 ∨ r = 1 by omega) with z | z
        · exact z
        · have := hM z
          omega
      subst r0
      unfold lp_X0_settle_9
      exact ⟨fun _ => TM cm ch GG LL NG NL O hV hN (hz rfl) GT LT, fun q => absurd nI_0 q⟩
    | succ d ih =>
      intro p hp1 r cm ch GG LL NG NL O hV hN hr hz hM
      have mm := agM_le (cm := cm) (LL := LL) hW hB hn (fun k => (hV.2.1 k).1)
      unfold lp_X0_settle_9
      refine ⟨fun q => ?_, fun q => ⟨fun q2 => ?_, fun q2 => ?_⟩⟩
      · have q : r = 0 := (nI_eq (by omega) (by decide)).mp (show nI r = nI 0 from q)
        exact TM cm ch GG LL NG NL O hV hN (hz q) GT LT
      · have q : r = 1 := by
          have : ¬ r = 0 := fun z => q (by rw [z]; exact nI_0)
          omega
        have := hM q
        have q2 := (nI_leI (a := 1000000) (by decide) (by omega)).mp (show nI 1000000 ≤ nI p from q2)
        omega
      · have q : r = 1 := by
          have : ¬ r = 0 := fun z => q (by rw [z]; exact nI_0)
          omega
        have hMp := hM q
        refine sp_spread (M0 := agM W B n cm GG LL) hp hV hN (Nat.le_refl _) (fun r2 cm2 ch2 GG2 LL2 NG2 NL2 O2 hV2 hN2 hr2 hz2 hM2 => ?_)
        rw [nI_1]
        exact ih (p + 1) (by omega) r2 cm2 ch2 GG2 LL2 NG2 NL2 O2 hV2 hN2 hr2 hz2 (fun z => by omega)
  unfold wp_X0_settle
  refine sp_begin (O := O) (line := line) (sets := sets) hp hc hG hN (fun cm ch GG LL NG NL hV hN => ?_)
  have k := PS 12842 0 (by omega) 1 cm ch GG LL NG NL O hV hN (Nat.le_refl 1) (fun z => absurd z (by decide)) (fun _ => Nat.zero_le _)
  exact ⟨12843, k⟩
