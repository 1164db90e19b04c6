theorem ag_none {W B n E : Nat} {line : Nat → Int32} {sets : Int32} [∀ i j, Decidable (smS n line sets i j)] {tc ts fr to lv fl cm ch GG LL NG NL : Nat → Nat} {O : Nat → Int32} {s i : Nat} (hcm : cm (to (lv i)) ≤ 1) (hA : jnA (1 - cm (to (lv i))) (to (lv i)) GG LL NG NL n = 0) (hS : agS9 W B n E line sets tc ts fr to lv fl cm ch GG LL NG NL O s i) :
    ((fun j => if j = to (lv i) then 1 else cm j) = cm ∧ jnG (1 - cm (to (lv i))) (to (lv i)) GG NG n = GG ∧ jnL (1 - cm (to (lv i))) (to (lv i)) LL NL n = LL) ∧ agS9 W B n E line sets tc ts fr to lv fl cm ch GG LL NG NL O s (i + 1) := by
  obtain ⟨h1, h2⟩ := jnA_0 n hA
  have c1 : cm (to (lv i)) = 1 := by omega
  refine ⟨⟨?_, ?_, ?_⟩, ?_⟩
  · funext j
    by_cases e : j = to (lv i)
    · rw [if_pos e, e, c1]
    · rw [if_neg e]
  · rw [h1]
    exact jnG_same (fun k hk => (h2 k hk).1)
  · rw [h1]
    exact jnL_same (fun k hk => (h2 k hk).2)
  · obtain ⟨d1, d2, d3, d4⟩ := hS
    refine ⟨d1, d2, d3, ?_⟩
    rcases d4 with z | ⟨z1, z2, z3⟩
    · exact Or.inl z
    · refine Or.inr ⟨z1, z2, fun j q1 q2 => ?_⟩
      rcases Nat.lt_or_ge j i with q | q
      · exact z3 j q1 q
      · have e : j = i := by omega
        rw [e]
        exact ⟨c1, h2⟩
theorem sp_spread_in {W B n E M0 : Nat} {line : Nat → Int32} {sets : Int32} [∀ i j, Decidable (smS n line sets i j)] {tc ts fr to lv fl NG NL : Nat → Nat} {O : Nat → Int32} {s : Nat} {K4 : Int32 → Int32 → (Nat → Int32) → (Nat → Int32) → (Nat → Int32) → (Nat → Int32) → (Nat → Int32) → (Nat → Int32) → (Nat → Int32) → Prop} {Q : Int32 → (Nat → Int32) → (Nat → Int32) → (Nat → Int32) → (Nat → Int32) → (Nat → Int32) → (Nat → Int32) → (Nat → Int32) → Prop} (hp : agPr W B n E tc ts fr to lv fl) (hs : s < B)
    (hK : ∀ (r : Nat) (cm ch GG LL : Nat → Nat), agV W B n E line sets tc ts fr to cm ch GG LL O s → agS9 W B n E line sets tc ts fr to lv fl cm ch GG LL NG NL O s (fl (s + 1)) → r ≤ 1 → (r = 0 → ∀ b, b < s + 1 → ch b = 0) → M0 + r ≤ agM W B n cm GG LL → K4 (nI r) (nI s + 1) (rep cm) O (rep ch) (rep GG) (rep LL) (rep NG) (rep NL)) :
    ∀ d i, i + d = fl (s + 1) → fl s ≤ i → ∀ (r : Nat) (cm ch GG LL : Nat → Nat), agV W B n E line sets tc ts fr to cm ch GG LL O s → agS9 W B n E line sets tc ts fr to lv fl cm ch GG LL NG NL O s i → r ≤ 1 → (r = 0 → ∀ b, b < s + 1 → ch b = 0) → M0 + r ≤ agM W B n cm GG LL →
      lp_X0_spread_42 (nI s) (nI B) (nI n) sets (nI W) (rep tc) (rep ts) line (rep to) (rep lv) (rep fl) O (rep NG) (rep NL) K4 Q (d + 1) (nI r) (nI i) (rep cm) (rep ch) (rep GG) (rep LL) := by
  obtain ⟨⟨hW, hB, hn, hE⟩, htc, hfr, hfl, hall⟩ := id hp
  obtain ⟨f1, f2, f3⟩ := hfl s hs
  have i1 : vp_in (nI s + 1) 41 := by rw [nI_1]; exact vp_in_nI (by omega) (by decide)
  have k1 : (nI s + 1).toNatClampNeg = s + 1 := by rw [nI_1]; exact nI_clamp (by omega)
  intro d
  induction d with
  | zero =>
    intro i hi hi2 r cm ch GG LL hV hS hr hz hM
    have e : i = fl (s + 1) := by omega
    subst e
    unfold lp_X0_spread_42
    rw [k1, rep_at fl]
    exact ⟨i1, fun _ => hK r cm ch GG LL hV hS hr hz hM, fun q => absurd (nI_le (Nat.le_refl _) (by omega)) q⟩
  | succ d ih =>
    intro i hi hi2 r cm ch GG LL hV hS hr hz hM
    have hlt : i < fl (s + 1) := by omega
    obtain ⟨hlv, hfs⟩ := f3 i hi2 hlt
    have hnx := (hfr (lv i) hlv).2
    have ci : (nI i).toNatClampNeg = i := nI_clamp (by omega)
    have ii : vp_in (nI i) 80 := vp_in_nI (by omega) (by decide)
    have cl : (nI (lv i)).toNatClampNeg = lv i := nI_clamp (by omega)
    have il : vp_in (nI (lv i)) 80 := vp_in_nI (by omega) (by decide)
    have cx : (nI (to (lv i))).toNatClampNeg = to (lv i) := nI_clamp (by omega)
    have ix : vp_in (nI (to (lv i))) 40 := vp_in_nI (by omega) (by decide)
    have hcm : cm (to (lv i)) ≤ 1 := (hV.1 _).1
    have hA : jnA (1 - cm (to (lv i))) (to (lv i)) GG LL NG NL n ≤ 1 := jnA_le (by omega) n
    have hMj := agM_join (W := W) (B := B) (GG := GG) (LL := LL) (NG := NG) (NL := NL) hnx hn hcm (fun k => (hV.2.1 k).2) (fun k => (hS.2.1 k).2)
    unfold lp_X0_spread_42
    rw [k1, rep_at fl, ci, rep_at lv, cl, rep_at to, cx]
    refine ⟨i1, fun q => absurd q (nI_ge hlt (by omega)), fun _ => ⟨ii, il, ?_⟩⟩
    refine sp_joinInto (W := W) hn (by omega) hcm hW (fun k => (hV.2.1 k).1) (fun k => (hV.2.1 k).2) (fun k => (hS.2.1 k).1) (fun k => (hS.2.1 k).2) ⟨fun q => ?_, fun q => ⟨ix, ?_⟩⟩
    · have q : jnA (1 - cm (to (lv i))) (to (lv i)) GG LL NG NL n = 0 := by
        rw [← nI_0] at q
        exact (nI_eq (by omega) (by decide)).mp q
      obtain ⟨⟨e1, e2, e3⟩, hS2⟩ := ag_none hcm q hS
      rw [e1, e2, e3, nI_1]
      exact ih (i + 1) (by omega) (by omega) r cm ch GG LL hV hS2 hr hz hM
    · have q : jnA (1 - cm (to (lv i))) (to (lv i)) GG LL NG NL n = 1 := by
        have : ¬ jnA (1 - cm (to (lv i))) (to (lv i)) GG LL NG NL n = 0 := fun z => q (by rw [z]; exact nI_0)
        omega
      obtain ⟨hV2, hS2⟩ := ag_one hp hs hi2 hlt hV hS
      rw [nar1, rep_upd, nI_1]
      exact ih (i + 1) (by omega) (by omega) 1 _ _ _ _ hV2 hS2 (Nat.le_refl 1) (fun z => absurd z (by decide)) (by omega)
theorem ag_take {W B n E : Nat} {line : Nat → Int32} {sets : Int32} [∀ i j, Decidable (smS n line sets i j)] {tc ts fr to lv fl cm ch GG LL NG NL : Nat → Nat} {O : Nat → Int32} {s : Nat} (hp : agPr W B n E tc ts fr to lv fl) (hs : s < B) (hch : ch s = 1) (hN : ∀ k, NG k ≤ W ∧ NL k ≤ W) (hV : agV W B n E line sets tc ts fr to cm ch GG LL O B) :
    agV W B n E line sets tc ts fr to cm (fun j => if j = s then 0 else ch j) GG LL (aout W (smS n line sets) s (fun i => ts (s * 6 + i)) (fun k => if k < n then GG (s * 40 + k) else NG k) (fun k => if k < n then LL (s * 40 + k) else NL k) O (tc s)) s ∧
    agS9 W B n E line sets tc ts fr to lv fl cm (fun j => if j = s then 0 else ch j) GG LL (ath_G (smS n line sets) (fun i => ts (s * 6 + i)) (fun k => if k < n then GG (s * 40 + k) else NG k) (tc s)) (ath_L W (smS n line sets) (fun i => ts (s * 6 + i)) (fun k => if k < n then LL (s * 40 + k) else NL k) (tc s)) (aout W (smS n line sets) s (fun i => ts (s * 6 + i)) (fun k => if k < n then GG (s * 40 + k) else NG k) (fun k => if k < n then LL (s * 40 + k) else NL k) O (tc s)) s (fl s) := by
  obtain ⟨⟨hW, hB, hn, hE⟩, htc, hfr, hfl, hall⟩ := hp
  obtain ⟨a1, a2, a3, a4, a5, a6⟩ := hV
  have hcs := a6 s hs hch
  have g0 : ∀ k, (if k < n then GG (s * 40 + k) else NG k) ≤ W := fun k => by split; exact (a2 _).1; exact (hN _).1
  have l0 : ∀ k, (if k < n then LL (s * 40 + k) else NL k) ≤ W := fun k => by split; exact (a2 _).2; exact (hN _).2
  have eG : ∀ i, i ≤ tc s → ∀ k, k < n → ath_G (smS n line sets) (fun i => ts (s * 6 + i)) (fun k => if k < n then GG (s * 40 + k) else NG k) i k = ath_G (smS n line sets) (fun i => ts (s * 6 + i)) (fun k => GG (s * 40 + k)) i k := fun i hi k hk => ath_G_cg (fun k hk => by simp [hk]) i (fun j hj => (htc s hs).2 j (by omega)) k hk
  have eL : ∀ i, i ≤ tc s → ∀ k, k < n → ath_L W (smS n line sets) (fun i => ts (s * 6 + i)) (fun k => if k < n then LL (s * 40 + k) else NL k) i k = ath_L W (smS n line sets) (fun i => ts (s * 6 + i)) (fun k => LL (s * 40 + k)) i k := fun i hi k hk => ath_L_cg (fun k hk => by simp [hk]) i (fun j hj => (htc s hs).2 j (by omega)) k hk
  refine ⟨⟨fun b => ?_, a2, a3, a4, fun b hb hbs hc hz => ?_, fun b hb hz => ?_⟩, hcs, fun k => ⟨ath_G_le' g0 _ k, ath_L_le' l0 _ k⟩, fun Y hY e he hfe => ?_, Or.inr ⟨fun i hi => ?_, fun k hk => ⟨eG _ (Nat.le_refl _) k hk, eL _ (Nat.le_refl _) k hk⟩, fun j h1 h2 => absurd h2 (by omega)⟩⟩
  · have := a1 b
    refine ⟨this.1, ?_⟩
    show (if b = s then 0 else ch b) ≤ 1
    split <;> omega
  · have hz : ch b = 0 := by
      have : (if b = s then 0 else ch b) = 0 := hz
      rw [if_neg hbs] at this
      exact this
    obtain ⟨d1, d2⟩ := a5 b hb (by omega) hc hz
    refine ⟨fun i hi => ?_, d2⟩
    have t6 := (htc b hb).1
    have s6 := (htc s hs).1
    unfold aout
    rw [if_neg (by omega)]
    exact d1 i hi
  · have : (if b = s then 0 else ch b) = 1 := hz
    by_cases e : b = s
    · rw [if_pos e] at this
      omega
    · rw [if_neg e] at this
      exact a6 b hb this
  · obtain ⟨y1, y2⟩ := ag_join (X := agX cm GG LL) hY (a4 Y hY) (fun b hb i hi => (htc b hb).2 i hi) (fun b hb _ k hk => a2 (b * 40 + k)) he (by omega) (by show cm (fr e) = 1; rw [hfe]; exact hcs)
    refine ⟨y1, fun k hk => ?_⟩
    have y3 := y2 k hk
    rw [hfe] at y3
    rw [eG _ (Nat.le_refl _) k hk, eL _ (Nat.le_refl _) k hk]
    exact y3
  · unfold aout
    have e6 : s * 6 + i - s * 6 = i := by omega
    rw [if_pos ⟨by omega, by omega⟩, e6]
    have u := (htc s hs).2 i hi
    unfold aoc
    rw [eG i (by omega) _ u, eL i (by omega) _ u]
theorem ag_left {W B n E : Nat} {line : Nat → Int32} {sets : Int32} [∀ i j, Decidable (smS n line sets i j)] {tc ts fr to lv fl cm ch GG LL NG NL : Nat → Nat} {O : Nat → Int32} {s : Nat} (hp : agPr W B n E tc ts fr to lv fl) (hV : agV W B n E line sets tc ts fr to cm ch GG LL O s) (hS : agS9 W B n E line sets tc ts fr to lv fl cm ch GG LL NG NL O s (fl (s + 1))) : agV W B n E line sets tc ts fr to cm ch GG LL O B := by
  obtain ⟨-, htc, hfr, hfl, hall⟩ := hp
  obtain ⟨a1, a2, a3, a4, a5, a6⟩ := hV
  refine ⟨a1, a2, a3, a4, fun b hb _ hc hz => ?_, a6⟩
  by_cases e : b = s
  · subst e
    obtain ⟨-, -, -, c4⟩ := hS
    rcases c4 with z | ⟨z1, z2, z3⟩
    · omega
    · refine ⟨z1, fun e he hf => ?_⟩
      obtain ⟨i, q1, q2, q3⟩ := hall e he
      rw [hf] at q1 q2
      have := z3 i q1 q2
      rw [q3] at this
      exact agJ_cg this (fun k hk => ⟨(z2 k hk).1.symm, (z2 k hk).2.symm⟩)
  · exact a5 b hb e hc hz
theorem sp_spread {W B n E M0 : Nat} {line : Nat → Int32} {sets : Int32} [∀ i j, Decidable (smS n line sets i j)] {tc ts fr to lv fl cm ch GG LL NG NL : Nat → Nat} {O : Nat → Int32} {Q : Int32 → (Nat → Int32) → (Nat → Int32) → (Nat → Int32) → (Nat → Int32) → (Nat → Int32) → (Nat → Int32) → (Nat → Int32) → Prop} (hp : agPr W B n E tc ts fr to lv fl) (hV : agV W B n E line sets tc ts fr to cm ch GG LL O B) (hN : ∀ k, NG k ≤ W ∧ NL k ≤ W) (hM : M0 ≤ agM W B n cm GG LL)
    (h : ∀ (r : Nat) (cm ch GG LL NG NL : Nat → Nat) (O : Nat → Int32), agV W B n E line sets tc ts fr to cm ch GG LL O B → (∀ k, NG k ≤ W ∧ NL k ≤ W) → r ≤ 1 → (r = 0 → ∀ b, b < B → ch b = 0) → M0 + r ≤ agM W B n cm GG LL → Q (nI r) (rep cm) O (rep ch) (rep GG) (rep LL) (rep NG) (rep NL)) :
    wp_X0_spread (nI B) (nI n) sets (nI W) (rep tc) (rep ts) line (rep to) (rep lv) (rep fl) (rep cm) O (rep ch) (rep GG) (rep LL) (rep NG) (rep NL) Q := by
  obtain ⟨⟨hW, hB, hn, hE⟩, htc, hfr, hfl, hall⟩ := id hp
  have LP : ∀ d b, b + d = B → ∀ (r : Nat) (cm ch GG LL NG NL : Nat → Nat) (O : Nat → Int32), agV W B n E line sets tc ts fr to cm ch GG LL O B → (∀ k, NG k ≤ W ∧ NL k ≤ W) → r ≤ 1 → (r = 0 → ∀ j, j < b → ch j = 0) → M0 + r ≤ agM W B n cm GG LL → lp_X0_spread_4 (nI B) (nI n) sets (nI W) (rep tc) (rep ts) line (rep to) (rep lv) (rep fl) Q (d + 1) (nI r) (nI b) (rep cm) O (rep ch) (rep GG) (rep LL) (rep NG) (rep NL) := by
    intro d
    induction d with
    | zero =>
      intro b hb r cm ch GG LL NG NL O hV hN hr hz hM
      have e : b = B := by omega
      subst e
      unfold lp_X0_spread_4
      exact ⟨fun _ => ⟨nar01 hr, h r cm ch GG LL NG NL O hV hN hr hz hM⟩, fun q => absurd (nI_le (Nat.le_refl _) (by omega)) q⟩
    | succ d ih =>
      intro b hb r cm ch GG LL NG NL O hV hN hr hz hM
      have hlt : b < B := by omega
      have cb : (nI b).toNatClampNeg = b := nI_clamp (by omega)
      have ib : vp_in (nI b) 40 := vp_in_nI (by omega) (by decide)
      have ib1 : vp_in (nI b) 41 := vp_in_nI (by omega) (by decide)
      have hcb := (hV.1 b).2
      have c0 : nI (ch b) = 0 ↔ ch b = 0 := by rw [← nI_0]; exact nI_eq (by omega) (by decide)
      unfold lp_X0_spread_4
      rw [cb, rep_at ch, rep_at fl]
      refine ⟨fun q => absurd q (nI_ge hlt (by omega)), fun _ => ⟨ib, fun q => ?_, fun q => ⟨ib, ?_⟩⟩⟩
      · have q := c0.mp q
        rw [nI_1]
        refine ih (b + 1) (by omega) r cm ch GG LL NG NL O hV hN hr (fun z j hj => ?_) hM
        rcases Nat.lt_or_ge j b with p | p
        · exact hz z j p
        · have e : j = b := by omega
          rw [e]
          exact q
      · have q : ch b = 1 := by
          have : ¬ ch b = 0 := fun z => q (c0.mpr z)
          omega
        refine sp_goThrough hn (by omega) hW (htc b hlt).1 (htc b hlt).2 (fun k => (hV.2.1 k).1) (fun k => (hV.2.1 k).2) (fun k => (hN k).1) (fun k => (hN k).2) ⟨ib1, fl (b + 1) - fl b + 1, ?_⟩
        obtain ⟨hV2, hS2⟩ := ag_take hp hlt q hN hV
        rw [nar0, rep_upd]
        have f1 := (hfl b hlt).1
        refine sp_spread_in (M0 := M0) hp hlt (fun r cm ch GG LL hV hS hr hz hM => ?_) (fl (b + 1) - fl b) (fl b) (by omega) (Nat.le_refl _) r cm _ GG LL hV2 hS2 hr (fun z j hj => ?_) hM
        · rw [nI_1]
          exact ih (b + 1) (by omega) r cm ch GG LL _ _ _ (ag_left hp hV hS) hS.2.1 hr hz hM
        · show (if j = b then 0 else ch j) = 0
          by_cases e : j = b
          · rw [if_pos e]
          · rw [if_neg e]
            exact hz z j (by omega)
  unfold wp_X0_spread
  have k := LP B 0 (by omega) 0 cm ch GG LL NG NL O hV hN (by omega) (fun _ j hj => absurd hj (Nat.not_lt_zero j)) (by omega)
  rw [nI_0] at k
  exact ⟨B + 1, k⟩
