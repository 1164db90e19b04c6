theorem enc_inj {W v w : Nat} (hW : W ≤ 4) (hv : v ≤ W) (hw : w ≤ W) (h : enc W v = enc W w) : v = w := by
  rcases Nat.lt_or_ge v W with a | a
  · rcases Nat.lt_or_ge w W with b | b
    · rw [enc_in a, enc_in b] at h
      exact (nI_eq (by omega) (by omega)).mp h
    · exact absurd ((enc_pos hW).mp (h ▸ (enc_pos hW).mpr a)) (by omega)
  · rcases Nat.lt_or_ge w W with b | b
    · exact absurd ((enc_pos hW).mp (h.symm ▸ (enc_pos hW).mpr b)) (by omega)
    · omega
theorem jnG_nx {f b i : Nat} {GG NG : Nat → Nat} : (fun j => if j = b * 40 + i then (if f = 1 ∨ GG (b * 40 + i) < NG i then NG i else GG (b * 40 + i)) else jnG f b GG NG i j) = jnG f b GG NG (i + 1) := by
  by_cases c : f = 1 ∨ GG (b * 40 + i) < NG i
  · rw [if_pos c]
    exact jnG_put c
  · rw [if_neg c, ← jnG_stay c]
    funext j
    by_cases e : j = b * 40 + i
    · rw [if_pos e, e, jnG_at]
    · rw [if_neg e]
theorem jnL_nx {f b i : Nat} {LL NL : Nat → Nat} : (fun j => if j = b * 40 + i then (if f = 1 ∨ NL i < LL (b * 40 + i) then NL i else LL (b * 40 + i)) else jnL f b LL NL i j) = jnL f b LL NL (i + 1) := by
  by_cases c : f = 1 ∨ NL i < LL (b * 40 + i)
  · rw [if_pos c]
    exact jnL_put c
  · rw [if_neg c, ← jnL_stay c]
    funext j
    by_cases e : j = b * 40 + i
    · rw [if_pos e, e, jnL_at]
    · rw [if_neg e]
theorem sp_meet_loop {n b f W : Nat} {GG LL NG NL cm : Nat → Nat} {Q : Int32 → (Nat → Int32) → (Nat → Int32) → (Nat → Int32) → Prop} (hn : n ≤ 40) (hb : b < 40) (hcm : cm b ≤ 1) (hf : f = 1 - cm b) (hW : W ≤ 4) (hGG : ∀ k, GG k ≤ W) (hLL : ∀ k, LL k ≤ W) (hNG : ∀ k, NG k ≤ W) (hNL : ∀ k, NL k ≤ W)
    (h : Q (nI (jnA f b GG LL NG NL n)) (rep (fun j => if j = b then 1 else cm j)) (repE W (jnG f b GG NG n)) (repE W (jnL f b LL NL n))) :
    ∀ d i, i + d = n → lp_X4_meet_17 (nI b) (nI n) (rep cm) (repE W NG) (repE W NL) Q (d + 1) (nI (jnA f b GG LL NG NL i)) (nI i) (repE W (jnG f b GG NG i)) (repE W (jnL f b LL NL i)) := by
  have cb : (nI b).toNatClampNeg = b := nI_clamp (by omega)
  have ib : vp_in (nI b) 40 := vp_in_nI (by omega) (by decide)
  have c0 : nI (cm b) = 0 ↔ cm b = 0 := by rw [← nI_0]; exact nI_eq (by omega) (by decide)
  have hf1 : f ≤ 1 := by omega
  intro d
  induction d with
  | zero =>
    intro i hi
    have hi : i = n := by omega
    subst hi
    unfold lp_X4_meet_17
    rw [cb, nar1, rep_upd]
    exact ⟨fun _ => ⟨ib, nar01 (jnA_le hf1 _), h⟩, fun q => absurd (nI_le (Nat.le_refl _) (by omega)) q⟩
  | succ d ih =>
    intro i hi
    have hin : i < n := by omega
    have nx := ih (i + 1) (by omega)
    rw [← nI_1] at nx
    have ci : (nI i).toNatClampNeg = i := nI_clamp (by omega)
    have ii : vp_in (nI i) 40 := vp_in_nI (by omega) (by decide)
    have ik : vp_in (nI (b * 40 + i)) 1600 := vp_in_nI (by omega) (by decide)
    have ck : (nI (b * 40 + i)).toNatClampNeg = b * 40 + i := nI_clamp (by omega)
    have b1 := hGG (b * 40 + i)
    have b2 := hNG i
    have b3 := hLL (b * 40 + i)
    have b4 := hNL i
    have hA := jnA_le (b := b) (GG := GG) (LL := LL) (NG := NG) (NL := NL) hf1 i
    have nxA : jnA f b GG LL NG NL (i + 1) = if f = 1 ∨ GG (b * 40 + i) < NG i ∨ NL i < LL (b * 40 + i) then 1 else jnA f b GG LL NG NL i := rfl
    generalize hmg : (if f = 1 ∨ GG (b * 40 + i) < NG i then NG i else GG (b * 40 + i)) = mg
    generalize hml : (if f = 1 ∨ NL i < LL (b * 40 + i) then NL i else LL (b * 40 + i)) = ml
    have mgW : mg ≤ W := by rw [← hmg]; split <;> omega
    have mlW : ml ≤ W := by rw [← hml]; split <;> omega
    have J221 : ∀ o, o = jnA f b GG LL NG NL (i + 1) → jn_X4_meet_221 (nI b) (nI i) (nI (b * 40 + i)) (enc W mg) (enc W ml) (nI n) (rep cm) (repE W (jnG f b GG NG i)) (repE W (jnL f b LL NL i)) (repE W NG) (repE W NL) (nI o) (lp_X4_meet_17 (nI b) (nI n) (rep cm) (repE W NG) (repE W NL) Q (d + 1)) Q := by
      intro o ho
      subst ho
      unfold jn_X4_meet_221
      rw [ck, repE_upd, repE_upd]
      refine ⟨ik, ik, ?_⟩
      rw [← hmg, ← hml, jnG_nx, jnL_nx]
      exact nx
    have J186 : jn_X4_meet_186 (nI b) (nI (jnA f b GG LL NG NL i)) (nI i) (nI (b * 40 + i)) (enc W mg) (nI n) (rep cm) (repE W (jnG f b GG NG i)) (repE W (jnL f b LL NL i)) (repE W NG) (repE W NL) (enc W ml) (lp_X4_meet_17 (nI b) (nI n) (rep cm) (repE W NG) (repE W NL) Q (d + 1)) Q := by
      unfold jn_X4_meet_186
      rw [ck, repE_at, repE_at, jnG_at, jnL_at]
      refine ⟨fun q => J221 1 ?_, fun q => ⟨ik, fun q2 => J221 1 ?_, fun q2 => ⟨ik, fun q3 => J221 0 ?_, fun q3 => J221 1 ?_⟩⟩⟩
      · have : ¬ jnA f b GG LL NG NL i = 0 := fun z => q (by rw [z]; exact nI_0)
        rw [nxA]
        split <;> omega
      · have : ¬ mg = GG (b * 40 + i) := fun z => q2 (by rw [z])
        rw [nxA, if_pos]
        by_cases c : f = 1 ∨ GG (b * 40 + i) < NG i
        · rcases c with c | c
          · exact Or.inl c
          · exact Or.inr (Or.inl c)
        · rw [if_neg c] at hmg
          exact absurd hmg.symm this
      · have q : jnA f b GG LL NG NL i = 0 := (nI_eq (by omega) (by decide)).mp (show nI _ = nI 0 from q)
        have e2 := enc_inj hW mgW b1 q2
        have e3 := enc_inj hW mlW b3 q3
        have f0 := (jnA_0 i q).1
        rw [nxA, if_neg, q]
        intro c
        rcases c with c | c | c
        · omega
        · rw [if_pos (Or.inr c)] at hmg
          omega
        · rw [if_pos (Or.inr c)] at hml
          omega
      · have : ¬ ml = LL (b * 40 + i) := fun z => q3 (by rw [z])
        rw [nxA, if_pos]
        by_cases c : f = 1 ∨ NL i < LL (b * 40 + i)
        · rcases c with c | c
          · exact Or.inl c
          · exact Or.inr (Or.inr c)
        · rw [if_neg c] at hml
          exact absurd hml.symm this
    have J106 : jn_X4_meet_106 (nI b) (nI (jnA f b GG LL NG NL i)) (nI i) (nI (b * 40 + i)) (nI n) (rep cm) (repE W (jnG f b GG NG i)) (repE W (jnL f b LL NL i)) (repE W NG) (repE W NL) (enc W mg) (lp_X4_meet_17 (nI b) (nI n) (rep cm) (repE W NG) (repE W NL) Q (d + 1)) Q := by
      have to : ∀ v : Int32, v = enc W ml → jn_X4_meet_186 (nI b) (nI (jnA f b GG LL NG NL i)) (nI i) (nI (b * 40 + i)) (enc W mg) (nI n) (rep cm) (repE W (jnG f b GG NG i)) (repE W (jnL f b LL NL i)) (repE W NG) (repE W NL) v (lp_X4_meet_17 (nI b) (nI n) (rep cm) (repE W NG) (repE W NL) Q (d + 1)) Q := fun v hv => by rw [hv]; exact J186
      unfold jn_X4_meet_106
      rw [cb, rep_at cm, ck, ci, repE_at W (jnL f b LL NL i), repE_at W NL, jnL_at]
      refine ⟨ib, fun q => ⟨ik, fun q1 => ⟨ii, fun q2 => ⟨ik, to _ ?_⟩, fun q2 => ⟨ik, ii, fun q3 => ⟨ii, to _ ?_⟩, fun q3 => ⟨ik, to _ ?_⟩⟩⟩, fun q1 => ⟨ii, to _ ?_⟩⟩, fun q => ⟨ii, to _ ?_⟩⟩
      · have : ¬ cm b = 0 := fun z => q (c0.mpr z)
        have q2 := (enc_neg hW).mp q2
        rw [if_neg (by omega)] at hml
        rw [hml]
      · have : ¬ cm b = 0 := fun z => q (c0.mpr z)
        have q1 := (enc_pos hW).mp q1
        have q2 : ¬ W ≤ NL i := fun z => q2 ((enc_neg hW).mpr z)
        rw [enc_in (by omega), enc_in q1] at q3
        have q3 := (nI_leI (by omega) (by omega)).mp q3
        congr 1
        rw [← hml]
        split <;> omega
      · have : ¬ cm b = 0 := fun z => q (c0.mpr z)
        have q1 := (enc_pos hW).mp q1
        have q2 : ¬ W ≤ NL i := fun z => q2 ((enc_neg hW).mpr z)
        rw [enc_in (show NL i < W by omega), enc_in q1] at q3
        have q3 : ¬ NL i ≤ LL (b * 40 + i) := fun z => q3 ((nI_leI (by omega) (by omega)).mpr z)
        congr 1
        rw [← hml]
        split <;> omega
      · have q1 : ¬ LL (b * 40 + i) < W := fun z => q1 ((enc_pos hW).mpr z)
        congr 1
        rw [← hml]
        split <;> omega
      · have q := c0.mp q
        rw [if_pos (Or.inl (by omega))] at hml
        rw [hml]
    have to : ∀ v : Int32, v = enc W mg → jn_X4_meet_106 (nI b) (nI (jnA f b GG LL NG NL i)) (nI i) (nI (b * 40 + i)) (nI n) (rep cm) (repE W (jnG f b GG NG i)) (repE W (jnL f b LL NL i)) (repE W NG) (repE W NL) v (lp_X4_meet_17 (nI b) (nI n) (rep cm) (repE W NG) (repE W NL) Q (d + 1)) Q := fun v hv => by rw [hv]; exact J106
    unfold lp_X4_meet_17
    rw [cb, rep_at cm, nI_40m, nI_add, ck, ci, repE_at W (jnG f b GG NG i), repE_at W NG, jnG_at]
    refine ⟨fun q => absurd q (nI_ge hin (by omega)), fun _ => ⟨ib, fun q => ⟨ik, fun q1 => to _ ?_, fun q1 => ⟨ii, fun q2 => ⟨ik, ii, fun q3 => ⟨ii, to _ ?_⟩, fun q3 => ⟨ik, to _ ?_⟩⟩, fun q2 => to _ ?_⟩⟩, fun q => ⟨ii, to _ ?_⟩⟩⟩
    · have : ¬ cm b = 0 := fun z => q (c0.mpr z)
      have q1 := (enc_neg hW).mp q1
      rw [← hmg, if_neg (by omega), enc_out q1]
    · have : ¬ cm b = 0 := fun z => q (c0.mpr z)
      have q1 : ¬ W ≤ GG (b * 40 + i) := fun z => q1 ((enc_neg hW).mpr z)
      have q2 := (enc_pos hW).mp q2
      rw [enc_in (show GG (b * 40 + i) < W by omega), enc_in q2] at q3
      have q3 := (nI_leI (by omega) (by omega)).mp q3
      congr 1
      rw [← hmg]
      split <;> omega
    · have : ¬ cm b = 0 := fun z => q (c0.mpr z)
      have q1 : ¬ W ≤ GG (b * 40 + i) := fun z => q1 ((enc_neg hW).mpr z)
      have q2 := (enc_pos hW).mp q2
      rw [enc_in (show GG (b * 40 + i) < W by omega), enc_in q2] at q3
      have q3 : ¬ GG (b * 40 + i) ≤ NG i := fun z => q3 ((nI_leI (by omega) (by omega)).mpr z)
      congr 1
      rw [← hmg]
      split <;> omega
    · have q1 : ¬ W ≤ GG (b * 40 + i) := fun z => q1 ((enc_neg hW).mpr z)
      have q2 : ¬ NG i < W := fun z => q2 ((enc_pos hW).mpr z)
      rw [← hmg, if_pos (Or.inr (by omega)), enc_out (by omega)]
    · have q := c0.mp q
      rw [← hmg, if_pos (Or.inl (by omega))]
theorem sp_meet {n b W : Nat} {GG LL NG NL cm : Nat → Nat} {Q : Int32 → (Nat → Int32) → (Nat → Int32) → (Nat → Int32) → Prop} (hn : n ≤ 40) (hb : b < 40) (hcm : cm b ≤ 1) (hW : W ≤ 4) (hGG : ∀ k, GG k ≤ W) (hLL : ∀ k, LL k ≤ W) (hNG : ∀ k, NG k ≤ W) (hNL : ∀ k, NL k ≤ W)
    (h : Q (nI (jnA (1 - cm b) b GG LL NG NL n)) (rep (fun j => if j = b then 1 else cm j)) (repE W (jnG (1 - cm b) b GG NG n)) (repE W (jnL (1 - cm b) b LL NL n))) :
    wp_X4_meet (nI b) (nI n) (rep cm) (repE W GG) (repE W LL) (repE W NG) (repE W NL) Q := by
  have cb : (nI b).toNatClampNeg = b := nI_clamp (by omega)
  have ib : vp_in (nI b) 40 := vp_in_nI (by omega) (by decide)
  have c0 : nI (cm b) = 0 ↔ cm b = 0 := by rw [← nI_0]; exact nI_eq (by omega) (by decide)
  have k := sp_meet_loop (f := 1 - cm b) hn hb hcm rfl hW hGG hLL hNG hNL h n 0 (by omega)
  have e1 : jnG (1 - cm b) b GG NG 0 = GG := by funext j; unfold jnG; rw [if_neg (by omega)]
  have e2 : jnL (1 - cm b) b LL NL 0 = LL := by funext j; unfold jnL; rw [if_neg (by omega)]
  rw [e1, e2, nI_0] at k
  unfold wp_X4_meet
  rw [cb, rep_at cm]
  refine ⟨ib, fun q => ⟨n + 1, ?_⟩, fun q => ⟨n + 1, ?_⟩⟩
  · have : ¬ cm b = 0 := fun z => q (c0.mpr z)
    have e : jnA (1 - cm b) b GG LL NG NL 0 = 0 := by show 1 - cm b = 0; omega
    rw [e] at k
    exact k
  · have := c0.mp q
    have e : jnA (1 - cm b) b GG LL NG NL 0 = 1 := by show 1 - cm b = 1; omega
    rw [e] at k
    exact k
