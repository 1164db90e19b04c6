def wkF (B E P : Nat) (bn pa pb cm fr to tH tL r Wo Be : Nat → Nat) (p : Nat) : Prop := eqR B E P bn pa pb fr to tH tL Wo Be p ∧ (∀ e, e < E → fr e = p % B → alR B P bn pa pb p e → Wo (bhR B P bn pa pb fr to p e) ≠ 0) ∧ cm (p % B) = 1 ∧ Wo p - 1 ≤ 1 + (nR B E P bn pa pb - rkR B r p) * tMx ∧ Be p ≤ 1 + (nR B E P bn pa pb - rkR B r p) * tMx
def wkI (B E P : Nat) (bn pa pb cm fr to tH tL r Wo Be : Nat → Nat) : Prop := (∀ s, Wo s < 2 ^ 61 ∧ Be s < 2 ^ 61) ∧ ∀ p, p < nR B E P bn pa pb → Wo p ≠ 0 → wkF B E P bn pa pb cm fr to tH tL r Wo Be p
theorem rkR_lt' {B E P p : Nat} {bn pa pb r : Nat → Nat} (hB : 0 < B) (hp : p < nR B E P bn pa pb) : rkR B r p < nR B E P bn pa pb := by
  have e := nC_R B E P bn pa pb
  rw [← e] at hp ⊢
  rw [Nat.mul_comm] at hp
  exact rkR_lt hB hp
theorem wk_pop {B E P : Nat} {bn pa pb cm fr to tH tL r Wo Be : Nat → Nat} {p vM vF : Nat} (hB : 0 < B) (hN : nR B E P bn pa pb ≤ 40000) (hft : ∀ e, e < E → fr e < B ∧ to e < B) (hT : ∀ b, b < B → tH b ≤ tMx ∧ tL b ≤ tMx) (hr : acR B E bn cm fr to r)
    (hK : wkI B E P bn pa pb cm fr to tH tL r Wo Be) (hp : p < nR B E P bn pa pb) (hw : Wo p = 0) (hc : cm (p % B) = 1) (hs : ∀ e, e < E → fr e = p % B → alR B P bn pa pb p e → Wo (bhR B P bn pa pb fr to p e) ≠ 0)
    (hv : eqV (fun e => e < E ∧ fr e = p % B ∧ alR B P bn pa pb p e) (fun e => Wo (bhR B P bn pa pb fr to p e) - 1) (fun e => Be (bhR B P bn pa pb fr to p e)) (endZ E fr (p % B)) (tH (p % B)) (tL (p % B)) vM vF) :
    wkI B E P bn pa pb cm fr to tH tL r (fun j => if j = p then vM + 1 else Wo j) (fun j => if j = p then vF else Be j) := by
  obtain ⟨hb, hk⟩ := hK
  have pm : p % B < B := Nat.mod_lt _ hB
  have zz : endZ E fr (p % B) ≤ 1 := by unfold endZ; split <;> omega
  have rp := rkR_lt' (r := r) hB hp
  have suc : ∀ e, e < E ∧ fr e = p % B ∧ alR B P bn pa pb p e → wkF B E P bn pa pb cm fr to tH tL r Wo Be (bhR B P bn pa pb fr to p e) ∧ rkR B r p < rkR B r (bhR B P bn pa pb fr to p e) := by
    rintro e ⟨he, hf, ha⟩
    exact ⟨hk _ (bhR_in hB he hf.symm (hft e he).2 ha hp) (hs e he hf ha), rkR_st hr he hf.symm (hft e he).2 (by rw [hf]; exact hc)⟩
  obtain ⟨l1, l2⟩ := eqV_le (D := (nR B E P bn pa pb - rkR B r p - 1) * tMx) (T := tMx) hv zz (fun e he => by
      obtain ⟨k1, k2⟩ := suc e he
      have := k1.2.2.2.1
      have m : (nR B E P bn pa pb - rkR B r (bhR B P bn pa pb fr to p e)) * tMx ≤ (nR B E P bn pa pb - rkR B r p - 1) * tMx := Nat.mul_le_mul_right _ (by omega)
      show Wo _ - 1 ≤ _
      omega) (fun e he => by
      obtain ⟨k1, k2⟩ := suc e he
      have := k1.2.2.2.2
      have m : (nR B E P bn pa pb - rkR B r (bhR B P bn pa pb fr to p e)) * tMx ≤ (nR B E P bn pa pb - rkR B r p - 1) * tMx := Nat.mul_le_mul_right _ (by omega)
      show Be _ ≤ _
      omega) (hT _ pm).1 (hT _ pm).2
  have em : (nR B E P bn pa pb - rkR B r p - 1) * tMx + tMx = (nR B E P bn pa pb - rkR B r p) * tMx := by
    rw [← Nat.succ_mul]
    congr 1
    omega
  have sm : (nR B E P bn pa pb - rkR B r p) * tMx ≤ 40000 * tMx := Nat.mul_le_mul_right _ (by omega)
  have t4 := tMx_40
  refine ⟨fun s => ?_, fun q hq hwq => ?_⟩
  · have := hb s
    show (if s = p then vM + 1 else Wo s) < 2 ^ 61 ∧ (if s = p then vF else Be s) < 2 ^ 61
    constructor <;> (split <;> omega)
  · have hwq : (if q = p then vM + 1 else Wo q) ≠ 0 := hwq
    unfold wkF eqR
    by_cases z : q = p
    · subst z
      have ne : ∀ e, e < E ∧ fr e = q % B ∧ alR B P bn pa pb q e → bhR B P bn pa pb fr to q e ≠ q := fun e ⟨he, hf, ha⟩ w => hs e he hf ha (by rw [w]; exact hw)
      simp only [if_true]
      refine ⟨eqV_cg (by rw [Nat.add_sub_cancel]; exact hv) (fun e he => by show _ = (if _ then _ else _) - 1; rw [if_neg (ne e he)]) (fun e he => by show _ = if _ then _ else _; rw [if_neg (ne e he)]), fun e he hf ha => ?_, hc, by omega, by omega⟩
      rw [if_neg (ne e ⟨he, hf, ha⟩)]
      exact hs e he hf ha
    · rw [if_neg z] at hwq
      obtain ⟨k1, k2, k3, k4, k5⟩ := hk q hq hwq
      have ne : ∀ e, e < E ∧ fr e = q % B ∧ alR B P bn pa pb q e → bhR B P bn pa pb fr to q e ≠ p := fun e ⟨he, hf, ha⟩ w => k2 e he hf ha (by rw [w]; exact hw)
      simp only [if_neg z]
      refine ⟨eqV_cg k1 (fun e he => by show _ = (if _ then _ else _) - 1; rw [if_neg (ne e he)]) (fun e he => by show _ = if _ then _ else _; rw [if_neg (ne e he)]), fun e he hf ha => ?_, k3, k4, k5⟩
      rw [if_neg (ne e ⟨he, hf, ha⟩)]
      exact k2 e he hf ha
def kBg : Nat := 40002
def skI (B E P : Nat) (bn pa pb cm r Wo st : Nat → Nat) (n : Nat) : Prop := (∀ i, i < n → st i < nR B E P bn pa pb ∧ cm (st i % B) = 1 ∧ Wo (st i) = 0 ∧ i ≤ rkR B r (st i)) ∧ (∀ i j, i < j → j < n → rkR B r (st i) < rkR B r (st j)) ∧ (0 < n → st 0 = 0) ∧ (n = 0 → Wo 0 ≠ 0)
def seR (B E P : Nat) (bn pa pb cm fr to tH tL cu fu Wo Be : Nat → Nat) (an : Nat) : Prop :=
  (an = 1 ∧ 0 < B ∧ nR B E P bn pa pb ≤ 40000 ∧ (∃ r, acR B E bn cm fr to r ∧ wkI B E P bn pa pb cm fr to tH tL r Wo Be) ∧ unR B E P bn pa pb cu fu ∧ Wo 0 ≠ 0 ∧ Wo 0 - 1 ≠ 0) ∨
  (an = 0 ∧ (B = 0 ∨ 40000 < nR B E P bn pa pb ∨ (¬ ∃ r, acR B E bn cm fr to r) ∨ (nR B E P bn pa pb ≤ 40000 ∧ ∃ r Wo Be, acR B E bn cm fr to r ∧ wkI B E P bn pa pb cm fr to tH tL r Wo Be ∧ Wo 0 ≠ 0 ∧ Wo 0 - 1 = 0)))
theorem sp_findWays {B E P : Nat} {an0 : Int32} {bn cm fr to pa pb cu0 fu0 tH tL Wo0 Be0 st0 : Nat → Nat} {MT LT : Nat → Int64} {Q : Int32 → (Nat → Int32) → (Nat → Int32) → (Nat → Int64) → (Nat → Int64) → (Nat → Int32) → Prop} (hp : sgP B E P bn fr to pa pb) (hcm : ∀ b, cm b ≤ 1) (hc0 : 0 < B → cm 0 = 1) (hcl : ∀ e, e < E → cm (fr e) = 1 → cm (to e) = 1)
    (hMT : ∀ b, b < B → MT b = lN (tH b) ∧ LT b = lN (tL b)) (hT : ∀ b, b < B → tH b ≤ tMx ∧ tL b ≤ tMx) (hW0 : ∀ s, Wo0 s < 2 ^ 61 ∧ Be0 s < 2 ^ 61)
    (h : ∀ an cu fu Wo Be st, an ≤ 1 → (∀ s, Wo s < 2 ^ 61 ∧ Be s < 2 ^ 61) → seR B E P bn pa pb cm fr to tH tL cu fu Wo Be an → Q (nI an) (rep cu) (rep fu) (repW Wo) (repL Be) (rep st)) :
    wp_X4_findWays (nI B) (nI E) (nI P) an0 (rep fr) (rep to) (rpB bn) (rep pa) (rep pb) (rep cm) MT LT (rep cu0) (rep fu0) (repW Wo0) (repL Be0) (rep st0) Q := by
  have hp2 := id hp
  obtain ⟨⟨hB, hE, hP⟩, hft, hbn, hpp⟩ := hp2
  have c00 : (0 : Int32).toNatClampNeg = 0 := by decide
  unfold wp_X4_findWays
  have GO : ∀ cu fu st, 0 < B → nR B E P bn pa pb ≤ 40000 → unR B E P bn pa pb cu fu → ∀ r, acR B E bn cm fr to r → ∃ k42, lp_X4_findWays_42 (nI (nR B E P bn pa pb)) (nI B) (nI E) (nI P) 1 (rep fr) (rep to) (rpB bn) (rep pa) (rep pb) (rep cm) MT LT (rep cu) (rep fu) (repL Be0) (rep st) Q k42 0 (repW Wo0) := by
    intro cu fu st hB0 hN hu r hr
    have n0 : 0 < nR B E P bn pa pb := Nat.mul_pos (Nat.mul_pos hB0 (prN_pos (kc_pos bn) E)) (prN_pos (kf_pos P pa pb) E)
    have L71 : ∀ M Wo Be st n, wkI B E P bn pa pb cm fr to tH tL r Wo Be → skI B E P bn pa pb cm r Wo st n → n ≤ 40000 → sumN (fun p => if Wo p = 0 then 1 else 0) (nR B E P bn pa pb) * kBg + (40000 - n) ≤ M → lp_X4_findWays_71 (nI B) (nI E) (nI P) 1 (rep fr) (rep to) (rpB bn) (rep pa) (rep pb) (rep cm) MT LT (rep cu) (rep fu) Q (M + 1) (nI n) (repW Wo) (repL Be) (rep st) := by
      intro M
      induction M with
      | zero =>
        intro Wo Be st n hK hS hn hM
        have n4 : n = 40000 := by omega
        have : sumN (fun p => if Wo p = 0 then 1 else 0) (nR B E P bn pa pb) = 0 := by
          rcases Nat.eq_zero_or_pos (sumN (fun p => if Wo p = 0 then 1 else 0) (nR B E P bn pa pb)) with z | z
          · exact z
          · have : 0 < sumN (fun p => if Wo p = 0 then 1 else 0) (nR B E P bn pa pb) * kBg := Nat.mul_pos z (by decide)
            omega
        have z := sumN_z _ this (st 0) (hS.1 0 (by omega)).1
        have w := (hS.1 0 (by omega)).2.2.1
        simp [w] at z
      | succ M ih =>
        intro Wo Be st n hK hS hn hM
        obtain ⟨s1, s2, s3, s4⟩ := id hS
        unfold lp_X4_findWays_71
        rcases Nat.eq_zero_or_pos n with z | z
        · subst z
          have w0 := s4 rfl
          have wb := (hK.1 0).1
          have ws : lW (Wo 0) = lE (Wo 0 - 1) := by
            have := lW_s (Wo 0 - 1)
            rw [Nat.sub_add_cancel (by omega)] at this
            exact this
          rw [c00, repW_at, ws, lg_lt, lE_neg (by omega)]
          refine ⟨fun _ => ⟨vp_in_nI (n := 0) (by decide) (by decide), fun q => ?_, fun q => ?_⟩, fun q => absurd (show nI 0 ≤ 0 by decide) q⟩
          · exact h 0 cu fu Wo Be st (by omega) hK.1 (Or.inr ⟨rfl, Or.inr (Or.inr (Or.inr ⟨hN, r, Wo, Be, hr, hK, w0, q⟩))⟩)
          · exact h 1 cu fu Wo Be st (by omega) hK.1 (Or.inl ⟨rfl, hB0, hN, ⟨r, hr, hK⟩, hu, w0, q⟩)
        · obtain ⟨t1, t2, t3, t4⟩ := s1 (n - 1) (by omega)
          have dn : nI n - 1 = nI (n - 1) := pk_sub (b := 1) z
          have cn1 : (nI (n - 1)).toNatClampNeg = n - 1 := nI_clamp (by omega)
          have cn : (nI n).toNatClampNeg = n := nI_clamp (by omega)
          have rt := rkR_lt' (r := r) hB0 t1
          have m1 : nI n + (-1) = nI (n - 1) := by rw [← dn, Int32.sub_eq_add_neg]
          rw [dn, cn1, rep_at st, cn, m1, nI_1]
          refine ⟨fun q => absurd q (nI_nle z (by omega)), fun _ => ⟨vp_in_nI (by omega) (by decide), ?_⟩⟩
          refine sp_firstUnknown hB0 hp hN hu t1 (fun s => by have := (hK.1 s).1; omega) (fun e he hf ha hw => ⟨fun q => absurd q (nI_pos ?_), fun _ => ⟨vp_in_nI (by omega) (by decide), ?_⟩⟩) (fun hall => ⟨fun _ => ⟨vp_in_nI (by omega) (by decide), ?_⟩, fun q => absurd (show (-1 : Int32) < 0 by decide) q⟩)
          · have := bhR_in hB0 he hf.symm (hft e he).2 ha t1
            omega
          · -- one more
            have bi := bhR_in hB0 he hf.symm (hft e he).2 ha t1
            have rs := rkR_st (P := P) (pa := pa) (pb := pb) hr he hf.symm (hft e he).2 (by rw [hf]; exact t2)
            have rb := rkR_lt' (r := r) hB0 bi
            rw [rep_upd]
            refine ih Wo Be _ (n + 1) hK ⟨fun i hi => ?_, fun i j hij hj => ?_, fun _ => ?_, fun w => by omega⟩ (by omega) (by omega)
            · show (if i = n then _ else st i) < _ ∧ cm ((if i = n then _ else st i) % B) = 1 ∧ Wo (if i = n then _ else st i) = 0 ∧ i ≤ rkR B r (if i = n then _ else st i)
              by_cases w : i = n
              · rw [if_pos w]
                refine ⟨bi, ?_, hw, by omega⟩
                rw [bhR_mod hf.symm (hft e he).2]
                exact hcl e he (by rw [hf]; exact t2)
              · rw [if_neg w]
                exact s1 i (by omega)
            · show rkR B r (if i = n then _ else st i) < rkR B r (if j = n then _ else st j)
              rw [if_neg (by omega : ¬ i = n)]
              by_cases w : j = n
              · rw [if_pos w]
                by_cases y : i = n - 1
                · rw [y]; exact rs
                · have := s2 i (n - 1) (by omega) (by omega)
                  omega
              · rw [if_neg w]
                exact s2 i j hij (by omega)
            · show (if 0 = n then _ else st 0) = 0
              rw [if_neg (by omega)]
              exact s3 z
          · -- one less
            refine sp_workOut hB0 hp hN hu t1 hMT hT (fun e he hf ha => ⟨hall e he hf ha, (hK.1 _).1, (hK.1 _).2⟩) (fun vM vF hv => ?_)
            have hK2 := wk_pop hB0 hN hft hT hr hK t1 t3 t2 hall hv
            have su := sumN_pt (b := st (n - 1)) (f := fun p => if (if p = st (n - 1) then vM + 1 else Wo p) = 0 then 1 else 0) (g := fun p => if Wo p = 0 then 1 else 0) (nR B E P bn pa pb) t1 (fun k _ hk => by simp [hk])
            have g1 : (if Wo (st (n - 1)) = 0 then 1 else 0) = 1 := by rw [if_pos t3]
            have g2 : (if (if st (n - 1) = st (n - 1) then vM + 1 else Wo (st (n - 1))) = 0 then 1 else 0) = 0 := by simp
            rw [g1, g2] at su
            have kb : 40002 ≤ kBg := by decide
            have su2 : sumN (fun p => if Wo p = 0 then 1 else 0) (nR B E P bn pa pb) = sumN (fun p => if (if p = st (n - 1) then vM + 1 else Wo p) = 0 then 1 else 0) (nR B E P bn pa pb) + 1 := by omega
            rw [su2, Nat.succ_mul] at hM
            refine ih _ _ st (n - 1) hK2 ⟨fun i hi => ?_, fun i j hij hj => s2 i j hij (by omega), fun w => s3 z, fun w => ?_⟩ (by omega) ?_
            rotate_left 2
            · show sumN (fun p => if (if p = st (n - 1) then vM + 1 else Wo p) = 0 then 1 else 0) (nR B E P bn pa pb) * kBg + (40000 - (n - 1)) ≤ M
              omega
            · have ne : st i ≠ st (n - 1) := fun w => by have := s2 i (n - 1) (by omega) (by omega); rw [w] at this; omega
              show _ ∧ _ ∧ (if st i = st (n - 1) then vM + 1 else Wo (st i)) = 0 ∧ _
              rw [if_neg ne]
              exact s1 i (by omega)
            · show (if 0 = st (n - 1) then vM + 1 else Wo 0) ≠ 0
              have e1 : st (n - 1) = 0 := by rw [w]; exact s3 z
              rw [if_pos e1.symm]
              omega
    have L42 : ∀ d i, i + d = nR B E P bn pa pb → lp_X4_findWays_42 (nI (nR B E P bn pa pb)) (nI B) (nI E) (nI P) 1 (rep fr) (rep to) (rpB bn) (rep pa) (rep pb) (rep cm) MT LT (rep cu) (rep fu) (repL Be0) (rep st) Q (d + 1) (nI i) (repW (fun j => if j < i then 0 else Wo0 j)) := by
      intro d
      induction d with
      | zero =>
        intro i hi
        have z : i = nR B E P bn pa pb := by omega
        subst z
        unfold lp_X4_findWays_42
        rw [c00, ← nI_0, rep_upd]
        refine ⟨fun _ => ⟨vp_in_nI (by decide) (by decide), ?_⟩, fun q => absurd (nI_le (Nat.le_refl _) (by omega)) q⟩
        refine ⟨_, L71 _ _ _ _ 1 ⟨fun s => ⟨?_, (hW0 s).2⟩, fun p hp hw => ?_⟩ ⟨fun i hi => ?_, fun i j hij hj => by omega, fun _ => if_pos rfl, fun w => by omega⟩ (by omega) (Nat.le_refl _)⟩
        · have := (hW0 s).1
          show (if s < nR B E P bn pa pb then 0 else Wo0 s) < 2 ^ 61
          split <;> omega
        · exact absurd (if_pos hp) hw
        · have i0 : i = 0 := by omega
          subst i0
          show (if 0 = 0 then 0 else st 0) < _ ∧ cm ((if 0 = 0 then 0 else st 0) % B) = 1 ∧ (if (if 0 = 0 then 0 else st 0) < nR B E P bn pa pb then 0 else Wo0 _) = 0 ∧ 0 ≤ _
          simp only [if_true, Nat.zero_mod, if_pos n0]
          exact ⟨n0, hc0 hB0, trivial, Nat.zero_le _⟩
      | succ d ih =>
        intro i hi
        have hlt : i < nR B E P bn pa pb := by omega
        have ci : (nI i).toNatClampNeg = i := nI_clamp (by omega)
        unfold lp_X4_findWays_42
        rw [ci, ← lW_0, repW_upd, nI_1]
        refine ⟨fun q => absurd q (nI_ge hlt (by omega)), fun _ => ⟨vp_in_nI (by omega) (by decide), ?_⟩⟩
        have e1 : (fun j => if j = i then 0 else if j < i then 0 else Wo0 j) = (fun j => if j < i + 1 then 0 else Wo0 j) := by
          funext j
          by_cases z : j = i
          · subst z
            rw [if_pos rfl, if_pos (by omega)]
          · have : j < i ↔ j < i + 1 := by omega
            simp only [if_neg z, this]
        rw [e1]
        exact ih (i + 1) (by omega)
    have := L42 (nR B E P bn pa pb) 0 (by omega)
    have e0 : (fun j => if j < 0 then 0 else Wo0 j) = Wo0 := by
      funext j
      rw [if_neg (by omega)]
    rw [nI_0, e0] at this
    exact ⟨_, this⟩
  refine sp_countPlaces hp (fun hN cu fu hu => ⟨fun q => ⟨fun w => absurd rfl w, fun _ => ?_⟩, fun q => ?_⟩) (fun hN cu fu => ⟨fun q => ⟨fun w => absurd rfl w, fun _ => ?_⟩, fun q => ⟨fun _ => ⟨fun w => absurd rfl w, fun _ => ?_⟩, fun q2 => absurd (show (-1 : Int32) ≤ 0 by decide) q2⟩⟩)
  · have q : B = 0 := by
      rw [← nI_0] at q
      have := (nI_leI (by omega) (by decide)).mp q
      omega
    exact h 0 cu fu Wo0 Be0 st0 (by omega) hW0 (Or.inr ⟨rfl, Or.inl q⟩)
  · have hB0 : 0 < B := by
      rcases Nat.eq_zero_or_pos B with z | z
      · exact absurd (by rw [z]; decide) q
      · exact z
    have n0 : 0 < nR B E P bn pa pb := Nat.mul_pos (Nat.mul_pos hB0 (prN_pos (kc_pos bn) E)) (prN_pos (kf_pos P pa pb) E)
    refine ⟨fun q2 => absurd q2 (nI_nle n0 (by omega)), fun _ => ?_⟩
    refine sp_isRound hB hE hft hbn hcm hcl (fun st hac => ⟨fun w => absurd rfl w, fun _ => ⟨fun _ => ?_, fun w => absurd w (by decide)⟩⟩) (fun st hno => ⟨fun _ => ⟨fun w => absurd rfl w, fun _ => ?_⟩, fun w => absurd w (by decide)⟩)
    · obtain ⟨r, hr⟩ := hac
      exact GO cu fu st hB0 hN hu r hr
    · exact h 0 cu fu Wo0 Be0 st (by omega) hW0 (Or.inr ⟨rfl, Or.inr (Or.inr (Or.inl hno))⟩)
  · exact h 0 cu fu Wo0 Be0 st0 (by omega) hW0 (Or.inr ⟨rfl, Or.inr (Or.inl hN)⟩)
  · exact h 0 cu fu Wo0 Be0 st0 (by omega) hW0 (Or.inr ⟨rfl, Or.inr (Or.inl hN)⟩)
