section GOES
variable {B E P : Nat} {bn cm fr to pa pb cu fu tH tL r Wo Be : Nat → Nat} {MT LT : Nat → Int64}
theorem sp_goes0 {p : Nat} {Q : Int32 → Prop} (hB0 : 0 < B) (hp : sgP B E P bn fr to pa pb) (hN : nR B E P bn pa pb ≤ 40000) (hu : unR B E P bn pa pb cu fu) (hMT : ∀ b, b < B → MT b = lN (tH b) ∧ LT b = lN (tL b)) (hT : ∀ b, b < B → tH b ≤ tMx ∧ tL b ≤ tMx)
    (hK : wkI B E P bn pa pb cm fr to tH tL r Wo Be) (hpn : p < nR B E P bn pa pb) (hw : Wo p ≠ 0)
    (h : ∀ r, isLow (goR B P bn pa pb fr to tH (fun s => Wo s - 1) p) E r → Q (encE E r)) :
    wp_X4_goesOn (nI p) 0 (nI B) (nI E) (nI P) (rep fr) (rep to) (rpB bn) (rep pa) (rep pb) MT LT (rep cu) (rep fu) (repW Wo) (repL Be) Q := by
  have hp2 := id hp
  obtain ⟨⟨hB, hE, hP⟩, hft, hbn, hpp⟩ := hp2
  have pm : p % B < B := Nat.mod_lt _ hB0
  have cp : (nI p).toNatClampNeg = p := nI_clamp (by omega)
  have cb : (nI (p % B)).toNatClampNeg = p % B := nI_clamp (by omega)
  have ip : vp_in (nI p) 40000 := vp_in_nI (by omega) (by decide)
  have ib : vp_in (nI (p % B)) 40 := vp_in_nI (by omega) (by decide)
  have tt := (hT _ pm).1
  have tm : tMx < 2 ^ 31 := by decide
  have nw : ∀ s, Wo s ≠ 0 → lW (Wo s) = lE (Wo s - 1) := fun s w => by
    have := lW_s (Wo s - 1)
    rw [Nat.sub_add_cancel (by omega)] at this
    exact this
  have LP : ∀ d e, e + d = E → (∀ x, x < e → ¬ goR B P bn pa pb fr to tH (fun s => Wo s - 1) p x) → lp_X4_goesOn_10 (nI p) 0 (nI (p % B)) (nI B) (nI E) (nI P) (rep fr) (rep to) (rpB bn) (rep pa) (rep pb) MT LT (rep cu) (rep fu) (repW Wo) (repL Be) Q (d + 1) (nI e) := by
    intro d
    induction d with
    | zero =>
      intro e he hno
      have z : e = E := by omega
      subst z
      unfold lp_X4_goesOn_10
      refine ⟨fun _ => ?_, fun q => absurd (nI_le (Nat.le_refl _) (by omega)) q⟩
      have := h e (Or.inl ⟨rfl, hno⟩)
      unfold encE at this
      rw [if_neg (by omega)] at this
      exact this
    | succ d ih =>
      intro e he hno
      have hlt : e < E := by omega
      obtain ⟨f1, f2⟩ := hft e hlt
      have ce : (nI e).toNatClampNeg = e := nI_clamp (by omega)
      have eb : nI (fr e) = nI (p % B) ↔ fr e = p % B := nI_eq (by omega) (by omega)
      have go : ¬ goR B P bn pa pb fr to tH (fun s => Wo s - 1) p e → lp_X4_goesOn_10 (nI p) 0 (nI (p % B)) (nI B) (nI E) (nI P) (rep fr) (rep to) (rpB bn) (rep pa) (rep pb) MT LT (rep cu) (rep fu) (repW Wo) (repL Be) Q (d + 1) (nI (e + 1)) := fun w => ih (e + 1) (by omega) (fun x hx => by
        by_cases z : x = e
        · rw [z]; exact w
        · exact hno x (by omega))
      have JN : ∀ s, ¬ goR B P bn pa pb fr to tH (fun s => Wo s - 1) p e → jn_X4_goesOn_92 (nI p) 0 (nI (p % B)) (nI e) s (nI B) (nI E) (nI P) (rep fr) (rep to) (rpB bn) (rep pa) (rep pb) MT LT (rep cu) (rep fu) (repW Wo) (repL Be) (lp_X4_goesOn_10 (nI p) 0 (nI (p % B)) (nI B) (nI E) (nI P) (rep fr) (rep to) (rpB bn) (rep pa) (rep pb) MT LT (rep cu) (rep fu) (repW Wo) (repL Be) Q (d + 1)) Q := fun s w => by
        unfold jn_X4_goesOn_92
        rw [nI_1]
        exact ⟨fun _ => go w, fun q => absurd q (by decide)⟩
      unfold lp_X4_goesOn_10
      rw [ce, rep_at fr, eb, nI_1]
      refine ⟨fun q => absurd q (nI_ge hlt (by omega)), fun _ => ⟨vp_in_nI (by omega) (by decide), fun q => go (fun w => q w.1), fun q => ?_⟩⟩
      refine sp_allows hB0 hp hN hu hlt hpn (fun ha => ⟨fun z => absurd z (by decide), fun _ => ?_⟩) (fun ha => ⟨fun _ => go (fun w => ha w.2.1), fun z => absurd rfl z⟩)
      have bin := bhR_in hB0 hlt q.symm f2 ha hpn
      have kn := (hK.2 p hpn hw).2.1 e hlt q ha
      have b1 := hK.1 (bhR B P bn pa pb fr to p e)
      have b2 := hK.1 p
      have cs : (nI (bhR B P bn pa pb fr to p e)).toNatClampNeg = bhR B P bn pa pb fr to p e := nI_clamp (by omega)
      have is : vp_in (nI (bhR B P bn pa pb fr to p e)) 40000 := vp_in_nI (by omega) (by decide)
      refine sp_behind hB0 hp hN hu hlt hpn q ?_
      rw [cs, cp, cb, repW_at, repW_at, nw _ kn, nw _ hw, (hMT _ pm).1, lE_add, lg_lt, lg_0, lE_neg (by omega), lE_inj (by omega) (by omega)]
      refine ⟨fun q2 => absurd rfl q2, fun _ => ⟨is, fun q2 => JN _ (fun w => w.2.2.1 q2), fun q2 => ⟨is, ib, ip, fun q3 => JN _ (fun w => q3 w.2.2.2), fun q3 => ?_⟩⟩⟩
      have := h e (Or.inr ⟨hlt, ⟨q, ha, q2, q3⟩, hno⟩)
      unfold encE at this
      rw [if_pos hlt] at this
      exact this
  unfold wp_X4_goesOn
  rw [pk_rem (by omega) hB0 (by omega)]
  refine ⟨nI_ne0 hB0 (by omega), E + 1, ?_⟩
  have := LP E 0 (by omega) (fun x hx => by omega)
  rw [nI_0] at this
  exact this
theorem sp_goes1 {p : Nat} {Q : Int32 → Prop} (hB0 : 0 < B) (hp : sgP B E P bn fr to pa pb) (hN : nR B E P bn pa pb ≤ 40000) (hu : unR B E P bn pa pb cu fu) (hMT : ∀ b, b < B → MT b = lN (tH b) ∧ LT b = lN (tL b)) (hT : ∀ b, b < B → tH b ≤ tMx ∧ tL b ≤ tMx)
    (hK : wkI B E P bn pa pb cm fr to tH tL r Wo Be) (hpn : p < nR B E P bn pa pb) (hw : Wo p ≠ 0)
    (h : ∀ r, isLow (goR B P bn pa pb fr to tL Be p) E r → Q (encE E r)) :
    wp_X4_goesOn (nI p) 1 (nI B) (nI E) (nI P) (rep fr) (rep to) (rpB bn) (rep pa) (rep pb) MT LT (rep cu) (rep fu) (repW Wo) (repL Be) Q := by
  have hp2 := id hp
  obtain ⟨⟨hB, hE, hP⟩, hft, hbn, hpp⟩ := hp2
  have pm : p % B < B := Nat.mod_lt _ hB0
  have cp : (nI p).toNatClampNeg = p := nI_clamp (by omega)
  have cb : (nI (p % B)).toNatClampNeg = p % B := nI_clamp (by omega)
  have ip : vp_in (nI p) 40000 := vp_in_nI (by omega) (by decide)
  have ib : vp_in (nI (p % B)) 40 := vp_in_nI (by omega) (by decide)
  have tt := (hT _ pm).2
  have tm : tMx < 2 ^ 31 := by decide
  have LP : ∀ d e, e + d = E → (∀ x, x < e → ¬ goR B P bn pa pb fr to tL Be p x) → lp_X4_goesOn_10 (nI p) 1 (nI (p % B)) (nI B) (nI E) (nI P) (rep fr) (rep to) (rpB bn) (rep pa) (rep pb) MT LT (rep cu) (rep fu) (repW Wo) (repL Be) Q (d + 1) (nI e) := by
    intro d
    induction d with
    | zero =>
      intro e he hno
      have z : e = E := by omega
      subst z
      unfold lp_X4_goesOn_10
      refine ⟨fun _ => ?_, fun q => absurd (nI_le (Nat.le_refl _) (by omega)) q⟩
      have := h e (Or.inl ⟨rfl, hno⟩)
      unfold encE at this
      rw [if_neg (by omega)] at this
      exact this
    | succ d ih =>
      intro e he hno
      have hlt : e < E := by omega
      obtain ⟨f1, f2⟩ := hft e hlt
      have ce : (nI e).toNatClampNeg = e := nI_clamp (by omega)
      have eb : nI (fr e) = nI (p % B) ↔ fr e = p % B := nI_eq (by omega) (by omega)
      have go : ¬ goR B P bn pa pb fr to tL Be p e → lp_X4_goesOn_10 (nI p) 1 (nI (p % B)) (nI B) (nI E) (nI P) (rep fr) (rep to) (rpB bn) (rep pa) (rep pb) MT LT (rep cu) (rep fu) (repW Wo) (repL Be) Q (d + 1) (nI (e + 1)) := fun w => ih (e + 1) (by omega) (fun x hx => by
        by_cases z : x = e
        · rw [z]; exact w
        · exact hno x (by omega))
      unfold lp_X4_goesOn_10
      rw [ce, rep_at fr, eb, nI_1]
      refine ⟨fun q => absurd q (nI_ge hlt (by omega)), fun _ => ⟨vp_in_nI (by omega) (by decide), fun q => go (fun w => q w.1), fun q => ?_⟩⟩
      refine sp_allows hB0 hp hN hu hlt hpn (fun ha => ⟨fun z => absurd z (by decide), fun _ => ?_⟩) (fun ha => ⟨fun _ => go (fun w => ha w.2.1), fun z => absurd rfl z⟩)
      have bin := bhR_in hB0 hlt q.symm f2 ha hpn
      have b1 := hK.1 (bhR B P bn pa pb fr to p e)
      have b2 := hK.1 p
      have cs : (nI (bhR B P bn pa pb fr to p e)).toNatClampNeg = bhR B P bn pa pb fr to p e := nI_clamp (by omega)
      have is : vp_in (nI (bhR B P bn pa pb fr to p e)) 40000 := vp_in_nI (by omega) (by decide)
      refine sp_behind hB0 hp hN hu hlt hpn q ?_
      refine ⟨fun _ => ?_, fun q2 => absurd q2 (by decide)⟩
      unfold jn_X4_goesOn_92
      rw [cs, cp, cb, repL_at, repL_at, (hMT _ pm).2, lE_add, lg_lt, lg_0, lE_neg (by omega), lE_inj (by omega) (by omega), nI_1]
      refine ⟨fun q2 => absurd rfl q2, fun _ => ⟨is, fun q2 => go (fun w => w.2.2.1 q2), fun q2 => ⟨is, ib, ip, fun q3 => go (fun w => q3 w.2.2.2), fun q3 => ?_⟩⟩⟩
      have := h e (Or.inr ⟨hlt, ⟨q, ha, q2, q3⟩, hno⟩)
      unfold encE at this
      rw [if_pos hlt] at this
      exact this
  unfold wp_X4_goesOn
  rw [pk_rem (by omega) hB0 (by omega)]
  refine ⟨nI_ne0 hB0 (by omega), E + 1, ?_⟩
  have := LP E 0 (by omega) (fun x hx => by omega)
  rw [nI_0] at this
  exact this
theorem sp_mway {k : Nat} {what th sets ways pen li fs an : Int32} {t X : Nat → Nat} {ti tc ts line cm' gg ll ng nl dz stk : Nat → Int32} {Q : Int32 → Int32 → Int32 → Int32 → (Nat → Int32) → (Nat → Int32) → (Nat → Int32) → (Nat → Int32) → (Nat → Int32) → (Nat → Int32) → (Nat → Int64) → (Nat → Int64) → (Nat → Int32) → (Nat → Int32) → (Nat → Int64) → (Nat → Int64) → (Nat → Int32) → Prop} (hB0 : 0 < B) (hp : sgP B E P bn fr to pa pb) (hN : nR B E P bn pa pb ≤ 40000) (hu : unR B E P bn pa pb cu fu) (hK : wkI B E P bn pa pb cm fr to tH tL r Wo Be) (hw0 : Wo 0 ≠ 0) (hk : k < 2 ^ 31)
    (GOES : ∀ p (Q' : Int32 → Prop), p < nR B E P bn pa pb → Wo p ≠ 0 → (∀ r, isLow (goR B P bn pa pb fr to t X p) E r → Q' (encE E r)) → wp_X4_goesOn (nI p) what (nI B) (nI E) (nI P) (rep fr) (rep to) (rpB bn) (rep pa) (rep pb) MT LT (rep cu) (rep fu) (repW Wo) (repL Be) Q')
    (h : ∀ r, wayR B E P bn pa pb fr to t X k 0 r → Q (encE E r) th fs an cm' gg ll ng nl dz MT LT (rep cu) (rep fu) (repW Wo) (repL Be) stk) :
    wp_X4_goesOn 0 what (nI B) (nI E) (nI P) (rep fr) (rep to) (rpB bn) (rep pa) (rep pb) MT LT (rep cu) (rep fu) (repW Wo) (repL Be) (fun r_34 => ∃ k42, lp_X4_way_42 what (nI k) th sets ways pen (nI B) (nI E) (nI P) li fs an ti tc ts line (rep fr) (rep to) (rpB bn) (rep pa) (rep pb) cm' gg ll ng nl dz MT LT (rep cu) (rep fu) (repW Wo) (repL Be) stk Q k42 0 r_34 0) := by
  have hp2 := id hp
  obtain ⟨⟨hB, hE, hP⟩, hft, hbn, hpp⟩ := hp2
  have n0 : 0 < nR B E P bn pa pb := Nat.mul_pos (Nat.mul_pos hB0 (prN_pos (kc_pos bn) E)) (prN_pos (kf_pos P pa pb) E)
  have LP : ∀ d i, i + d = k → ∀ p e, p < nR B E P bn pa pb → Wo p ≠ 0 → isLow (goR B P bn pa pb fr to t X p) E e → (∀ r, wayR B E P bn pa pb fr to t X (k - i) p r → Q (encE E r) th fs an cm' gg ll ng nl dz MT LT (rep cu) (rep fu) (repW Wo) (repL Be) stk) →
      lp_X4_way_42 what (nI k) th sets ways pen (nI B) (nI E) (nI P) li fs an ti tc ts line (rep fr) (rep to) (rpB bn) (rep pa) (rep pb) cm' gg ll ng nl dz MT LT (rep cu) (rep fu) (repW Wo) (repL Be) stk Q (d + 1) (nI p) (encE E e) (nI i) := by
    intro d
    induction d with
    | zero =>
      intro i hi p e hp hw he hh
      have z : i = k := by omega
      subst z
      unfold lp_X4_way_42
      exact ⟨fun _ => hh e (by rw [Nat.sub_self]; exact he), fun q => absurd (nI_le (Nat.le_refl _) (by omega)) q⟩
    | succ d ih =>
      intro i hi p e hpn hw he hh
      have e1 : k - i = (k - (i + 1)) + 1 := by omega
      rw [e1] at hh
      unfold lp_X4_way_42
      refine ⟨fun q => absurd q (nI_ge (by omega) (by omega)), fun _ => ?_⟩
      rcases he with ⟨w1, w2⟩ | ⟨w1, w2, w3⟩
      · have ee : encE E e = -1 := by unfold encE; rw [if_neg (by omega)]
        rw [ee]
        refine ⟨fun _ => ?_, fun q => absurd (show (-1 : Int32) < 0 by decide) q⟩
        have := hh e ⟨e, Or.inl ⟨w1, w2⟩, Or.inl ⟨w1, w1⟩⟩
        rw [ee] at this
        exact this
      · have ee : encE E e = nI e := by unfold encE; rw [if_pos w1]
        rw [ee, nI_1]
        refine ⟨fun q => absurd q (nI_pos (by omega)), fun _ => ?_⟩
        have bin := bhR_in hB0 w1 w2.1.symm (hft e w1).2 w2.2.1 hpn
        have kn := (hK.2 p hpn hw).2.1 e w1 w2.1 w2.2.1
        refine sp_behind hB0 hp hN hu w1 hpn w2.1 ?_
        refine GOES _ _ bin kn (fun e' he' => ?_)
        exact ih (i + 1) (by omega) _ e' bin kn he' (fun r hr => hh r ⟨e, Or.inr ⟨w1, w2, w3⟩, Or.inr ⟨w1, hr⟩⟩)
  rw [← nI_0]
  refine GOES 0 _ n0 hw0 (fun e he => ⟨k + 1, ?_⟩)
  exact LP k 0 (by omega) 0 e n0 hw0 he (fun r hr => h r hr)
end GOES
