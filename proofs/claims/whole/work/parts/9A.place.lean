theorem sp_mInPair {P e : Nat} {pa pb : Nat → Nat} {Q : Int32 → Prop} (hP : P ≤ 3) (hpp : ∀ i, i < P → pa i < 80 ∧ pb i < 80) (he : e < 80) (h1 : inP P pa pb e → Q 1) (h0 : ¬ inP P pa pb e → Q 0) : wp_X4_isInPair (nI e) (nI P) (rep pa) (rep pb) Q := by
  have e0 : ∀ x, x ≤ 1 → (nI x = 0 ↔ x = 0) := fun x hx => by rw [← nI_0]; exact nI_eq (by omega) (by decide)
  have LP : ∀ d i, i + d = P → ∀ a, a ≤ 1 → (a = 1 → inP P pa pb e) → (a = 0 → ∀ j, j < i → pa j ≠ e ∧ pb j ≠ e) → lp_X4_isInPair_4 (nI e) (nI P) (rep pa) (rep pb) Q (d + 1) (nI a) (nI i) := by
    intro d
    induction d with
    | zero =>
      intro i hi a ha a1 a0
      have z : i = P := by omega
      subst z
      unfold lp_X4_isInPair_4
      refine ⟨fun _ => ⟨nar01 ha, ?_⟩, fun q => absurd (nI_le (Nat.le_refl _) (by omega)) q⟩
      rcases (show a = 0 ∨ a = 1 by omega) with z | z
      · subst z
        refine h0 (fun ⟨j, j1, j2⟩ => ?_)
        have := a0 rfl j j1
        omega
      · subst z
        exact h1 (a1 rfl)
    | succ d ih =>
      intro i hi a ha a1 a0
      have hlt : i < P := by omega
      obtain ⟨p1, p2⟩ := hpp i hlt
      have ci : (nI i).toNatClampNeg = i := nI_clamp (by omega)
      have ii : vp_in (nI i) 3 := vp_in_nI (by omega) (by decide)
      have ea : nI (pa i) = nI e ↔ pa i = e := nI_eq (by omega) (by omega)
      have eb : nI (pb i) = nI e ↔ pb i = e := nI_eq (by omega) (by omega)
      unfold lp_X4_isInPair_4
      rw [ci, rep_at, rep_at, ea, eb, e0 a ha, nI_1]
      refine ⟨fun q => absurd q (nI_ge hlt (by omega)), fun _ => ⟨fun q => ih (i + 1) (by omega) 1 (by omega) (fun _ => a1 (by omega)) (fun z => by omega), fun q => ⟨ii, fun q2 => ?_, fun q2 => ⟨ii, fun q3 => ?_, fun q3 => ?_⟩⟩⟩⟩
      · exact ih (i + 1) (by omega) 1 (by omega) (fun _ => ⟨i, hlt, Or.inl q2⟩) (fun z => by omega)
      · have := ih (i + 1) (by omega) 0 (by omega) (fun z => by omega) (fun _ j hj => by
          by_cases z : j = i
          · subst z
            exact ⟨q2, q3⟩
          · exact a0 q j (by omega))
        rw [nI_0] at this
        exact this
      · exact ih (i + 1) (by omega) 1 (by omega) (fun _ => ⟨i, hlt, Or.inr q3⟩) (fun z => by omega)
  refine ⟨P + 1, ?_⟩
  have := LP P 0 (by omega) 0 (by omega) (fun z => by omega) (fun _ j hj => by omega)
  rw [nI_0] at this
  exact this
def unR (B E P : Nat) (bn pa pb cu fu : Nat → Nat) : Prop := ∀ e, e < E → cu e = (if bn e = 0 then 0 else ucR B P bn pa pb e) ∧ fu e = (if inP P pa pb e then ufR B P bn pa pb e else 0)
theorem ufR_s {B P : Nat} {bn pa pb : Nat → Nat} (e : Nat) : ufR B P bn pa pb e = stP B P bn pa pb e * kc bn e := by
  show B * (prN (kc bn) e * kc bn e) * prN (kf P pa pb) e = B * prN (kc bn) e * prN (kf P pa pb) e * kc bn e
  ac_rfl
theorem sp_countPlaces {B E P : Nat} {bn fr to pa pb cu0 fu0 : Nat → Nat} {Q : Int32 → (Nat → Int32) → (Nat → Int32) → Prop} (hp : sgP B E P bn fr to pa pb)
    (h1 : nR B E P bn pa pb ≤ 40000 → ∀ cu fu, unR B E P bn pa pb cu fu → Q (nI (nR B E P bn pa pb)) (rep cu) (rep fu))
    (h0 : 40000 < nR B E P bn pa pb → ∀ cu fu, Q (-1) (rep cu) (rep fu)) :
    wp_X4_countPlaces (nI B) (nI E) (nI P) (rpB bn) (rep pa) (rep pb) (rep cu0) (rep fu0) Q := by
  obtain ⟨⟨hB, hE, hP⟩, hft, hbn, hpp⟩ := hp
  have hp8 : ∀ i, i < P → pa i < 80 ∧ pb i < 80 := fun i hi => by have := hpp i hi; omega
  have LP : ∀ d e, e + d = E → ∀ s cu fu, s < 2000000 → (s ≤ 40000 → s = stP B P bn pa pb e ∧ unR B e P bn pa pb cu fu) → (40000 < s → 40000 < nR B E P bn pa pb) → lp_X4_countPlaces_7 (nI B) (nI E) (nI P) (rpB bn) (rep pa) (rep pb) Q (d + 1) (nI s) (nI e) (rep cu) (rep fu) := by
    intro d
    induction d with
    | zero =>
      intro e he s cu fu hs s1 s2
      have z : e = E := by omega
      subst z
      unfold lp_X4_countPlaces_7
      have l4 : nI s ≤ 40000 ↔ s ≤ 40000 := nI_leI (b := 40000) (by omega) (by decide)
      rw [l4]
      refine ⟨fun _ => ⟨fun q => ?_, fun q => h0 (s2 (by omega)) cu fu⟩, fun q => absurd (nI_le (Nat.le_refl _) (by omega)) q⟩
      obtain ⟨k1, k2⟩ := s1 q
      rw [k1]
      exact h1 (by show stP B P bn pa pb e ≤ _; omega) cu fu k2
    | succ d ih =>
      intro e he s cu fu hs s1 s2
      have hlt : e < E := by omega
      have ce : (nI e).toNatClampNeg = e := nI_clamp (by omega)
      have ie : vp_in (nI e) 80 := vp_in_nI (by omega) (by decide)
      have le := stP_le (B := B) (P := P) (bn := bn) (pa := pa) (pb := pb) (show e + 1 ≤ E from hlt)
      have nx := stP_s (B := B) (P := P) (bn := bn) (pa := pa) (pb := pb) e
      have kfp := kf_pos P pa pb e
      have uf := ufR_s (B := B) (P := P) (bn := bn) (pa := pa) (pb := pb) e
      have hb := hbn e
      have JN : ∀ s' cu', s' < 1000000 → (s' ≤ 40000 → s' = stP B P bn pa pb e * kc bn e ∧ (∀ x, x < e → cu' x = (if bn x = 0 then 0 else ucR B P bn pa pb x) ∧ fu x = (if inP P pa pb x then ufR B P bn pa pb x else 0)) ∧ cu' e = (if bn e = 0 then 0 else ucR B P bn pa pb e)) → (40000 < s' → 40000 < nR B E P bn pa pb) →
          jn_X4_countPlaces_62 (nI s') (nI e) (nI B) (nI E) (nI P) (rpB bn) (rep pa) (rep pb) (rep cu') (rep (fun j => if j = e then 0 else fu j)) (lp_X4_countPlaces_7 (nI B) (nI E) (nI P) (rpB bn) (rep pa) (rep pb) Q (d + 1)) Q := by
        intro s' cu' hs' t1 t2
        have l4 : 40000 < nI s' ↔ 40000 < s' := nI_ltI (a := 40000) (by decide) (by omega)
        unfold jn_X4_countPlaces_62
        rw [nI_1, l4, ce]
        refine sp_mInPair hP hp8 (by omega) (fun hi => ⟨fun z => absurd z (by decide), fun _ => ⟨fun q => ?_, fun q => ⟨ie, ?_⟩⟩⟩) (fun hi => ⟨fun _ => ?_, fun z => absurd rfl z⟩)
        · exact ih (e + 1) (by omega) s' cu' _ (by omega) (fun w => by omega) t2
        · obtain ⟨k1, k2, k3⟩ := t1 (by omega)
          have k4 : kf P pa pb e = 2 := by unfold kf; rw [if_pos hi]
          have m2 : nI s' * 2 = nI (s' * 2) := pk_mul _ 2
          rw [k4, ← k1] at nx
          rw [m2, rep_upd]
          refine ih (e + 1) (by omega) (s' * 2) cu' _ (by omega) (fun _ => ⟨nx.symm, fun x hx => ?_⟩) (fun w => by omega)
          show cu' x = _ ∧ (if x = e then s' else if x = e then 0 else fu x) = _
          by_cases z : x = e
          · subst z
            rw [if_pos rfl, if_pos hi, uf, ← k1]
            exact ⟨k3, rfl⟩
          · rw [if_neg z, if_neg z]
            exact k2 x (by omega)
        · have k4 : kf P pa pb e = 1 := by unfold kf; rw [if_neg hi]
          rw [k4, Nat.mul_one] at nx
          refine ih (e + 1) (by omega) s' cu' _ (by omega) (fun w => ?_) t2
          obtain ⟨k1, k2, k3⟩ := t1 w
          refine ⟨by rw [k1, nx], fun x hx => ?_⟩
          show cu' x = _ ∧ (if x = e then 0 else fu x) = _
          by_cases z : x = e
          · subst z
            rw [if_pos rfl, if_neg hi]
            exact ⟨k3, rfl⟩
          · rw [if_neg z]
            exact k2 x (by omega)
      have l4 : 40000 < nI s ↔ 40000 < s := nI_ltI (a := 40000) (by decide) (by omega)
      unfold lp_X4_countPlaces_7
      rw [ce, rpB_at, rpB_lt hb, l4, rpB_p, pk_mul, ← nI_0, rep_upd, rep_upd, rep_upd]
      refine ⟨fun q => absurd q (nI_ge hlt (by omega)), fun _ => ⟨ie, ie, ie, fun q => ?_, fun q => ⟨fun q2 => ?_, fun q2 => ⟨ie, ie, ?_⟩⟩⟩⟩
      · have k1 : kc bn e = 1 := by unfold kc; rw [if_pos q]
        rw [k1, Nat.mul_one] at nx JN
        by_cases z : s < 1000000
        · refine JN s _ z (fun w => ?_) s2
          obtain ⟨w1, w2⟩ := s1 w
          refine ⟨w1, fun x hx => ?_, ?_⟩
          · show (if x = e then 0 else cu x) = _ ∧ _
            rw [if_neg (by omega)]
            exact w2 x hx
          · show (if e = e then 0 else cu e) = _
            rw [if_pos rfl, if_pos q]
        · -- far above
          have l5 : 40000 < nI s ↔ 40000 < s := l4
          unfold jn_X4_countPlaces_62
          rw [nI_1, l5, ce]
          refine sp_mInPair hP hp8 (by omega) (fun hi => ⟨fun z => absurd z (by decide), fun _ => ⟨fun q => ?_, fun q => by omega⟩⟩) (fun hi => ⟨fun _ => ?_, fun z => absurd rfl z⟩)
          · exact ih (e + 1) (by omega) s _ _ (by omega) (fun w => by omega) s2
          · exact ih (e + 1) (by omega) s _ _ (by omega) (fun w => by omega) s2
      · by_cases z : s < 1000000
        · exact JN s _ z (fun w => by omega) s2
        · unfold jn_X4_countPlaces_62
          rw [nI_1, l4, ce]
          refine sp_mInPair hP hp8 (by omega) (fun hi => ⟨fun z => absurd z (by decide), fun _ => ⟨fun q => ?_, fun q => by omega⟩⟩) (fun hi => ⟨fun _ => ?_, fun z => absurd rfl z⟩)
          · exact ih (e + 1) (by omega) s _ _ (by omega) (fun w => by omega) s2
          · exact ih (e + 1) (by omega) s _ _ (by omega) (fun w => by omega) s2
      · have q3 : s ≤ 40000 := by omega
        obtain ⟨w1, w2⟩ := s1 q3
        have k1 : kc bn e = bn e := by unfold kc; rw [if_neg q]
        have m1 : s * bn e ≤ 40000 * 16 := Nat.mul_le_mul q3 hb
        rw [k1, ← w1] at nx JN
        refine JN (s * bn e) _ (by omega) (fun _ => ⟨rfl, fun x hx => ?_, ?_⟩) (fun w => ?_)
        · show (if x = e then s else if x = e then 0 else cu x) = _ ∧ _
          rw [if_neg (by omega), if_neg (by omega)]
          exact w2 x hx
        · show (if e = e then s else _) = _
          rw [if_pos rfl, if_neg q, w1]
          rfl
        · have : s * bn e ≤ s * bn e * kf P pa pb e := Nat.le_mul_of_pos_right _ kfp
          omega
  have k := LP E 0 (by omega) B cu0 fu0 (by omega) (fun _ => ⟨by show B = B * 1 * 1; omega, fun x hx => by omega⟩) (fun w => by omega)
  rw [nI_0] at k
  exact ⟨E + 1, k⟩
theorem sp_isTaken {p e : Nat} {fu : Nat → Nat} {Q : Int32 → Prop} (he : e < 80) (hf : 0 < fu e) (hl : fu e < 2 ^ 31) (hp : p < 2 ^ 31) (h1 : dg p (fu e) 2 = 1 → Q 1) (h0 : dg p (fu e) 2 = 0 → Q 0) : wp_X4_isTaken (nI p) (nI e) (rep fu) Q := by
  have ce : (nI e).toNatClampNeg = e := nI_clamp (by omega)
  have dl : p / fu e < 2 ^ 31 := Nat.lt_of_le_of_lt (Nat.div_le_self _ _) hp
  have two : (2 : Int32) = nI 2 := rfl
  have one : (1 : Int32) = nI 1 := rfl
  have dm := dg_lt (x := p) (u := fu e) (r := 2) (by decide)
  unfold wp_X4_isTaken
  rw [ce, rep_at, pk_div hp hf hl, two, pk_rem dl (by decide) (by decide)]
  have dd : p / fu e % 2 = dg p (fu e) 2 := rfl
  rw [dd]
  have e1 : nI (dg p (fu e) 2) = 1 ↔ dg p (fu e) 2 = 1 := by rw [one]; exact nI_eq (by omega) (by decide)
  rw [e1]
  refine ⟨vp_in_nI he (by decide), nI_ne0 hf hl, by decide, fun q => h0 (by omega), fun q => h1 q⟩
theorem unR_f {B E P : Nat} {bn pa pb cu fu : Nat → Nat} (hB : 0 < B) (hN : nR B E P bn pa pb ≤ 40000) (hu : unR B E P bn pa pb cu fu) {e : Nat} (he : e < E) (hi : inP P pa pb e) : fu e = ufR B P bn pa pb e ∧ 0 < fu e ∧ fu e ≤ 40000 := by
  have k := (hu e he).2
  rw [if_pos hi] at k
  have p := ((guR B E P bn pa pb hB).1 e he).2
  have d := (nR_d (B := B) (bn := bn) (pa := pa) (pb := pb) (P := P) e he).2
  have n0 : 0 < nR B E P bn pa pb := Nat.mul_pos (Nat.mul_pos hB (prN_pos (kc_pos bn) E)) (prN_pos (kf_pos P pa pb) E)
  have l := Nat.le_of_dvd n0 (Nat.dvd_trans (Nat.dvd_mul_right _ _) d)
  exact ⟨k, by rw [k]; exact p, by rw [k]; omega⟩
theorem unR_c {B E P : Nat} {bn pa pb cu fu : Nat → Nat} (hB : 0 < B) (hN : nR B E P bn pa pb ≤ 40000) (hu : unR B E P bn pa pb cu fu) {e : Nat} (he : e < E) (hi : bn e ≠ 0) : cu e = ucR B P bn pa pb e ∧ 0 < cu e ∧ cu e ≤ 40000 := by
  have k := (hu e he).1
  rw [if_neg hi] at k
  have p := ((guR B E P bn pa pb hB).1 e he).1
  have d := (nR_d (B := B) (bn := bn) (pa := pa) (pb := pb) (P := P) e he).1
  have n0 : 0 < nR B E P bn pa pb := Nat.mul_pos (Nat.mul_pos hB (prN_pos (kc_pos bn) E)) (prN_pos (kf_pos P pa pb) E)
  have l := Nat.le_of_dvd n0 (Nat.dvd_trans (Nat.dvd_mul_right _ _) d)
  exact ⟨k, by rw [k]; exact p, by rw [k]; omega⟩
theorem sp_allows {B E P p e : Nat} {bn fr to pa pb cu fu : Nat → Nat} {Q : Int32 → Prop} (hB0 : 0 < B) (hp : sgP B E P bn fr to pa pb) (hN : nR B E P bn pa pb ≤ 40000) (hu : unR B E P bn pa pb cu fu) (he : e < E) (hpn : p < nR B E P bn pa pb) (h1 : alR B P bn pa pb p e → Q 1) (h0 : ¬ alR B P bn pa pb p e → Q 0) :
    wp_X4_allows (nI p) (nI e) (nI P) (rpB bn) (rep pa) (rep pb) (rep cu) (rep fu) Q := by
  obtain ⟨⟨hB, hE, hP⟩, hft, hbn, hpp⟩ := hp
  have e0 : ∀ x, x ≤ 1 → (nI x = 0 ↔ x = 0) := fun x hx => by rw [← nI_0]; exact nI_eq (by omega) (by decide)
  have ce : (nI e).toNatClampNeg = e := nI_clamp (by omega)
  have ie : vp_in (nI e) 80 := vp_in_nI (by omega) (by decide)
  have hb := hbn e
  have tk : ∀ x, inP P pa pb x → x < E → (dg p (fu x) 2 = 0 ↔ dg p (ufR B P bn pa pb x) (kf P pa pb x) = 0) := fun x hx hE2 => by
    have k := (unR_f hB0 hN hu hE2 hx).1
    have k4 : kf P pa pb x = 2 := by unfold kf; rw [if_pos hx]
    rw [k, k4]
  have LP : (bn e = 0 ∨ dg p (ucR B P bn pa pb e) (kc bn e) + 1 < bn e) → ∀ d i, i + d = P → ∀ a, a ≤ 1 → (a = 0 → ¬ alR B P bn pa pb p e) → (a = 1 → ∀ j, j < i → (pa j = e → dg p (ufR B P bn pa pb (pb j)) (kf P pa pb (pb j)) = 0) ∧ (pb j = e → dg p (ufR B P bn pa pb (pa j)) (kf P pa pb (pa j)) = 0)) →
      lp_X4_allows_42 (nI p) (nI e) (nI P) (rpB bn) (rep pa) (rep pb) (rep cu) (rep fu) Q (d + 1) (nI a) (nI i) := by
    intro hcnt d
    induction d with
    | zero =>
      intro i hi a ha a0 a1
      have z : i = P := by omega
      subst z
      unfold lp_X4_allows_42
      refine ⟨fun _ => ⟨nar01 ha, ?_⟩, fun q => absurd (nI_le (Nat.le_refl _) (by omega)) q⟩
      rcases (show a = 0 ∨ a = 1 by omega) with z | z
      · subst z
        exact h0 (a0 rfl)
      · subst z
        exact h1 ⟨hcnt, a1 rfl⟩
    | succ d ih =>
      intro i hi a ha a0 a1
      have hlt : i < P := by omega
      obtain ⟨p1, p2⟩ := hpp i hlt
      have ci : (nI i).toNatClampNeg = i := nI_clamp (by omega)
      have ii : vp_in (nI i) 3 := vp_in_nI (by omega) (by decide)
      have ea : nI (pa i) = nI e ↔ pa i = e := nI_eq (by omega) (by omega)
      have eb : nI (pb i) = nI e ↔ pb i = e := nI_eq (by omega) (by omega)
      have ina : inP P pa pb (pa i) := ⟨i, hlt, Or.inl rfl⟩
      have inb : inP P pa pb (pb i) := ⟨i, hlt, Or.inr rfl⟩
      have ua := unR_f hB0 hN hu p1 ina
      have ub := unR_f hB0 hN hu p2 inb
      have no : ¬ alR B P bn pa pb p e → lp_X4_allows_42 (nI p) (nI e) (nI P) (rpB bn) (rep pa) (rep pb) (rep cu) (rep fu) Q (d + 1) 0 (nI (i + 1)) := fun na => by
        have := ih (i + 1) (by omega) 0 (by omega) (fun _ => na) (fun z => by omega)
        rw [nI_0] at this
        exact this
      have yes : a = 1 → ((pa i = e → dg p (ufR B P bn pa pb (pb i)) (kf P pa pb (pb i)) = 0) ∧ (pb i = e → dg p (ufR B P bn pa pb (pa i)) (kf P pa pb (pa i)) = 0)) → lp_X4_allows_42 (nI p) (nI e) (nI P) (rpB bn) (rep pa) (rep pb) (rep cu) (rep fu) Q (d + 1) 1 (nI (i + 1)) := fun az w => ih (i + 1) (by omega) 1 (by omega) (fun z => by omega) (fun _ j hj => by
          by_cases z : j = i
          · subst z; exact w
          · exact a1 az j (by omega))
      have JN : a = 1 → (pa i = e → dg p (ufR B P bn pa pb (pb i)) (kf P pa pb (pb i)) = 0) → jn_X4_allows_81 (nI p) (nI e) (nI i) (nI P) (rpB bn) (rep pa) (rep pb) (rep cu) (rep fu) (lp_X4_allows_42 (nI p) (nI e) (nI P) (rpB bn) (rep pa) (rep pb) (rep cu) (rep fu) Q (d + 1)) Q := by
        intro az w
        unfold jn_X4_allows_81
        rw [ci, rep_at, rep_at, eb, nI_1]
        refine ⟨ii, fun q => yes az ⟨w, fun z => absurd z q⟩, fun q => ⟨ii, ?_⟩⟩
        refine sp_isTaken (by omega) ua.2.1 (by omega) (by omega) (fun t => ⟨fun _ => no (fun na => ?_), fun z => absurd z (by decide)⟩) (fun t => ⟨fun z => absurd rfl z, fun _ => yes az ⟨w, fun _ => (tk _ ina p1).mp t⟩⟩)
        have := (tk _ ina p1).mpr ((na.2 i hlt).2 q)
        omega
      unfold lp_X4_allows_42
      rw [ci, rep_at, rep_at, ea, e0 a ha, nI_1]
      refine ⟨fun q => absurd q (nI_ge hlt (by omega)), fun _ => ⟨fun q => no (a0 q), fun q => ⟨ii, fun q2 => JN (by omega) (fun z => absurd z q2), fun q2 => ⟨ii, ?_⟩⟩⟩⟩
      refine sp_isTaken (by omega) ub.2.1 (by omega) (by omega) (fun t => ⟨fun _ => no (fun na => ?_), fun z => absurd z (by decide)⟩) (fun t => ⟨fun z => absurd rfl z, fun _ => JN (by omega) (fun _ => (tk _ inb p2).mp t)⟩)
      have := (tk _ inb p2).mpr ((na.2 i hlt).1 q2)
      omega
  have GO : (bn e = 0 ∨ dg p (ucR B P bn pa pb e) (kc bn e) + 1 < bn e) → ∃ k42, lp_X4_allows_42 (nI p) (nI e) (nI P) (rpB bn) (rep pa) (rep pb) (rep cu) (rep fu) Q k42 1 0 := fun hc => by
    have := LP hc P 0 (by omega) 1 (by omega) (fun z => by omega) (fun _ j hj => by omega)
    rw [nI_0] at this
    exact ⟨P + 1, this⟩
  unfold wp_X4_allows
  rw [ce, rpB_at, rep_at cu, rpB_lt hb, rpB_p]
  refine ⟨ie, fun q => GO (Or.inl q), fun q => ⟨ie, ?_⟩⟩
  obtain ⟨u1, u2, u3⟩ := unR_c hB0 hN hu he q
  have k1 : kc bn e = bn e := by unfold kc; rw [if_neg q]
  have dl : p / cu e < 2 ^ 31 := Nat.lt_of_le_of_lt (Nat.div_le_self _ _) (by omega)
  rw [pk_div (by omega) u2 (by omega), pk_rem dl (by omega) (by omega)]
  have dd : p / cu e % bn e = dg p (ucR B P bn pa pb e) (kc bn e) := by rw [k1, u1]; rfl
  have dm := dg_lt (x := p) (u := ucR B P bn pa pb e) (r := kc bn e) (by omega)
  have b1 : nI (bn e) - 1 = nI (bn e - 1) := pk_sub (b := 1) (by omega)
  rw [dd, b1, nI_eq (by omega) (by omega)]
  refine ⟨nI_ne0 u2 (by omega), ie, nI_ne0 (by omega) (by omega), ie, fun q2 => GO (Or.inr (by omega)), fun q2 => h0 (fun ha => ?_)⟩
  rcases ha.1 with w | w
  · exact q w
  · have w : dg p (ucR B P bn pa pb e) (kc bn e) + 1 < bn e := w
    omega
theorem sp_behind {B E P p e : Nat} {bn fr to pa pb cu fu : Nat → Nat} {Q : Int32 → Prop} (hB0 : 0 < B) (hp : sgP B E P bn fr to pa pb) (hN : nR B E P bn pa pb ≤ 40000) (hu : unR B E P bn pa pb cu fu) (he : e < E) (hpn : p < nR B E P bn pa pb) (hf : fr e = p % B) (h : Q (nI (bhR B P bn pa pb fr to p e))) :
    wp_X4_behind (nI p) (nI e) (rep fr) (rep to) (rpB bn) (rep cu) (rep fu) Q := by
  obtain ⟨⟨hB, hE, hP⟩, hft, hbn, hpp⟩ := hp
  obtain ⟨f1, f2⟩ := hft e he
  have ce : (nI e).toNatClampNeg = e := nI_clamp (by omega)
  have ie : vp_in (nI e) 80 := vp_in_nI (by omega) (by decide)
  have hb := hbn e
  have fle : fr e ≤ p := by rw [hf]; exact Nat.mod_le _ _
  have m := (mv_div hf.symm f2).1
  have md : dg (p - fr e + to e) (ufR B P bn pa pb e) 2 = dg p (ufR B P bn pa pb e) 2 := mv_dg m (ucR_d e).2
  have JN : ∀ y, (∀ z, stF P pa pb (ufR B P bn pa pb) (p - fr e + to e) e = p - fr e + to e + z → bhR B P bn pa pb fr to p e = y + z) → jn_X4_behind_34 (nI p) (nI e) (nI y) (rep fr) (rep to) (rpB bn) (rep cu) (rep fu) Q := by
    intro y hy
    unfold jn_X4_behind_34
    rw [ce, rep_at fu]
    by_cases hi : inP P pa pb e
    · obtain ⟨u1, u2, u3⟩ := unR_f hB0 hN hu he hi
      refine ⟨ie, fun q => absurd q (nI_nle u2 (by omega)), fun _ => ?_⟩
      refine sp_isTaken (by omega) u2 (by omega) (by omega) (fun t => ⟨fun _ => ?_, fun z => absurd z (by decide)⟩) (fun t => ⟨fun z => absurd rfl z, fun _ => ⟨ie, ?_⟩⟩)
      · have := hy 0 (by unfold stF; rw [if_neg (fun w => by rw [md, ← u1, t] at w; omega), Nat.add_zero])
        rw [Nat.add_zero] at this
        rw [← this]
        exact h
      · have := hy (fu e) (by unfold stF; rw [if_pos ⟨hi, by rw [md, ← u1, t]⟩, ← u1])
        rw [nI_add, ← this]
        exact h
    · have k := (hu e he).2
      rw [if_neg hi] at k
      rw [k]
      refine ⟨ie, fun _ => ?_, fun q => absurd (show nI 0 ≤ 0 by decide) q⟩
      have := hy 0 (by unfold stF; rw [if_neg (fun w => hi w.1), Nat.add_zero])
      rw [Nat.add_zero] at this
      rw [← this]
      exact h
  unfold wp_X4_behind
  rw [ce, rep_at fr, rep_at to, rep_at cu, rpB_at, rpB_lt hb, pk_sub fle, nI_add, nI_add]
  refine ⟨ie, ie, ie, fun q => JN _ (fun z hz => ?_), fun q => ⟨ie, JN _ (fun z hz => ?_)⟩⟩
  · unfold bhR stX stC
    rw [if_pos q, hz]
  · obtain ⟨u1, u2, u3⟩ := unR_c hB0 hN hu he q
    unfold bhR stX stC
    rw [if_neg q, hz, ← u1]
    omega
