theorem bt_and (c k : Nat) : c &&& 2 ^ k = 0 ↔ c / 2 ^ k % 2 = 0 := by
  have h2 : c / 2 ^ k % 2 < 2 := Nat.mod_lt _ (by decide)
  constructor
  · intro h
    rcases (show c / 2 ^ k % 2 = 0 ∨ c / 2 ^ k % 2 = 1 by omega) with z | z
    · exact z
    · have t : (c &&& 2 ^ k).testBit k = true := by
        rw [Nat.testBit_and, Nat.testBit_two_pow, Nat.testBit_eq_decide_div_mod_eq]
        simp [z]
      rw [h] at t
      simp at t
  · intro h
    apply Nat.eq_of_testBit_eq
    intro i
    rw [Nat.testBit_and, Nat.testBit_two_pow, Nat.zero_testBit]
    by_cases z : k = i
    · subst z
      rw [Nat.testBit_eq_decide_div_mod_eq]
      simp [h]
    · simp [z]
theorem nI_and (a b : Nat) : nI a &&& nI b = nI (a &&& b) := by
  apply Int32.toBitVec_inj.mp
  show (nI a &&& nI b).toBitVec = BitVec.ofNat 32 (a &&& b)
  rw [Int32.toBitVec_and, BitVec.ofNat_and]
  rfl
theorem nI_or (a b : Nat) : nI a ||| nI b = nI (a ||| b) := by
  apply Int32.toBitVec_inj.mp
  show (nI a ||| nI b).toBitVec = BitVec.ofNat 32 (a ||| b)
  rw [Int32.toBitVec_or, BitVec.ofNat_or]
  rfl
theorem bt_or1 {c k : Nat} (h : c / 2 ^ k % 2 = 1) : c ||| 2 ^ k = c := by
  apply Nat.eq_of_testBit_eq
  intro i
  rw [Nat.testBit_or, Nat.testBit_two_pow]
  by_cases z : k = i
  · subst z
    rw [Nat.testBit_eq_decide_div_mod_eq]
    simp [h]
  · simp [z]
theorem bt_or0 {c k : Nat} (h : c / 2 ^ k % 2 = 0) : nI c ||| nI (2 ^ k) = nI (c + 2 ^ k) := by
  have h1 : nI c &&& nI (2 ^ k) = 0 := by
    rw [nI_and, (bt_and c k).mpr h, nI_0]
  rw [← nI_add]
  apply Int32.toBitVec_inj.mp
  rw [Int32.toBitVec_or, Int32.toBitVec_add]
  refine (BitVec.add_eq_or_of_and_eq_zero _ _ ?_).symm
  rw [← Int32.toBitVec_and, h1]
  rfl
theorem bt_dis (c a b : Nat) : c &&& (a ||| b) = 0 ↔ c &&& a = 0 ∧ c &&& b = 0 := by
  rw [Nat.and_or_distrib_left, Nat.or_eq_zero_iff]
def sgP (B E P : Nat) (bn fr to pa pb : Nat → Nat) : Prop := (B ≤ 40 ∧ E ≤ 80 ∧ P ≤ 3) ∧ (∀ e, e < E → fr e < B ∧ to e < B) ∧ (∀ e, bn e ≤ 16) ∧ (∀ i, i < P → pa i < E ∧ pb i < E)
theorem sp_isInPair {P e : Nat} {pa pb : Nat → Nat} {Q : Int32 → Prop} (hP : P ≤ 3) (hpp : ∀ i, i < P → pa i < 80 ∧ pb i < 80) (he : e < 80) (h1 : inP P pa pb e → Q 1) (h0 : ¬ inP P pa pb e → Q 0) : wp_X2_isInPair (nI e) (nI P) (rep pa) (rep pb) Q := by
  have LP : ∀ d i, i + d = P → (∀ j, j < i → pa j ≠ e ∧ pb j ≠ e) → lp_X2_isInPair_2 (nI e) (nI P) (rep pa) (rep pb) Q (d + 1) (nI i) := by
    intro d
    induction d with
    | zero =>
      intro i hi hn
      have z : i = P := by omega
      subst z
      unfold lp_X2_isInPair_2
      refine ⟨fun _ => h0 (fun ⟨j, j1, j2⟩ => ?_), fun q => absurd (nI_le (Nat.le_refl _) (by omega)) q⟩
      have := hn j j1
      omega
    | succ d ih =>
      intro i hi hn
      have hlt : i < P := by omega
      obtain ⟨p1, p2⟩ := hpp i hlt
      have ci : (nI i).toNatClampNeg = i := nI_clamp (by omega)
      have ii : vp_in (nI i) 3 := vp_in_nI (by omega) (by decide)
      have ea : nI (pa i) = nI e ↔ pa i = e := nI_eq (by omega) (by omega)
      have eb : nI (pb i) = nI e ↔ pb i = e := nI_eq (by omega) (by omega)
      unfold lp_X2_isInPair_2
      simp only [ci, rep_at]
      refine ⟨fun q => absurd q (nI_ge hlt (by omega)), fun _ => ⟨ii, fun q => h1 ⟨i, hlt, Or.inl (ea.mp q)⟩, fun q => ⟨ii, fun q2 => ?_, fun q2 => h1 ⟨i, hlt, Or.inr (eb.mp q2)⟩⟩⟩⟩
      rw [nI_1]
      refine ih (i + 1) (by omega) (fun j hj => ?_)
      by_cases z : j = i
      · subst z
        exact ⟨fun w => q (ea.mpr w), fun w => q2 (eb.mpr w)⟩
      · exact hn j (by omega)
  exact ⟨P + 1, by rw [← nI_0]; exact LP P 0 (by omega) (fun j hj => by omega)⟩
def stP (B P : Nat) (bn pa pb : Nat → Nat) (e : Nat) : Nat := B * prN (kc bn) e * prN (kf P pa pb) e
theorem stP_s {B P : Nat} {bn pa pb : Nat → Nat} (e : Nat) : stP B P bn pa pb (e + 1) = stP B P bn pa pb e * kc bn e * kf P pa pb e := by
  show B * (prN (kc bn) e * kc bn e) * (prN (kf P pa pb) e * kf P pa pb e) = B * prN (kc bn) e * prN (kf P pa pb) e * kc bn e * kf P pa pb e
  ac_rfl
theorem stP_le {B P : Nat} {bn pa pb : Nat → Nat} {e E : Nat} (h : e ≤ E) : stP B P bn pa pb e ≤ nR B E P bn pa pb := Nat.mul_le_mul (Nat.mul_le_mul_left _ (prN_le (kc_pos bn) h)) (prN_le (kf_pos P pa pb) h)
theorem kc_le {bn : Nat → Nat} {e : Nat} (h : bn e ≤ 16) : kc bn e ≤ 16 := by unfold kc; split <;> omega
theorem kf_le {P : Nat} {pa pb : Nat → Nat} {e : Nat} : kf P pa pb e ≤ 2 := by unfold kf; split <;> omega
theorem sp_fits {B E P : Nat} {bn fr to pa pb : Nat → Nat} {Q : Int32 → Prop} (hp : sgP B E P bn fr to pa pb) (h1 : nR B E P bn pa pb ≤ 40000 → Q 1) (h0 : 40000 < nR B E P bn pa pb → Q 0) : wp_X2_fitsInStates (nI B) (nI E) (nI P) (rpB bn) (rep pa) (rep pb) Q := by
  obtain ⟨⟨hB, hE, hP⟩, hft, hbn, hpp⟩ := hp
  have hp8 : ∀ i, i < P → pa i < 80 ∧ pb i < 80 := fun i hi => by have := hpp i hi; omega
  have LP : ∀ d e, e + d = E → stP B P bn pa pb e < 2000000 → lp_X2_fitsInStates_7 (nI B) (nI E) (nI P) (rpB bn) (rep pa) (rep pb) Q (d + 1) (nI (stP B P bn pa pb e)) (nI e) := by
    intro d
    induction d with
    | zero =>
      intro e he hs
      have z : e = E := by omega
      subst z
      unfold lp_X2_fitsInStates_7
      refine ⟨fun _ => ⟨fun q => h0 ?_, fun q => h1 ?_⟩, fun q => absurd (nI_le (Nat.le_refl _) (by omega)) q⟩
      · show 40000 < stP B P bn pa pb e
        exact (nI_ltI (a := 40000) (by decide) (by omega)).mp q
      · show stP B P bn pa pb e ≤ 40000
        rcases Nat.lt_or_ge 40000 (stP B P bn pa pb e) with z | z
        · exact absurd (nI_lt z (by omega)) q
        · exact z
    | succ d ih =>
      intro e he hs
      have hlt : e < E := by omega
      have ce : (nI e).toNatClampNeg = e := nI_clamp (by omega)
      have ie : vp_in (nI e) 80 := vp_in_nI (by omega) (by decide)
      have le := stP_le (B := B) (P := P) (bn := bn) (pa := pa) (pb := pb) (Nat.le_of_lt hlt)
      unfold lp_X2_fitsInStates_7
      simp only [ce, rpB_at]
      refine ⟨fun q => absurd q (nI_ge hlt (by omega)), fun _ => ⟨fun q => ?_, fun q => ⟨ie, fun q2 => ?_, fun q2 => ⟨ie, ?_⟩⟩⟩⟩
      · have q : 40000 < stP B P bn pa pb e := (nI_ltI (a := 40000) (by decide) (by omega)).mp q
        exact ⟨fun _ => h0 (by omega), fun q3 => absurd (nI_lt q (by omega)) q3⟩
      · have q : stP B P bn pa pb e ≤ 40000 := by
          rcases Nat.lt_or_ge 40000 (stP B P bn pa pb e) with z | z
          · exact absurd (nI_lt z (by omega)) q
          · exact z
        have q2 := (rpB_n (hbn e)).mp q2
        have k1 : kc bn e = 1 := by unfold kc; rw [if_pos q2]
        have nx := stP_s (B := B) (P := P) (bn := bn) (pa := pa) (pb := pb) e
        unfold jn_X2_fitsInStates_42
        rw [nI_1]
        refine sp_isInPair hP hp8 (by omega) (fun hi => ⟨fun z => absurd z (by decide), fun _ => ?_⟩) (fun hi => ⟨fun _ => ?_, fun z => absurd rfl z⟩)
        · have k2 : kf P pa pb e = 2 := by unfold kf; rw [if_pos hi]
          rw [k1, k2, Nat.mul_one] at nx
          have := ih (e + 1) (by omega) (by omega)
          rw [nx, ← pk_mul] at this
          exact this
        · have k2 : kf P pa pb e = 1 := by unfold kf; rw [if_neg hi]
          rw [k1, k2, Nat.mul_one, Nat.mul_one] at nx
          have := ih (e + 1) (by omega) (by omega)
          rw [nx] at this
          exact this
      · have q : stP B P bn pa pb e ≤ 40000 := by
          rcases Nat.lt_or_ge 40000 (stP B P bn pa pb e) with z | z
          · exact absurd (nI_lt z (by omega)) q
          · exact z
        have q2 : bn e ≠ 0 := fun z => q2 ((rpB_n (hbn e)).mpr z)
        have k1 : kc bn e = bn e := by unfold kc; rw [if_neg q2]
        have nx := stP_s (B := B) (P := P) (bn := bn) (pa := pa) (pb := pb) e
        have hb := hbn e
        have m1 : stP B P bn pa pb e * bn e ≤ 40000 * 16 := Nat.mul_le_mul q hb
        unfold jn_X2_fitsInStates_42
        rw [nI_1, rpB_p, pk_mul]
        refine sp_isInPair hP hp8 (by omega) (fun hi => ⟨fun z => absurd z (by decide), fun _ => ?_⟩) (fun hi => ⟨fun _ => ?_, fun z => absurd rfl z⟩)
        · have k2 : kf P pa pb e = 2 := by unfold kf; rw [if_pos hi]
          rw [k1, k2] at nx
          have := ih (e + 1) (by omega) (by omega)
          rw [nx, ← pk_mul] at this
          exact this
        · have k2 : kf P pa pb e = 1 := by unfold kf; rw [if_neg hi]
          rw [k1, k2, Nat.mul_one] at nx
          have := ih (e + 1) (by omega) (by omega)
          rw [nx] at this
          exact this
  have k := LP E 0 (by omega) (by show B * 1 * 1 < _; omega)
  have e0 : stP B P bn pa pb 0 = B := by show B * 1 * 1 = B; omega
  rw [e0, nI_0] at k
  exact ⟨E + 1, k⟩
def layC (E P : Nat) (bn pa pb un fg fo : Nat → Nat) : Prop := (∀ e, e < E → un e = if 2 ≤ bn e then ucC E P bn pa pb e else 0) ∧ (∀ e, e < E → fg e = if inP P pa pb e then ufC P pa pb e else 0) ∧ ∀ e, e < E → ∀ c, (c &&& fo e = 0 ↔ ∀ i, i < P → (pa i = e → c &&& fg (pb i) = 0) ∧ (pb i = e → c &&& fg (pa i) = 0))
theorem sp_layOut {E P : Nat} {so : Int32} {bn pa pb un0 fg0 fo0 : Nat → Nat} {Q : Int32 → (Nat → Int32) → (Nat → Int32) → (Nat → Int32) → Prop} (hE : E ≤ 80) (hP : P ≤ 3) (hpp : ∀ i, i < P → pa i < E ∧ pb i < E) (hbn : ∀ e, bn e ≤ 16) (hN : nC E P bn pa pb ≤ 40000)
    (h : ∀ un fg fo, layC E P bn pa pb un fg fo → Q (nI (nC E P bn pa pb)) (rep un) (rep fg) (rep fo)) : wp_X2_layOutCode (nI E) (nI P) so (rpB bn) (rep pa) (rep pb) (rep un0) (rep fg0) (rep fo0) Q := by
  have hp8 : ∀ i, i < P → pa i < 80 ∧ pb i < 80 := fun i hi => by have := hpp i hi; omega
  have L141 : ∀ fg fo, (∀ e, e < E → fg e = if inP P pa pb e then ufC P pa pb e else 0) → (∀ e, e < E → ∀ c, (c &&& fo e = 0 ↔ ∀ i, i < P → (pa i = e → c &&& fg (pb i) = 0) ∧ (pb i = e → c &&& fg (pa i) = 0))) →
      ∀ d e, e + d = E → ∀ un, (∀ x, x < E → un x = if x < e ∧ 2 ≤ bn x then ucC E P bn pa pb x else 0) → lp_X2_layOutCode_141 (nI E) (nI P) (rpB bn) (rep pa) (rep pb) (rep fg) (rep fo) Q (d + 1) (nI e) (nI (ucC E P bn pa pb e)) (rep un) := by
    intro fg fo hfg hfo d
    induction d with
    | zero =>
      intro e he un hun
      have z : e = E := by omega
      subst z
      unfold lp_X2_layOutCode_141
      refine ⟨fun _ => h un fg fo ⟨fun x hx => ?_, hfg, hfo⟩, fun q => absurd (nI_le (Nat.le_refl _) (by omega)) q⟩
      rw [hun x hx]
      simp [hx]
    | succ d ih =>
      intro e he un hun
      have hlt : e < E := by omega
      have ce : (nI e).toNatClampNeg = e := nI_clamp (by omega)
      have ie : vp_in (nI e) 80 := vp_in_nI (by omega) (by decide)
      have us : ucC E P bn pa pb (e + 1) = ucC E P bn pa pb e * kc bn e := by
        show _ * (prN (kc bn) e * kc bn e) = _ * prN (kc bn) e * kc bn e
        rw [Nat.mul_assoc]
      have hb := hbn e
      unfold lp_X2_layOutCode_141
      simp only [ce, rpB_at]
      refine ⟨fun q => absurd q (nI_ge hlt (by omega)), fun _ => ⟨ie, fun q => ?_, fun q => ⟨ie, ie, ?_⟩⟩⟩
      · have q := (rpB_le hb).mp q
        have k1 : kc bn e = 1 := by unfold kc; split <;> omega
        rw [k1, Nat.mul_one] at us
        rw [nI_1, ← us]
        refine ih (e + 1) (by omega) un (fun x hx => ?_)
        rw [hun x hx]
        by_cases z : x = e
        · subst z
          rw [if_neg (by omega), if_neg (by omega)]
        · have : x < e ↔ x < e + 1 := by omega
          simp only [this]
      · have q : 2 ≤ bn e := by
          rcases Nat.lt_or_ge 1 (bn e) with z | z
          · exact z
          · exact absurd ((rpB_le hb).mpr z) q
        have k1 : kc bn e = bn e := by unfold kc; rw [if_neg (by omega)]
        rw [k1] at us
        rw [nI_1, rpB_p, pk_mul, ← us, rep_upd]
        refine ih (e + 1) (by omega) _ (fun x hx => ?_)
        show (if x = e then ucC E P bn pa pb e else un x) = _
        by_cases z : x = e
        · subst z
          rw [if_pos rfl, if_pos ⟨by omega, q⟩]
        · have : x < e ↔ x < e + 1 := by omega
          rw [if_neg z, hun x hx]
          simp only [this]
  have L75 : ∀ fg un, (∀ e, e < E → fg e = if inP P pa pb e then ufC P pa pb e else 0) → (∀ x, x < E → un x = 0) → ∀ d i, i + d = P → ∀ fo, (∀ e, e < E → ∀ c, (c &&& fo e = 0 ↔ ∀ j, j < i → (pa j = e → c &&& fg (pb j) = 0) ∧ (pb j = e → c &&& fg (pa j) = 0))) →
      lp_X2_layOutCode_75 (nI E) (nI P) (nI (ucC E P bn pa pb 0)) (rpB bn) (rep pa) (rep pb) (rep un) (rep fg) Q (d + 1) (nI i) (rep fo) := by
    intro fg un hfg hun d
    induction d with
    | zero =>
      intro i hi fo hfo
      have z : i = P := by omega
      subst z
      unfold lp_X2_layOutCode_75
      refine ⟨fun _ => ⟨E + 1, ?_⟩, fun q => absurd (nI_le (Nat.le_refl _) (by omega)) q⟩
      have k := L141 fg fo hfg hfo E 0 (by omega) un (fun x hx => by rw [hun x hx, if_neg (by omega)])
      rw [nI_0] at k
      exact k
    | succ d ih =>
      intro i hi fo hfo
      have hlt : i < P := by omega
      obtain ⟨p1, p2⟩ := hpp i hlt
      have ci : (nI i).toNatClampNeg = i := nI_clamp (by omega)
      have ca : (nI (pa i)).toNatClampNeg = pa i := nI_clamp (by omega)
      have cb : (nI (pb i)).toNatClampNeg = pb i := nI_clamp (by omega)
      have ii : vp_in (nI i) 3 := vp_in_nI (by omega) (by decide)
      have ia : vp_in (nI (pa i)) 80 := vp_in_nI (by omega) (by decide)
      have ib : vp_in (nI (pb i)) 80 := vp_in_nI (by omega) (by decide)
      unfold lp_X2_layOutCode_75
      simp only [ci, rep_at pa, rep_at pb, ca, cb, rep_at fg, rep_at fo, nI_or, rep_upd]
      refine ⟨fun q => absurd q (nI_ge hlt (by omega)), fun _ => ⟨ii, ia, ii, ib, ia, ii, ib, ii, ia, ib, ?_⟩⟩
      rw [nI_1, rep_at, nI_or, rep_upd]
      refine ih (i + 1) (by omega) _ (fun e he c => ?_)
      have k1 : ∀ e, e < E → ∀ c, (c &&& (if e = pa i then fo (pa i) ||| fg (pb i) else fo e) = 0 ↔ c &&& fo e = 0 ∧ (pa i = e → c &&& fg (pb i) = 0)) := by
        intro e he c
        by_cases z : e = pa i
        · subst z
          rw [if_pos rfl, bt_dis]
          exact ⟨fun ⟨a, b⟩ => ⟨a, fun _ => b⟩, fun ⟨a, b⟩ => ⟨a, b rfl⟩⟩
        · rw [if_neg z]
          exact ⟨fun a => ⟨a, fun w => absurd w.symm z⟩, fun a => a.1⟩
      have k2 : c &&& (if e = pb i then (if pb i = pa i then fo (pa i) ||| fg (pb i) else fo (pb i)) ||| fg (pa i) else if e = pa i then fo (pa i) ||| fg (pb i) else fo e) = 0 ↔ (c &&& fo e = 0 ∧ (pa i = e → c &&& fg (pb i) = 0)) ∧ (pb i = e → c &&& fg (pa i) = 0) := by
        by_cases z : e = pb i
        · subst z
          rw [if_pos rfl, bt_dis, k1 _ he]
          exact ⟨fun ⟨a, b⟩ => ⟨a, fun _ => b⟩, fun ⟨a, b⟩ => ⟨a, b rfl⟩⟩
        · rw [if_neg z, k1 e he]
          exact ⟨fun a => ⟨a, fun w => absurd w.symm z⟩, fun a => a.1⟩
      show c &&& (if e = pb i then (if pb i = pa i then fo (pa i) ||| fg (pb i) else fo (pb i)) ||| fg (pa i) else if e = pa i then fo (pa i) ||| fg (pb i) else fo e) = 0 ↔ _
      rw [k2, hfo e he c]
      constructor
      · rintro ⟨⟨a, b⟩, g⟩ j hj
        by_cases z : j = i
        · subst z; exact ⟨b, g⟩
        · exact a j (by omega)
      · intro a
        exact ⟨⟨fun j hj => a j (by omega), (a i (by omega)).1⟩, (a i (by omega)).2⟩
  have L31 : ∀ un fo, (∀ x, x < E → un x = 0) → (∀ x, x < E → fo x = 0) → ∀ d e, e + d = E → ∀ fg, (∀ x, x < E → fg x = if x < e ∧ inP P pa pb x then ufC P pa pb x else 0) → lp_X2_layOutCode_31 (nI E) (nI P) (rpB bn) (rep pa) (rep pb) (rep un) (rep fo) Q (d + 1) (nI e) (nI (ufC P pa pb e)) (rep fg) := by
    intro un fo hun hfo d
    induction d with
    | zero =>
      intro e he fg hfg
      have z : e = E := by omega
      subst z
      unfold lp_X2_layOutCode_31
      refine ⟨fun _ => ⟨P + 1, ?_⟩, fun q => absurd (nI_le (Nat.le_refl _) (by omega)) q⟩
      have k := L75 fg un (fun x hx => by rw [hfg x hx]; simp [hx]) hun P 0 (by omega) fo (fun x hx c => by rw [hfo x hx]; exact ⟨fun _ j hj => absurd hj (Nat.not_lt_zero j), fun _ => Nat.and_zero c⟩)
      have e1 : ucC e P bn pa pb 0 = ufC P pa pb e := by show prN (kf P pa pb) e * 1 = _; rw [Nat.mul_one]; rfl
      rw [nI_0, e1] at k
      exact k
    | succ d ih =>
      intro e he fg hfg
      have hlt : e < E := by omega
      have ce : (nI e).toNatClampNeg = e := nI_clamp (by omega)
      have ie : vp_in (nI e) 80 := vp_in_nI (by omega) (by decide)
      have us : ufC P pa pb (e + 1) = ufC P pa pb e * kf P pa pb e := rfl
      unfold lp_X2_layOutCode_31
      simp only [ce]
      refine ⟨fun q => absurd q (nI_ge hlt (by omega)), fun _ => sp_isInPair hP hp8 (by omega) (fun hi => ⟨fun z => absurd z (by decide), fun _ => ⟨ie, ?_⟩⟩) (fun hi => ⟨fun _ => ?_, fun z => absurd rfl z⟩)⟩
      · have k2 : kf P pa pb e = 2 := by unfold kf; rw [if_pos hi]
        rw [k2] at us
        have m2 : nI (ufC P pa pb e) * 2 = nI (ufC P pa pb e * 2) := pk_mul _ 2
        rw [nI_1, m2, ← us, rep_upd]
        refine ih (e + 1) (by omega) _ (fun x hx => ?_)
        show (if x = e then ufC P pa pb e else fg x) = _
        by_cases z : x = e
        · subst z
          rw [if_pos rfl, if_pos ⟨by omega, hi⟩]
        · have : x < e ↔ x < e + 1 := by omega
          rw [if_neg z, hfg x hx]
          simp only [this]
      · have k2 : kf P pa pb e = 1 := by unfold kf; rw [if_neg hi]
        rw [k2, Nat.mul_one] at us
        rw [nI_1, ← us]
        refine ih (e + 1) (by omega) fg (fun x hx => ?_)
        rw [hfg x hx]
        by_cases z : x = e
        · subst z
          rw [if_neg (by omega), if_neg (fun w => hi w.2)]
        · have : x < e ↔ x < e + 1 := by omega
          simp only [this]
  unfold wp_X2_layOutCode
  refine ⟨E + 1, ?_⟩
  rw [← nI_0, filled_rep, filled_rep, filled_rep]
  exact L31 _ _ (fun x hx => by rw [if_pos (by omega)]) (fun x hx => by rw [if_pos (by omega)]) E 0 (by omega) _ (fun x hx => by rw [if_pos (by omega), if_neg (by omega)])
theorem ufC_pow (P : Nat) (pa pb : Nat → Nat) : ∀ e, ∃ k, ufC P pa pb e = 2 ^ k
  | 0 => ⟨0, rfl⟩
  | e + 1 => by
    obtain ⟨k, hk⟩ := ufC_pow P pa pb e
    have us : ufC P pa pb (e + 1) = ufC P pa pb e * kf P pa pb e := rfl
    rw [us, hk]
    unfold kf
    split
    · exact ⟨k + 1, rfl⟩
    · exact ⟨k, by rw [Nat.mul_one]⟩
theorem fg_dg {E P : Nat} {bn pa pb un fg fo : Nat → Nat} (hl : layC E P bn pa pb un fg fo) {e : Nat} (he : e < E) (c : Nat) : c &&& fg e = 0 ↔ dg c (ufC P pa pb e) (kf P pa pb e) = 0 := by
  rw [hl.2.1 e he]
  unfold kf dg
  by_cases z : inP P pa pb e
  · rw [if_pos z, if_pos z]
    obtain ⟨k, hk⟩ := ufC_pow P pa pb e
    rw [hk]
    exact bt_and c k
  · rw [if_neg z, if_neg z, Nat.mod_one, Nat.and_zero]
theorem sp_codeBehind {E P e c : Nat} {bn pa pb un fg fo : Nat → Nat} {Q : Int32 → Prop} (hE : E ≤ 80) (hbn : ∀ e, bn e ≤ 16) (hpp : ∀ i, i < P → pa i < E ∧ pb i < E) (hN : nC E P bn pa pb ≤ 40000) (hl : layC E P bn pa pb un fg fo) (he : e < E) (hc : c < nC E P bn pa pb) (h1 : alC E P bn pa pb c e → Q (nI (nxC E P bn pa pb c e))) (h0 : ¬ alC E P bn pa pb c e → Q (-1)) :
    wp_X2_codeBehind (nI e) (nI c) (rpB bn) (rep un) (rep fg) (rep fo) Q := by
  have ce : (nI e).toNatClampNeg = e := nI_clamp (by omega)
  have ie : vp_in (nI e) 80 := vp_in_nI (by omega) (by decide)
  have hb := hbn e
  have fb : c &&& fo e = 0 ↔ ∀ i, i < P → (pa i = e → dg c (ufC P pa pb (pb i)) (kf P pa pb (pb i)) = 0) ∧ (pb i = e → dg c (ufC P pa pb (pa i)) (kf P pa pb (pa i)) = 0) := by
    rw [hl.2.2 e he c]
    constructor
    · intro a i hi
      exact ⟨fun z => (fg_dg hl (hpp i hi).2 c).mp ((a i hi).1 z), fun z => (fg_dg hl (hpp i hi).1 c).mp ((a i hi).2 z)⟩
    · intro a i hi
      exact ⟨fun z => (fg_dg hl (hpp i hi).2 c).mpr ((a i hi).1 z), fun z => (fg_dg hl (hpp i hi).1 c).mpr ((a i hi).2 z)⟩
  have le : c &&& fo e ≤ c := Nat.and_le_left
  have an : nI c &&& nI (fo e) = 0 ↔ c &&& fo e = 0 := by rw [nI_and, ← nI_0]; exact nI_eq (by omega) (by decide)
  have ue := hl.1 e he
  have fe := hl.2.1 e he
  have LAST : alC E P bn pa pb c e → jn_X2_codeBehind_60 (nI e) (nI c) (rpB bn) (rep un) (rep fg) (rep fo) Q := by
    intro ha
    unfold jn_X2_codeBehind_60
    rw [ce, rep_at fg, rep_at un]
    refine ⟨ie, ie, ?_⟩
    have fl : nI c ||| nI (fg e) = nI (stF P pa pb (ufC P pa pb) c e) := by
      rw [fe]
      unfold stF
      by_cases z : inP P pa pb e
      · rw [if_pos z]
        obtain ⟨k, hk⟩ := ufC_pow P pa pb e
        rw [hk]
        by_cases y : dg c (2 ^ k) 2 = 0
        · rw [if_pos ⟨z, y⟩]
          exact bt_or0 y
        · rw [if_neg (fun w => y w.2), nI_or, bt_or1]
          have := dg_lt (x := c) (u := 2 ^ k) (r := 2) (by decide)
          show dg c (2 ^ k) 2 = 1
          omega
      · rw [if_neg z, if_neg (fun w => z w.1), nI_or, Nat.or_zero]
    rw [fl, nI_add]
    have st : nxC E P bn pa pb c e = stF P pa pb (ufC P pa pb) c e + un e := by
      unfold nxC stX stC
      rw [ue]
      by_cases z : bn e = 0
      · rw [if_pos z, if_neg (by omega), Nat.add_zero]
      · have : 2 ≤ bn e := by
          rcases ha.1 with w | w
          · exact absurd w z
          · omega
        rw [if_neg z, if_pos this]
    rw [← st]
    exact h1 ha
  unfold wp_X2_codeBehind
  simp only [ce, rpB_at, rep_at un, rep_at fo]
  refine ⟨ie, fun q => ?_, fun q => ⟨ie, fun q2 => ⟨fun q3 => ?_, fun q3 => ⟨ie, fun q4 => ?_, fun q4 => ⟨ie, ?_⟩⟩⟩, fun q2 => ?_⟩⟩
  · have q := (rpB_0 hb).mp q
    refine h0 (fun ha => ?_)
    rcases ha.1 with w | w
    · omega
    · omega
  · have q3 := (rpB_le hb).mp q3
    have q : bn e ≠ 1 := fun z => q ((rpB_0 hb).mpr z)
    exact LAST ⟨Or.inl (by omega), fb.mp (an.mp q2)⟩
  · have q3 : 2 ≤ bn e := by
      rcases Nat.lt_or_ge 1 (bn e) with z | z
      · exact z
      · exact absurd ((rpB_le hb).mpr z) q3
    rw [ue, if_pos q3] at q4
    have u1 := ((guC E P bn pa pb).1 e he).1
    have u2 : ucC E P bn pa pb e ≤ 40000 := by
      have := Nat.le_of_dvd (by omega) (Nat.dvd_trans (Nat.dvd_mul_right _ _) ((nC_d (bn := bn) (pa := pa) (pb := pb) (P := P) e he).1))
      omega
    exact absurd q4 (nI_nle u1 (by omega))
  · have q3 : 2 ≤ bn e := by
      rcases Nat.lt_or_ge 1 (bn e) with z | z
      · exact z
      · exact absurd ((rpB_le hb).mpr z) q3
    have u1 := ((guC E P bn pa pb).1 e he).1
    have u2 : ucC E P bn pa pb e ≤ 40000 := by
      have := Nat.le_of_dvd (by omega) (Nat.dvd_trans (Nat.dvd_mul_right _ _) ((nC_d (bn := bn) (pa := pa) (pb := pb) (P := P) e he).1))
      omega
    rw [ue, if_pos q3] at q4 ⊢
    rw [rpB_p]
    have dl : c / ucC E P bn pa pb e < 2 ^ 31 := Nat.lt_of_le_of_lt (Nat.div_le_self _ _) (by omega)
    rw [pk_div (by omega) u1 (by omega), pk_rem dl (by omega) (by omega)]
    have k1 : kc bn e = bn e := by unfold kc; rw [if_neg (by omega)]
    have dd : c / ucC E P bn pa pb e % bn e = dg c (ucC E P bn pa pb e) (kc bn e) := by rw [k1]; rfl
    have dm := dg_lt (x := c) (u := ucC E P bn pa pb e) (r := kc bn e) (by omega)
    have b1 : nI (bn e) - 1 = nI (bn e - 1) := pk_sub (b := 1) (by omega)
    rw [dd, b1]
    refine ⟨fun z => absurd z (nI_ne0 u1 (by omega)), fun z => absurd z (nI_ne0 (by omega) (by omega)), fun q5 => ?_, fun q5 => ?_⟩
    · have q5 := (nI_ltI (by omega) (by omega)).mp q5
      exact LAST ⟨Or.inr (show dg c (ucC E P bn pa pb e) (kc bn e) + 1 < bn e by omega), fb.mp (an.mp q2)⟩
    · refine h0 (fun ha => q5 (nI_lt ?_ (by omega)))
      rcases ha.1 with w | w
      · omega
      · have w : dg c (ucC E P bn pa pb e) (kc bn e) + 1 < bn e := w
        omega
  · refine h0 (fun ha => q2 (an.mpr (fb.mpr ha.2)))
theorem sp_stateBehind {B E P e c : Nat} {bn to pa pb un fg fo : Nat → Nat} {Q : Int32 → Prop} (hE : E ≤ 80) (hbn : ∀ e, bn e ≤ 16) (hpp : ∀ i, i < P → pa i < E ∧ pb i < E) (hN : nC E P bn pa pb ≤ 40000) (hl : layC E P bn pa pb un fg fo) (he : e < E) (hc : c < nC E P bn pa pb) (h1 : alC E P bn pa pb c e → Q (nI (nxC E P bn pa pb c e * B + to e))) (h0 : ¬ alC E P bn pa pb c e → Q (-1)) :
    wp_X2_stateBehind (nI e) (nI c) (nI B) (rep to) (rpB bn) (rep un) (rep fg) (rep fo) Q := by
  have ce : (nI e).toNatClampNeg = e := nI_clamp (by omega)
  have ie : vp_in (nI e) 80 := vp_in_nI (by omega) (by decide)
  unfold wp_X2_stateBehind
  refine sp_codeBehind hE hbn hpp hN hl he hc (fun ha => ⟨fun _ => ⟨ie, ?_⟩, fun z => ?_⟩) (fun ha => ⟨fun z => absurd rfl z, fun _ => h0 ha⟩)
  · rw [ce, rep_at, pk_mul, nI_add]
    exact h1 ha
  · have := nxC_in he ha hc
    have k := nI_pos (n := nxC E P bn pa pb c e) (by omega)
    rw [z] at k
    exact absurd (show (-1 : Int32) < 0 by decide) k
