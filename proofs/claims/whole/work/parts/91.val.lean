def alC (E P : Nat) (bn pa pb : Nat → Nat) (c e : Nat) : Prop := alD P bn pa pb (fun e => dg c (ucC E P bn pa pb e) (kc bn e)) (fun e => dg c (ufC P pa pb e) (kf P pa pb e)) e
def alR (B P : Nat) (bn pa pb : Nat → Nat) (p e : Nat) : Prop := alD P bn pa pb (fun e => dg p (ucR B P bn pa pb e) (kc bn e)) (fun e => dg p (ufR B P bn pa pb e) (kf P pa pb e)) e
def nxC (E P : Nat) (bn pa pb : Nat → Nat) (c e : Nat) : Nat := stX P bn pa pb (ucC E P bn pa pb) (ufC P pa pb) c e
def rlR (B E P : Nat) (bn pa pb : Nat → Nat) (c b p : Nat) : Prop := p % B = b ∧ (∀ e, e < E → dg c (ucC E P bn pa pb e) (kc bn e) = dg p (ucR B P bn pa pb e) (kc bn e)) ∧ (∀ e, e < E → dg c (ufC P pa pb e) (kf P pa pb e) = dg p (ufR B P bn pa pb e) (kf P pa pb e))
theorem rlR_0 {B E P : Nat} {bn pa pb : Nat → Nat} : rlR B E P bn pa pb 0 0 0 := by
  refine ⟨Nat.zero_mod _, fun e _ => ?_, fun e _ => ?_⟩ <;> simp [dg]
theorem rlR_al {B E P : Nat} {bn pa pb : Nat → Nat} {c b p e : Nat} (hP : ∀ i, i < P → pa i < E ∧ pb i < E) (h : rlR B E P bn pa pb c b p) (he : e < E) : alC E P bn pa pb c e ↔ alR B P bn pa pb p e := by
  obtain ⟨h1, h2, h3⟩ := h
  unfold alC alR alD
  simp only
  rw [h2 e he]
  constructor
  · rintro ⟨a, b⟩
    refine ⟨a, fun i hi => ⟨fun z => ?_, fun z => ?_⟩⟩
    · rw [← h3 _ (hP i hi).2]; exact (b i hi).1 z
    · rw [← h3 _ (hP i hi).1]; exact (b i hi).2 z
  · rintro ⟨a, b⟩
    refine ⟨a, fun i hi => ⟨fun z => ?_, fun z => ?_⟩⟩
    · rw [h3 _ (hP i hi).2]; exact (b i hi).1 z
    · rw [h3 _ (hP i hi).1]; exact (b i hi).2 z
theorem bhR_mod {B P : Nat} {bn pa pb fr to : Nat → Nat} {p e : Nat} (hf : p % B = fr e) (ht : to e < B) : bhR B P bn pa pb fr to p e % B = to e := by
  unfold bhR
  rw [stX_mod, (mv_div hf ht).2]
theorem bhR_dg {B E P : Nat} {bn pa pb fr to : Nat → Nat} {p e : Nat} (hB : 0 < B) (he : e < E) (hf : p % B = fr e) (ht : to e < B) (hb : bn e = 0 ∨ dg p (ucR B P bn pa pb e) (kc bn e) + 1 < bn e) :
    (∀ e', e' < E → dg (bhR B P bn pa pb fr to p e) (ucR B P bn pa pb e') (kc bn e') = if e' = e ∧ bn e ≠ 0 then dg p (ucR B P bn pa pb e') (kc bn e') + 1 else dg p (ucR B P bn pa pb e') (kc bn e')) ∧
    (∀ e', e' < E → dg (bhR B P bn pa pb fr to p e) (ufR B P bn pa pb e') (kf P pa pb e') = if e' = e ∧ inP P pa pb e then 1 else dg p (ufR B P bn pa pb e') (kf P pa pb e')) := by
  have m := (mv_div hf ht).1
  have m1 : ∀ e', dg (p - fr e + to e) (ucR B P bn pa pb e') (kc bn e') = dg p (ucR B P bn pa pb e') (kc bn e') := fun e' => mv_dg m (ucR_d e').1
  have m2 : ∀ e', dg (p - fr e + to e) (ufR B P bn pa pb e') (kf P pa pb e') = dg p (ufR B P bn pa pb e') (kf P pa pb e') := fun e' => mv_dg m (ucR_d e').2
  obtain ⟨a, b⟩ := stX_dg (x := p - fr e + to e) (guR B E P bn pa pb hB) he (by rw [m1]; exact hb)
  unfold bhR
  refine ⟨fun e' he' => ?_, fun e' he' => ?_⟩
  · rw [a e' he', m1]
  · rw [b e' he', m2]
theorem rlR_st {B E P : Nat} {bn pa pb fr to : Nat → Nat} {c b p e : Nat} (h : rlR B E P bn pa pb c b p) (hB : 0 < B) (he : e < E) (hf : fr e = b) (ht : to e < B) (ha : alC E P bn pa pb c e) : rlR B E P bn pa pb (nxC E P bn pa pb c e) (to e) (bhR B P bn pa pb fr to p e) := by
  obtain ⟨h1, h2, h3⟩ := h
  have k1 := ha.1
  have k2 : bn e = 0 ∨ dg p (ucR B P bn pa pb e) (kc bn e) + 1 < bn e := by rw [← h2 e he]; exact k1
  have hf2 : p % B = fr e := by rw [h1, hf]
  obtain ⟨a1, a2⟩ := stX_dg (x := c) (guC E P bn pa pb) he k1
  obtain ⟨b1, b2⟩ := bhR_dg (to := to) hB he hf2 ht k2
  refine ⟨bhR_mod hf2 ht, fun e' he' => ?_, fun e' he' => ?_⟩
  · rw [nxC, a1 e' he', b1 e' he', h2 e' he']
  · rw [nxC, a2 e' he', b2 e' he', h3 e' he']
theorem nxC_in {E P : Nat} {bn pa pb : Nat → Nat} {c e : Nat} (he : e < E) (ha : alC E P bn pa pb c e) (hc : c < nC E P bn pa pb) : nxC E P bn pa pb c e < nC E P bn pa pb := stX_in (guC E P bn pa pb) nC_d he ha.1 hc
theorem bhR_in {B E P : Nat} {bn pa pb fr to : Nat → Nat} {p e : Nat} (hB : 0 < B) (he : e < E) (hf : p % B = fr e) (ht : to e < B) (ha : alR B P bn pa pb p e) (hp : p < nR B E P bn pa pb) : bhR B P bn pa pb fr to p e < nR B E P bn pa pb := by
  have m := (mv_div hf ht).1
  refine stX_in (guR B E P bn pa pb hB) nR_d he (by rw [mv_dg m (ucR_d e).1]; exact ha.1) ?_
  have e1 := Nat.div_add_mod p B
  have e2 := Nat.div_add_mod (p - fr e + to e) B
  have hd : B ∣ nR B E P bn pa pb := by unfold nR; rw [Nat.mul_assoc]; exact Nat.dvd_mul_right _ _
  obtain ⟨k, hk⟩ := hd
  rw [hk] at hp ⊢
  have h3 : p / B < k := Nat.div_lt_of_lt_mul hp
  rw [← e2, m, (mv_div hf ht).2]
  calc B * (p / B) + to e < B * (p / B) + B := by omega
    _ = B * (p / B + 1) := by rw [Nat.mul_add, Nat.mul_one]
    _ ≤ B * k := Nat.mul_le_mul_left _ h3
def acR (B E : Nat) (bn cm fr to : Nat → Nat) (r : Nat → Nat) : Prop := (∀ b, b < B → r b < B) ∧ ∀ e, e < E → bn e = 0 → cm (fr e) = 1 → r (to e) < r (fr e)
def rkC (B : Nat) (r : Nat → Nat) (c b : Nat) : Nat := c * B + (B - 1 - r b)
theorem rkC_lt {B N c b : Nat} {r : Nat → Nat} (hB : 0 < B) (hc : c < N) : rkC B r c b < N * B := by
  unfold rkC
  have : (c + 1) * B ≤ N * B := Nat.mul_le_mul_right _ hc
  rw [Nat.add_mul] at this
  omega
theorem rkC_st {B E P : Nat} {bn pa pb cm fr to r : Nat → Nat} {c e : Nat} (hr : acR B E bn cm fr to r) (he : e < E) (hf : fr e < B) (ht : to e < B) (hc : cm (fr e) = 1) : rkC B r c (fr e) < rkC B r (nxC E P bn pa pb c e) (to e) := by
  unfold rkC
  have h1 := hr.1 _ hf
  have h2 := hr.1 _ ht
  by_cases z : bn e = 0
  · have h3 := hr.2 e he z hc
    have h4 : c * B ≤ nxC E P bn pa pb c e * B := Nat.mul_le_mul_right _ stX_le
    omega
  · have h4 : c + 1 ≤ nxC E P bn pa pb c e := stX_lt z ((guC E P bn pa pb).1 e he).1
    have h5 : (c + 1) * B ≤ nxC E P bn pa pb c e * B := Nat.mul_le_mul_right _ h4
    rw [Nat.add_mul] at h5
    omega
theorem bhR_div {B E P : Nat} {bn pa pb fr to : Nat → Nat} {p e : Nat} (he : e < E) (hf : p % B = fr e) (ht : to e < B) : p / B ≤ bhR B P bn pa pb fr to p e / B ∧ (bn e ≠ 0 → p / B < bhR B P bn pa pb fr to p e / B) := by
  have hB : 0 < B := by omega
  have m := (mv_div hf ht).1
  unfold bhR
  rw [← m]
  refine ⟨Nat.div_le_div_right stX_le, fun z => ?_⟩
  have hu := ((guR B E P bn pa pb hB).1 e he).1
  have hu2 : B ≤ ucR B P bn pa pb e := Nat.le_of_dvd hu (ucR_d e).1
  have h1 : p - fr e + to e + B ≤ stX P bn pa pb (ucR B P bn pa pb) (ufR B P bn pa pb) (p - fr e + to e) e := by
    unfold stX stC stF
    rw [if_neg z]
    split <;> omega
  have h2 := Nat.div_le_div_right (c := B) h1
  rw [Nat.add_div_right _ hB] at h2
  omega
def rkR (B : Nat) (r : Nat → Nat) (p : Nat) : Nat := rkC B r (p / B) (p % B)
theorem rkR_lt {B N p : Nat} {r : Nat → Nat} (hB : 0 < B) (hp : p < B * N) : rkR B r p < N * B := rkC_lt hB (Nat.div_lt_of_lt_mul hp)
theorem rkR_st {B E P : Nat} {bn pa pb cm fr to r : Nat → Nat} {p e : Nat} (hr : acR B E bn cm fr to r) (he : e < E) (hf : p % B = fr e) (ht : to e < B) (hc : cm (fr e) = 1) : rkR B r p < rkR B r (bhR B P bn pa pb fr to p e) := by
  have hB : 0 < B := by omega
  obtain ⟨d1, d2⟩ := bhR_div (P := P) (bn := bn) (pa := pa) (pb := pb) he hf ht
  unfold rkR rkC
  rw [bhR_mod hf ht, hf]
  have h1 := hr.1 _ (show fr e < B by rw [← hf]; exact Nat.mod_lt _ hB)
  have h2 := hr.1 _ ht
  by_cases z : bn e = 0
  · have h3 := hr.2 e he z hc
    have h4 := Nat.mul_le_mul_right B d1
    omega
  · have h5 := Nat.mul_le_mul_right B (Nat.succ_le_of_lt (d2 z))
    rw [Nat.succ_mul] at h5
    omega
def mxO (p : Nat → Prop) (f : Nat → Nat) (z v : Nat) : Prop := z ≤ v ∧ (∀ e, p e → f e ≤ v) ∧ (v = z ∨ ∃ e, p e ∧ f e = v)
def mnO (p : Nat → Prop) (f : Nat → Nat) (z v : Nat) : Prop := (z ≠ 0 → v ≠ 0 ∧ v ≤ z) ∧ (∀ e, p e → f e ≠ 0 → v ≠ 0 ∧ v ≤ f e) ∧ (v = z ∨ ∃ e, p e ∧ f e = v)
theorem mxO_one {p q : Nat → Prop} {f g : Nat → Nat} {z v w : Nat} (hv : mxO p f z v) (hw : mxO q g z w) (h : ∀ e, p e ↔ q e) (hf : ∀ e, p e → f e = g e) : v = w := by
  obtain ⟨a1, a2, a3⟩ := hv
  obtain ⟨b1, b2, b3⟩ := hw
  have k1 : v ≤ w := by
    rcases a3 with z | ⟨e, he, hz⟩
    · omega
    · have := b2 e ((h e).mp he)
      have := hf e he
      omega
  have k2 : w ≤ v := by
    rcases b3 with z | ⟨e, he, hz⟩
    · omega
    · have := a2 e ((h e).mpr he)
      have := hf e ((h e).mpr he)
      omega
  omega
theorem mnO_le {p q : Nat → Prop} {f g : Nat → Nat} {z v w : Nat} (hv : mnO p f z v) (hw : mnO q g z w) (h : ∀ e, p e ↔ q e) (hf : ∀ e, p e → f e = g e) (h0 : v ≠ 0) : w ≠ 0 ∧ w ≤ v := by
  obtain ⟨a1, a2, a3⟩ := hv
  obtain ⟨b1, b2, b3⟩ := hw
  rcases a3 with y | ⟨e, he, hz⟩
  · have := b1 (by omega)
    omega
  · have e1 := hf e he
    have := b2 e ((h e).mp he) (by omega)
    omega
theorem mnO_one {p q : Nat → Prop} {f g : Nat → Nat} {z v w : Nat} (hv : mnO p f z v) (hw : mnO q g z w) (h : ∀ e, p e ↔ q e) (hf : ∀ e, p e → f e = g e) : v = w := by
  have k1 := mnO_le hv hw h hf
  have k2 := mnO_le hw hv (fun e => (h e).symm) (fun e he => (hf e ((h e).mpr he)).symm)
  omega
theorem mxO_add {p q : Nat → Prop} {f : Nat → Nat} {z v e0 : Nat} (hv : mxO p f z v) (h : ∀ e, q e ↔ p e ∨ e = e0) : mxO q f z (if f e0 < v then v else f e0) := by
  obtain ⟨a1, a2, a3⟩ := hv
  refine ⟨by split <;> omega, fun e he => ?_, ?_⟩
  · rcases (h e).mp he with y | y
    · have := a2 e y
      split <;> omega
    · subst y
      split <;> omega
  · by_cases y : f e0 < v
    · rw [if_pos y]
      rcases a3 with w | ⟨e, he, w⟩
      · exact Or.inl w
      · exact Or.inr ⟨e, (h e).mpr (Or.inl he), w⟩
    · rw [if_neg y]
      exact Or.inr ⟨e0, (h e0).mpr (Or.inr rfl), rfl⟩
theorem mxO_skip {p q : Nat → Prop} {f : Nat → Nat} {z v : Nat} (hv : mxO p f z v) (h : ∀ e, q e ↔ p e) : mxO q f z v := ⟨hv.1, fun e he => hv.2.1 e ((h e).mp he), hv.2.2.elim Or.inl (fun ⟨e, he, w⟩ => Or.inr ⟨e, (h e).mpr he, w⟩)⟩
theorem mnO_skip {p q : Nat → Prop} {f : Nat → Nat} {z v : Nat} (hv : mnO p f z v) (h : ∀ e, q e ↔ p e) : mnO q f z v := ⟨hv.1, fun e he => hv.2.1 e ((h e).mp he), hv.2.2.elim Or.inl (fun ⟨e, he, w⟩ => Or.inr ⟨e, (h e).mpr he, w⟩)⟩
theorem mxO_add0 {p q : Nat → Prop} {f : Nat → Nat} {z v e0 : Nat} (hv : mxO p f z v) (h : ∀ e, q e ↔ p e ∨ e = e0) (h0 : f e0 = 0) : mxO q f z v := by
  have k := mxO_add hv h
  by_cases y : f e0 < v
  · rw [if_pos y] at k; exact k
  · rw [if_neg y] at k
    have : v = f e0 := by omega
    rw [this]; exact k
theorem mnO_add0 {p q : Nat → Prop} {f : Nat → Nat} {z v e0 : Nat} (hv : mnO p f z v) (h : ∀ e, q e ↔ p e ∨ e = e0) (h0 : f e0 = 0) : mnO q f z v := by
  obtain ⟨a1, a2, a3⟩ := hv
  refine ⟨a1, fun e he hz => ?_, ?_⟩
  · rcases (h e).mp he with y | y
    · exact a2 e y hz
    · subst y; exact absurd h0 hz
  · rcases a3 with w | ⟨e, he, w⟩
    · exact Or.inl w
    · exact Or.inr ⟨e, (h e).mpr (Or.inl he), w⟩
theorem mnO_add {p q : Nat → Prop} {f : Nat → Nat} {z v e0 : Nat} (hv : mnO p f z v) (h : ∀ e, q e ↔ p e ∨ e = e0) (h0 : f e0 ≠ 0) : mnO q f z (if v = 0 ∨ f e0 < v then f e0 else v) := by
  obtain ⟨a1, a2, a3⟩ := hv
  refine ⟨fun hz => ?_, fun e he hz => ?_, ?_⟩
  · have := a1 hz
    split <;> omega
  · rcases (h e).mp he with y | y
    · have := a2 e y hz
      split <;> omega
    · subst y
      split <;> omega
  · split
    · exact Or.inr ⟨e0, (h e0).mpr (Or.inr rfl), rfl⟩
    · rcases a3 with w | ⟨e, he, w⟩
      · exact Or.inl w
      · exact Or.inr ⟨e, (h e).mpr (Or.inl he), w⟩
theorem mxO_0 {p : Nat → Prop} {f : Nat → Nat} {z : Nat} (h : ∀ e, ¬ p e) : mxO p f z z := ⟨Nat.le_refl _, fun e he => absurd he (h e), Or.inl rfl⟩
theorem mnO_0 {p : Nat → Prop} {f : Nat → Nat} {z : Nat} (h : ∀ e, ¬ p e) : mnO p f z z := ⟨fun h0 => ⟨h0, Nat.le_refl _⟩, fun e he => absurd he (h e), Or.inl rfl⟩
theorem mxO_cg {p : Nat → Prop} {f g : Nat → Nat} {z v : Nat} (hv : mxO p f z v) (h : ∀ e, p e → f e = g e) : mxO p g z v := ⟨hv.1, fun e he => by rw [← h e he]; exact hv.2.1 e he, hv.2.2.elim Or.inl (fun ⟨e, he, w⟩ => Or.inr ⟨e, he, by rw [← h e he]; exact w⟩)⟩
theorem mnO_cg {p : Nat → Prop} {f g : Nat → Nat} {z v : Nat} (hv : mnO p f z v) (h : ∀ e, p e → f e = g e) : mnO p g z v := ⟨hv.1, fun e he => by rw [← h e he]; exact hv.2.1 e he, hv.2.2.elim Or.inl (fun ⟨e, he, w⟩ => Or.inr ⟨e, he, by rw [← h e he]; exact w⟩)⟩
def eqV (p : Nat → Prop) (f g : Nat → Nat) (z tH tL vM vF : Nat) : Prop := ∃ h l, mxO p f z h ∧ mnO p g z l ∧ vM = (if h = 0 then 0 else h + tH) ∧ vF = (if l = 0 then 0 else l + tL)
theorem eqV_cg {p : Nat → Prop} {f g f' g' : Nat → Nat} {z tH tL vM vF : Nat} (hv : eqV p f g z tH tL vM vF) (h1 : ∀ e, p e → f e = f' e) (h2 : ∀ e, p e → g e = g' e) : eqV p f' g' z tH tL vM vF := by
  obtain ⟨h, l, a, b, c, d⟩ := hv
  exact ⟨h, l, mxO_cg a h1, mnO_cg b h2, c, d⟩
theorem eqV_one {p q : Nat → Prop} {f g f' g' : Nat → Nat} {z tH tL vM vF wM wF : Nat} (hv : eqV p f g z tH tL vM vF) (hw : eqV q f' g' z tH tL wM wF) (h : ∀ e, p e ↔ q e) (h1 : ∀ e, p e → f e = f' e) (h2 : ∀ e, p e → g e = g' e) : vM = wM ∧ vF = wF := by
  obtain ⟨a, l, a1, a2, a3, a4⟩ := hv
  obtain ⟨b, m, b1, b2, b3, b4⟩ := hw
  have e1 := mxO_one a1 b1 h h1
  have e2 := mnO_one a2 b2 h h2
  subst e1 e2
  exact ⟨by rw [a3, b3], by rw [a4, b4]⟩
theorem mx_mn {p : Nat → Prop} {f g : Nat → Nat} {z h l : Nat} (a : mxO p f z h) (b : mnO p g z l) (hz : ∀ e, p e → (f e = 0 ↔ g e = 0)) : h = 0 ↔ l = 0 := by
  obtain ⟨a1, a2, a3⟩ := a
  obtain ⟨b1, b2, b3⟩ := b
  constructor
  · intro h0
    rcases b3 with y | ⟨e, he, y⟩
    · omega
    · have := a2 e he
      have := (hz e he).mp (by omega)
      omega
  · intro l0
    have z0 : z = 0 := by
      rcases Nat.eq_zero_or_pos z with y | y
      · exact y
      · have := b1 (by omega)
        omega
    rcases a3 with y | ⟨e, he, y⟩
    · omega
    · rcases Nat.eq_zero_or_pos (g e) with w | w
      · have := (hz e he).mpr w
        omega
      · have := b2 e he (by omega)
        omega
theorem eqV_z {p : Nat → Prop} {f g : Nat → Nat} {z tH tL vM vF : Nat} (hv : eqV p f g z tH tL vM vF) (hz : ∀ e, p e → (f e = 0 ↔ g e = 0)) : vM = 0 ↔ vF = 0 := by
  obtain ⟨h, l, a, b, c, d⟩ := hv
  have k := mx_mn a b hz
  rw [c, d]
  by_cases y : h = 0
  · have := k.mp y
    simp [y, this]
  · have : ¬ l = 0 := fun w => y (k.mpr w)
    simp [y, this]
theorem eqV_le {p : Nat → Prop} {f g : Nat → Nat} {z tH tL vM vF D T : Nat} (hv : eqV p f g z tH tL vM vF) (hz : z ≤ 1) (h1 : ∀ e, p e → f e ≤ 1 + D) (h2 : ∀ e, p e → g e ≤ 1 + D) (hH : tH ≤ T) (hL : tL ≤ T) : vM ≤ 1 + (D + T) ∧ vF ≤ 1 + (D + T) := by
  obtain ⟨h, l, ⟨a1, a2, a3⟩, ⟨b1, b2, b3⟩, c, d⟩ := hv
  have k1 : h ≤ 1 + D := by
    rcases a3 with y | ⟨e, he, y⟩
    · omega
    · have := h1 e he
      omega
  have k2 : l ≤ 1 + D := by
    rcases b3 with y | ⟨e, he, y⟩
    · omega
    · have := h2 e he
      omega
  rw [c, d]
  constructor <;> (split <;> omega)
def endZ (E : Nat) (fr : Nat → Nat) (b : Nat) : Nat := if ∃ e, e < E ∧ fr e = b then 0 else 1
def eqC (B E P : Nat) (bn pa pb fr to tH tL Mo Fe : Nat → Nat) (c b : Nat) : Prop := eqV (fun e => e < E ∧ fr e = b ∧ alC E P bn pa pb c e) (fun e => Mo (nxC E P bn pa pb c e * B + to e)) (fun e => Fe (nxC E P bn pa pb c e * B + to e)) (endZ E fr b) (tH b) (tL b) (Mo (c * B + b)) (Fe (c * B + b))
def eqR (B E P : Nat) (bn pa pb fr to tH tL Wo Be : Nat → Nat) (p : Nat) : Prop := eqV (fun e => e < E ∧ fr e = p % B ∧ alR B P bn pa pb p e) (fun e => Wo (bhR B P bn pa pb fr to p e) - 1) (fun e => Be (bhR B P bn pa pb fr to p e)) (endZ E fr (p % B)) (tH (p % B)) (tL (p % B)) (Wo p - 1) (Be p)
def okC (B E P : Nat) (bn pa pb cm fr to tH tL Mo Fe : Nat → Nat) : Prop := ∀ c b, c < nC E P bn pa pb → b < B → cm b = 1 → eqC B E P bn pa pb fr to tH tL Mo Fe c b
def okR (B E P : Nat) (bn pa pb fr to tH tL Wo Be : Nat → Nat) : Prop := Wo 0 ≠ 0 ∧ ∀ p, p < nR B E P bn pa pb → Wo p ≠ 0 → eqR B E P bn pa pb fr to tH tL Wo Be p ∧ ∀ e, e < E → fr e = p % B → alR B P bn pa pb p e → Wo (bhR B P bn pa pb fr to p e) ≠ 0
theorem okV {B E P : Nat} {bn pa pb cm fr to r tH tL Mo Fe Wo Be : Nat → Nat} (hB : 0 < B) (hP : ∀ i, i < P → pa i < E ∧ pb i < E) (hft : ∀ e, e < E → fr e < B ∧ to e < B) (hcm : ∀ e, e < E → cm (fr e) = 1 → cm (to e) = 1) (hr : acR B E bn cm fr to r) (hC : okC B E P bn pa pb cm fr to tH tL Mo Fe) (hR : okR B E P bn pa pb fr to tH tL Wo Be) :
    ∀ d c b p, d + rkC B r c b = nC E P bn pa pb * B → c < nC E P bn pa pb → b < B → cm b = 1 → p < nR B E P bn pa pb → Wo p ≠ 0 → rlR B E P bn pa pb c b p → Wo p - 1 = Mo (c * B + b) ∧ Be p = Fe (c * B + b) := by
  intro d
  induction d using Nat.strongRecOn with
  | ind d ih =>
    intro c b p hd hc hb hcb hp hw hrl
    obtain ⟨h1, h2⟩ := hR.2 p hp hw
    have hpb := hrl.1
    have h3 := hC c b hc hb hcb
    unfold eqR at h1
    unfold eqC at h3
    rw [hpb] at h1
    have key : ∀ e, e < E ∧ fr e = b ∧ alC E P bn pa pb c e → Wo (bhR B P bn pa pb fr to p e) - 1 = Mo (nxC E P bn pa pb c e * B + to e) ∧ Be (bhR B P bn pa pb fr to p e) = Fe (nxC E P bn pa pb c e * B + to e) := by
      rintro e ⟨he, hf, ha⟩
      have ha2 := (rlR_al hP hrl he).mp ha
      obtain ⟨hf1, ht1⟩ := hft e he
      have hcf : cm (fr e) = 1 := by rw [hf]; exact hcb
      have hr1 := rkC_st (P := P) (pa := pa) (pb := pb) (c := c) hr he hf1 ht1 hcf
      have hn := nxC_in he ha hc
      have hr2 := rkC_lt (r := r) (b := to e) hB hn
      rw [hf] at hr1
      exact ih (nC E P bn pa pb * B - rkC B r (nxC E P bn pa pb c e) (to e)) (by omega) _ _ _ (by omega) hn ht1 (hcm e he hcf) (bhR_in hB he (by rw [hpb, hf]) ht1 ha2 hp) (h2 e he (by rw [hpb, hf]) ha2) (rlR_st hrl hB he hf ht1 ha)
    have al : ∀ e, (e < E ∧ fr e = b ∧ alR B P bn pa pb p e) ↔ (e < E ∧ fr e = b ∧ alC E P bn pa pb c e) := fun e => ⟨fun ⟨a, b, c⟩ => ⟨a, b, (rlR_al hP hrl a).mpr c⟩, fun ⟨a, b, c⟩ => ⟨a, b, (rlR_al hP hrl a).mp c⟩⟩
    exact eqV_one h1 h3 al (fun e he => (key e ((al e).mp he)).1) (fun e he => (key e ((al e).mp he)).2)
def isLow (p : Nat → Prop) (E r : Nat) : Prop := (r = E ∧ ∀ e, e < E → ¬ p e) ∨ (r < E ∧ p r ∧ ∀ e, e < r → ¬ p e)
theorem isLow_one {p q : Nat → Prop} {E r s : Nat} (h : ∀ e, e < E → (p e ↔ q e)) (a : isLow p E r) (b : isLow q E s) : r = s := by
  rcases a with ⟨a1, a2⟩ | ⟨a1, a2, a3⟩ <;> rcases b with ⟨b1, b2⟩ | ⟨b1, b2, b3⟩
  · omega
  · exact absurd ((h s b1).mpr b2) (a2 s b1)
  · exact absurd ((h r a1).mp a2) (b2 r a1)
  · rcases Nat.lt_trichotomy r s with z | z | z
    · exact absurd ((h r a1).mp a2) (b3 r z)
    · exact z
    · exact absurd ((h s b1).mpr b2) (a3 s z)
def goC (B E P : Nat) (bn pa pb fr to t V : Nat → Nat) (c b e : Nat) : Prop := fr e = b ∧ alC E P bn pa pb c e ∧ V (nxC E P bn pa pb c e * B + to e) ≠ 0 ∧ V (nxC E P bn pa pb c e * B + to e) + t b = V (c * B + b)
def goR (B P : Nat) (bn pa pb fr to t V : Nat → Nat) (p e : Nat) : Prop := fr e = p % B ∧ alR B P bn pa pb p e ∧ V (bhR B P bn pa pb fr to p e) ≠ 0 ∧ V (bhR B P bn pa pb fr to p e) + t (p % B) = V p
def wayC (B E P : Nat) (bn pa pb fr to t V : Nat → Nat) : Nat → Nat → Nat → Nat → Prop
  | 0, c, b, r => isLow (goC B E P bn pa pb fr to t V c b) E r
  | k + 1, c, b, r => ∃ e, isLow (goC B E P bn pa pb fr to t V c b) E e ∧ ((e = E ∧ r = E) ∨ (e < E ∧ wayC B E P bn pa pb fr to t V k (nxC E P bn pa pb c e) (to e) r))
def wayR (B E P : Nat) (bn pa pb fr to t V : Nat → Nat) : Nat → Nat → Nat → Prop
  | 0, p, r => isLow (goR B P bn pa pb fr to t V p) E r
  | k + 1, p, r => ∃ e, isLow (goR B P bn pa pb fr to t V p) E e ∧ ((e = E ∧ r = E) ∨ (e < E ∧ wayR B E P bn pa pb fr to t V k (bhR B P bn pa pb fr to p e) r))
theorem way_one {B E P : Nat} {bn pa pb cm fr to t V X : Nat → Nat} (hB : 0 < B) (hP : ∀ i, i < P → pa i < E ∧ pb i < E) (hft : ∀ e, e < E → fr e < B ∧ to e < B) (hcm : ∀ e, e < E → cm (fr e) = 1 → cm (to e) = 1)
    {K : Nat → Prop} (hK : ∀ p, p < nR B E P bn pa pb → K p → ∀ e, e < E → fr e = p % B → alR B P bn pa pb p e → K (bhR B P bn pa pb fr to p e))
    (hV : ∀ c b p, c < nC E P bn pa pb → b < B → cm b = 1 → p < nR B E P bn pa pb → K p → rlR B E P bn pa pb c b p → X p = V (c * B + b)) :
    ∀ k c b p r s, c < nC E P bn pa pb → b < B → cm b = 1 → p < nR B E P bn pa pb → K p → rlR B E P bn pa pb c b p → wayC B E P bn pa pb fr to t V k c b r → wayR B E P bn pa pb fr to t X k p s → r = s := by
  have stp : ∀ c b p e, c < nC E P bn pa pb → b < B → cm b = 1 → p < nR B E P bn pa pb → K p → rlR B E P bn pa pb c b p → e < E → fr e = b → alC E P bn pa pb c e → nxC E P bn pa pb c e < nC E P bn pa pb ∧ to e < B ∧ cm (to e) = 1 ∧ bhR B P bn pa pb fr to p e < nR B E P bn pa pb ∧ K (bhR B P bn pa pb fr to p e) ∧ rlR B E P bn pa pb (nxC E P bn pa pb c e) (to e) (bhR B P bn pa pb fr to p e) := by
    intro c b p e hc hb hcb hp hk hrl he hf ha
    have hpb := hrl.1
    have ha2 := (rlR_al hP hrl he).mp ha
    obtain ⟨hf1, ht1⟩ := hft e he
    exact ⟨nxC_in he ha hc, ht1, hcm e he (by rw [hf]; exact hcb), bhR_in hB he (by rw [hpb, hf]) ht1 ha2 hp, hK p hp hk e he (by rw [hpb, hf]) ha2, rlR_st hrl hB he hf ht1 ha⟩
  have eq : ∀ c b p, c < nC E P bn pa pb → b < B → cm b = 1 → p < nR B E P bn pa pb → K p → rlR B E P bn pa pb c b p → ∀ e, e < E → (goC B E P bn pa pb fr to t V c b e ↔ goR B P bn pa pb fr to t X p e) := by
    intro c b p hc hb hcb hp hk hrl e he
    have hpb := hrl.1
    have hv := hV c b p hc hb hcb hp hk hrl
    unfold goC goR
    rw [hpb, hv]
    constructor
    · rintro ⟨a1, a2, a3, a4⟩
      obtain ⟨k1, k2, k3, k4, k5, k6⟩ := stp c b p e hc hb hcb hp hk hrl he a1 a2
      rw [hV _ _ _ k1 k2 k3 k4 k5 k6]
      exact ⟨a1, (rlR_al hP hrl he).mp a2, a3, a4⟩
    · rintro ⟨a1, a2, a3, a4⟩
      have a2 := (rlR_al hP hrl he).mpr a2
      obtain ⟨k1, k2, k3, k4, k5, k6⟩ := stp c b p e hc hb hcb hp hk hrl he a1 a2
      rw [hV _ _ _ k1 k2 k3 k4 k5 k6] at a3 a4
      exact ⟨a1, a2, a3, a4⟩
  intro k
  induction k with
  | zero =>
    intro c b p r s hc hb hcb hp hk hrl h1 h2
    exact isLow_one (eq c b p hc hb hcb hp hk hrl) h1 h2
  | succ k ih =>
    intro c b p r s hc hb hcb hp hk hrl h1 h2
    obtain ⟨e, a1, a2⟩ := h1
    obtain ⟨e', b1, b2⟩ := h2
    have ee := isLow_one (eq c b p hc hb hcb hp hk hrl) a1 b1
    subst ee
    rcases a2 with ⟨y1, y2⟩ | ⟨y1, y2⟩ <;> rcases b2 with ⟨x1, x2⟩ | ⟨x1, x2⟩
    · omega
    · omega
    · omega
    · have hg : goC B E P bn pa pb fr to t V c b e := by
        rcases a1 with ⟨w1, w2⟩ | ⟨w1, w2, w3⟩
        · omega
        · exact w2
      obtain ⟨k1, k2, k3, k4, k5, k6⟩ := stp c b p e hc hb hcb hp hk hrl y1 hg.1 hg.2.1
      exact ih _ _ _ r s k1 k2 k3 k4 k5 k6 y2 x2
