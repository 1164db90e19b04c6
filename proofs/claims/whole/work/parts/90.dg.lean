def dg (x u r : Nat) : Nat := x / u % r
theorem dg_self {x u r : Nat} (hu : 0 < u) (h : dg x u r + 1 < r) : dg (x + u) u r = dg x u r + 1 := by
  unfold dg at *
  rw [Nat.add_div_right _ hu, Nat.add_mod, Nat.mod_eq_of_lt (show 1 < r by omega), Nat.mod_eq_of_lt h]
theorem dg_above {x u r w : Nat} (hu : 0 < u) (h : dg x u r + 1 < r) (hd : u * r ∣ w) : (x + u) / w = x / w := by
  obtain ⟨k, rfl⟩ := hd
  rw [← Nat.div_div_eq_div_mul, ← Nat.div_div_eq_div_mul, ← Nat.div_div_eq_div_mul, ← Nat.div_div_eq_div_mul, Nat.add_div_right _ hu]
  congr 1
  have hr : 0 < r := by omega
  have e := Nat.div_add_mod (x / u) r
  have h2 : x / u % r + 1 < r := h
  have e2 : x / u + 1 = (x / u % r + 1) + r * (x / u / r) := by omega
  rw [e2, Nat.add_mul_div_left _ _ hr, Nat.div_eq_of_lt h2, Nat.zero_add]
theorem dg_high {x u r w q : Nat} (hu : 0 < u) (h : dg x u r + 1 < r) (hd : u * r ∣ w) : dg (x + u) w q = dg x w q := by
  unfold dg
  rw [dg_above hu h hd]
theorem dg_low {x u w q : Nat} (hw : 0 < w) (hd : w * q ∣ u) : dg (x + u) w q = dg x w q := by
  obtain ⟨k, rfl⟩ := hd
  unfold dg
  rw [Nat.mul_assoc, Nat.add_mul_div_left _ _ hw, Nat.add_mul_mod_self_left]
theorem dg_lt {x u r : Nat} (hr : 0 < r) : dg x u r < r := Nat.mod_lt _ hr
theorem dg_grow {x u r N : Nat} (hu : 0 < u) (h : dg x u r + 1 < r) (hd : u * r ∣ N) (hx : x < N) : x + u < N := by
  have hN : 0 < N := by omega
  have e := dg_above hu h hd
  rw [Nat.div_eq_of_lt hx] at e
  rcases Nat.div_eq_zero_iff.mp e with z | z
  · omega
  · exact z
def kc (bn : Nat → Nat) (e : Nat) : Nat := if bn e = 0 then 1 else bn e
abbrev inP (P : Nat) (pa pb : Nat → Nat) (e : Nat) : Prop := ∃ i, i < P ∧ (pa i = e ∨ pb i = e)
def kf (P : Nat) (pa pb : Nat → Nat) (e : Nat) : Nat := if inP P pa pb e then 2 else 1
def prN (f : Nat → Nat) : Nat → Nat
  | 0 => 1
  | n + 1 => prN f n * f n
theorem prN_pos {f : Nat → Nat} (h : ∀ k, 0 < f k) : ∀ n, 0 < prN f n
  | 0 => Nat.one_pos
  | n + 1 => Nat.mul_pos (prN_pos h n) (h n)
theorem prN_dvd {f : Nat → Nat} {a b : Nat} (h : a ≤ b) : prN f a ∣ prN f b := by
  induction b with
  | zero => rw [Nat.le_zero.mp h]; exact Nat.dvd_refl _
  | succ b ih =>
    rcases Nat.lt_or_eq_of_le h with z | z
    · exact Nat.dvd_trans (ih (by omega)) ⟨f b, rfl⟩
    · rw [z]; exact Nat.dvd_refl _
theorem prN_le {f : Nat → Nat} (hf : ∀ k, 0 < f k) {a b : Nat} (h : a ≤ b) : prN f a ≤ prN f b := Nat.le_of_dvd (prN_pos hf b) (prN_dvd h)
theorem kc_pos (bn : Nat → Nat) (e : Nat) : 0 < kc bn e := by unfold kc; split <;> omega
theorem kf_pos (P : Nat) (pa pb : Nat → Nat) (e : Nat) : 0 < kf P pa pb e := by unfold kf; split <;> omega
def guW (E P : Nat) (bn pa pb : Nat → Nat) (uc uf : Nat → Nat) : Prop :=
  (∀ e, e < E → 0 < uc e ∧ 0 < uf e) ∧
  (∀ e e', e < E → e' < E → e ≠ e' → uc e * kc bn e ∣ uc e' ∨ uc e' * kc bn e' ∣ uc e) ∧
  (∀ e e', e < E → e' < E → e ≠ e' → uf e * kf P pa pb e ∣ uf e' ∨ uf e' * kf P pa pb e' ∣ uf e) ∧
  (∀ e e', e < E → e' < E → uc e * kc bn e ∣ uf e' ∨ uf e' * kf P pa pb e' ∣ uc e)
def alD (P : Nat) (bn pa pb : Nat → Nat) (dc df : Nat → Nat) (e : Nat) : Prop := (bn e = 0 ∨ dc e + 1 < bn e) ∧ ∀ i, i < P → (pa i = e → df (pb i) = 0) ∧ (pb i = e → df (pa i) = 0)
def stC (bn : Nat → Nat) (uc : Nat → Nat) (x e : Nat) : Nat := if bn e = 0 then x else x + uc e
def stF (P : Nat) (pa pb : Nat → Nat) (uf : Nat → Nat) (x e : Nat) : Nat := if inP P pa pb e ∧ dg x (uf e) 2 = 0 then x + uf e else x
theorem stC_dg {E P : Nat} {bn pa pb uc uf : Nat → Nat} (g : guW E P bn pa pb uc uf) {x e : Nat} (he : e < E) (hb : bn e = 0 ∨ dg x (uc e) (kc bn e) + 1 < bn e) :
    (∀ e', e' < E → dg (stC bn uc x e) (uc e') (kc bn e') = if e' = e ∧ bn e ≠ 0 then dg x (uc e') (kc bn e') + 1 else dg x (uc e') (kc bn e')) ∧
    (∀ e', e' < E → dg (stC bn uc x e) (uf e') (kf P pa pb e') = dg x (uf e') (kf P pa pb e')) := by
  obtain ⟨g1, g2, g3, g4⟩ := g
  unfold stC
  by_cases z : bn e = 0
  · simp [z]
  · have k1 : kc bn e = bn e := by unfold kc; rw [if_neg z]
    have h : dg x (uc e) (kc bn e) + 1 < kc bn e := by rw [k1]; rw [k1] at hb; omega
    rw [if_neg z]
    refine ⟨fun e' he' => ?_, fun e' he' => ?_⟩
    · by_cases q : e' = e
      · subst q
        rw [if_pos ⟨rfl, z⟩]
        exact dg_self (g1 _ he).1 h
      · rw [if_neg (fun w => q w.1)]
        rcases g2 e e' he he' (fun w => q w.symm) with w | w
        · exact dg_high (g1 _ he).1 h w
        · exact dg_low (g1 _ he').1 w
    · rcases g4 e e' he he' with w | w
      · exact dg_high (g1 _ he).1 h w
      · exact dg_low (g1 _ he').2 w
theorem stF_dg {E P : Nat} {bn pa pb uc uf : Nat → Nat} (g : guW E P bn pa pb uc uf) {x e : Nat} (he : e < E) :
    (∀ e', e' < E → dg (stF P pa pb uf x e) (uc e') (kc bn e') = dg x (uc e') (kc bn e')) ∧
    (∀ e', e' < E → dg (stF P pa pb uf x e) (uf e') (kf P pa pb e') = if e' = e ∧ inP P pa pb e then 1 else dg x (uf e') (kf P pa pb e')) := by
  obtain ⟨g1, g2, g3, g4⟩ := g
  unfold stF
  by_cases z : inP P pa pb e
  · have k1 : kf P pa pb e = 2 := by unfold kf; rw [if_pos z]
    by_cases y : dg x (uf e) 2 = 0
    · have h : dg x (uf e) (kf P pa pb e) + 1 < kf P pa pb e := by rw [k1, y]; decide
      rw [if_pos ⟨z, y⟩]
      refine ⟨fun e' he' => ?_, fun e' he' => ?_⟩
      · rcases g4 e' e he' he with w | w
        · exact dg_low (g1 _ he').1 w
        · exact dg_high (g1 _ he).2 h w
      · by_cases q : e' = e
        · subst q
          rw [if_pos ⟨rfl, z⟩, dg_self (g1 _ he).2 h, k1, y]
        · rw [if_neg (fun w => q w.1)]
          rcases g3 e e' he he' (fun w => q w.symm) with w | w
          · exact dg_high (g1 _ he).2 h w
          · exact dg_low (g1 _ he').2 w
    · rw [if_neg (fun w => y w.2)]
      refine ⟨fun _ _ => rfl, fun e' he' => ?_⟩
      by_cases q : e' = e
      · subst q
        rw [if_pos ⟨rfl, z⟩, k1]
        have := dg_lt (x := x) (u := uf e') (r := 2) (by decide)
        omega
      · rw [if_neg (fun w => q w.1)]
  · rw [if_neg (fun w => z w.1)]
    refine ⟨fun _ _ => rfl, fun e' he' => ?_⟩
    rw [if_neg (fun w => z w.2)]
def stX (P : Nat) (bn pa pb uc uf : Nat → Nat) (x e : Nat) : Nat := stC bn uc (stF P pa pb uf x e) e
theorem stX_dg {E P : Nat} {bn pa pb uc uf : Nat → Nat} (g : guW E P bn pa pb uc uf) {x e : Nat} (he : e < E) (hb : bn e = 0 ∨ dg x (uc e) (kc bn e) + 1 < bn e) :
    (∀ e', e' < E → dg (stX P bn pa pb uc uf x e) (uc e') (kc bn e') = if e' = e ∧ bn e ≠ 0 then dg x (uc e') (kc bn e') + 1 else dg x (uc e') (kc bn e')) ∧
    (∀ e', e' < E → dg (stX P bn pa pb uc uf x e) (uf e') (kf P pa pb e') = if e' = e ∧ inP P pa pb e then 1 else dg x (uf e') (kf P pa pb e')) := by
  obtain ⟨f1, f2⟩ := stF_dg (x := x) g he
  obtain ⟨c1, c2⟩ := stC_dg (x := stF P pa pb uf x e) g he (by rw [f1 e he]; exact hb)
  refine ⟨fun e' he' => ?_, fun e' he' => ?_⟩
  · rw [stX, c1 e' he', f1 e' he']
  · rw [stX, c2 e' he', f2 e' he']
theorem stX_le {P : Nat} {bn pa pb uc uf : Nat → Nat} {x e : Nat} : x ≤ stX P bn pa pb uc uf x e := by
  unfold stX stC stF
  split <;> split <;> omega
theorem stX_lt {P : Nat} {bn pa pb uc uf : Nat → Nat} {x e : Nat} (hb : bn e ≠ 0) (hu : 0 < uc e) : x < stX P bn pa pb uc uf x e := by
  unfold stX stC stF
  rw [if_neg hb]
  split <;> omega
theorem stX_in {E P N : Nat} {bn pa pb uc uf : Nat → Nat} (g : guW E P bn pa pb uc uf) (hN : ∀ e, e < E → uc e * kc bn e ∣ N ∧ uf e * kf P pa pb e ∣ N) {x e : Nat} (he : e < E) (hb : bn e = 0 ∨ dg x (uc e) (kc bn e) + 1 < bn e) (hx : x < N) : stX P bn pa pb uc uf x e < N := by
  have hF : stF P pa pb uf x e < N := by
    unfold stF
    split
    · rename_i z
      have k1 : kf P pa pb e = 2 := by unfold kf; rw [if_pos z.1]
      exact dg_grow (g.1 e he).2 (r := kf P pa pb e) (by rw [k1, z.2]; decide) (hN e he).2 hx
    · exact hx
  unfold stX stC
  split
  · exact hF
  · rename_i z
    have k1 : kc bn e = bn e := by unfold kc; rw [if_neg z]
    refine dg_grow (g.1 e he).1 (r := kc bn e) ?_ (hN e he).1 hF
    rw [(stF_dg g he).1 e he, k1]
    rw [k1] at hb
    omega
def ucC (E P : Nat) (bn pa pb : Nat → Nat) (e : Nat) : Nat := prN (kf P pa pb) E * prN (kc bn) e
def ufC (P : Nat) (pa pb : Nat → Nat) (e : Nat) : Nat := prN (kf P pa pb) e
def ucR (B P : Nat) (bn pa pb : Nat → Nat) (e : Nat) : Nat := B * prN (kc bn) e * prN (kf P pa pb) e
def ufR (B P : Nat) (bn pa pb : Nat → Nat) (e : Nat) : Nat := B * prN (kc bn) (e + 1) * prN (kf P pa pb) e
def nC (E P : Nat) (bn pa pb : Nat → Nat) : Nat := prN (kf P pa pb) E * prN (kc bn) E
def nR (B E P : Nat) (bn pa pb : Nat → Nat) : Nat := B * prN (kc bn) E * prN (kf P pa pb) E
theorem nC_R (B E P : Nat) (bn pa pb : Nat → Nat) : nC E P bn pa pb * B = nR B E P bn pa pb := by
  unfold nC nR
  rw [Nat.mul_comm, Nat.mul_comm (prN (kf P pa pb) E), Nat.mul_assoc]
theorem guC (E P : Nat) (bn pa pb : Nat → Nat) : guW E P bn pa pb (ucC E P bn pa pb) (ufC P pa pb) := by
  have p1 := prN_pos (kc_pos bn)
  have p2 := prN_pos (kf_pos P pa pb)
  refine ⟨fun e _ => ⟨Nat.mul_pos (p2 E) (p1 e), p2 e⟩, fun e e' he he' hn => ?_, fun e e' he he' hn => ?_, fun e e' he he' => Or.inr ?_⟩
  · rcases Nat.lt_or_gt_of_ne hn with z | z
    · refine Or.inl ?_
      unfold ucC
      rw [Nat.mul_assoc]
      exact Nat.mul_dvd_mul_left _ (prN_dvd (f := kc bn) (show e + 1 ≤ e' from z))
    · refine Or.inr ?_
      unfold ucC
      rw [Nat.mul_assoc]
      exact Nat.mul_dvd_mul_left _ (prN_dvd (f := kc bn) (show e' + 1 ≤ e from z))
  · rcases Nat.lt_or_gt_of_ne hn with z | z
    · exact Or.inl (prN_dvd (f := kf P pa pb) (show e + 1 ≤ e' from z))
    · exact Or.inr (prN_dvd (f := kf P pa pb) (show e' + 1 ≤ e from z))
  · unfold ucC
    exact Nat.dvd_trans (prN_dvd (f := kf P pa pb) (show e' + 1 ≤ E from he')) (Nat.dvd_mul_right _ _)
theorem guR (B E P : Nat) (bn pa pb : Nat → Nat) (hB : 0 < B) : guW E P bn pa pb (ucR B P bn pa pb) (ufR B P bn pa pb) := by
  have p1 := prN_pos (kc_pos bn)
  have p2 := prN_pos (kf_pos P pa pb)
  have c1 : ∀ e, ucR B P bn pa pb e * kc bn e = B * prN (kc bn) (e + 1) * prN (kf P pa pb) e := fun e => by
    unfold ucR
    show _ = B * (prN (kc bn) e * kc bn e) * _
    rw [Nat.mul_right_comm, Nat.mul_assoc B]
  have f1 : ∀ e, ufR B P bn pa pb e * kf P pa pb e = B * prN (kc bn) (e + 1) * prN (kf P pa pb) (e + 1) := fun e => by
    unfold ufR
    rw [Nat.mul_assoc]
    rfl
  have mm : ∀ a b c d, a ≤ c → b ≤ d → B * prN (kc bn) a * prN (kf P pa pb) b ∣ B * prN (kc bn) c * prN (kf P pa pb) d := fun a b c d h1 h2 => Nat.mul_dvd_mul (Nat.mul_dvd_mul_left _ (prN_dvd h1)) (prN_dvd h2)
  refine ⟨fun e _ => ⟨Nat.mul_pos (Nat.mul_pos hB (p1 e)) (p2 e), Nat.mul_pos (Nat.mul_pos hB (p1 _)) (p2 e)⟩, fun e e' he he' hn => ?_, fun e e' he he' hn => ?_, fun e e' he he' => ?_⟩
  · rw [c1, c1]
    rcases Nat.lt_or_gt_of_ne hn with z | z
    · exact Or.inl (mm _ _ _ _ z (by omega))
    · exact Or.inr (mm _ _ _ _ z (by omega))
  · rw [f1, f1]
    rcases Nat.lt_or_gt_of_ne hn with z | z
    · exact Or.inl (mm _ _ _ _ (by omega) z)
    · exact Or.inr (mm _ _ _ _ (by omega) z)
  · rw [c1, f1]
    rcases Nat.lt_or_ge e' e with z | z
    · exact Or.inr (mm _ _ _ _ z z)
    · exact Or.inl (mm _ _ _ _ (by omega) z)
theorem nC_d {E P : Nat} {bn pa pb : Nat → Nat} : ∀ e, e < E → ucC E P bn pa pb e * kc bn e ∣ nC E P bn pa pb ∧ ufC P pa pb e * kf P pa pb e ∣ nC E P bn pa pb := by
  intro e he
  refine ⟨?_, Nat.dvd_trans (prN_dvd (f := kf P pa pb) (show e + 1 ≤ E from he)) (Nat.dvd_mul_right _ _)⟩
  unfold ucC nC
  rw [Nat.mul_assoc]
  exact Nat.mul_dvd_mul_left _ (prN_dvd (f := kc bn) (show e + 1 ≤ E from he))
theorem nR_d {B E P : Nat} {bn pa pb : Nat → Nat} : ∀ e, e < E → ucR B P bn pa pb e * kc bn e ∣ nR B E P bn pa pb ∧ ufR B P bn pa pb e * kf P pa pb e ∣ nR B E P bn pa pb := by
  intro e he
  unfold ucR ufR nR
  constructor
  · rw [Nat.mul_right_comm, Nat.mul_assoc B]
    exact Nat.mul_dvd_mul (Nat.mul_dvd_mul_left _ (prN_dvd (f := kc bn) (show e + 1 ≤ E from he))) (prN_dvd (by omega))
  · rw [Nat.mul_assoc]
    exact Nat.mul_dvd_mul (Nat.mul_dvd_mul_left _ (prN_dvd (f := kc bn) (show e + 1 ≤ E from he))) (prN_dvd (f := kf P pa pb) (show e + 1 ≤ E from he))
def bhR (B P : Nat) (bn pa pb fr to : Nat → Nat) (p e : Nat) : Nat := stX P bn pa pb (ucR B P bn pa pb) (ufR B P bn pa pb) (p - fr e + to e) e
theorem mv_div {B p f t : Nat} (hf : p % B = f) (ht : t < B) : (p - f + t) / B = p / B ∧ (p - f + t) % B = t := by
  have e := Nat.div_add_mod p B
  have e2 : p - f + t = t + B * (p / B) := by omega
  have hB : 0 < B := by omega
  rw [e2]
  exact ⟨by rw [Nat.add_mul_div_left _ _ hB, Nat.div_eq_of_lt ht, Nat.zero_add], by rw [Nat.add_mul_mod_self_left, Nat.mod_eq_of_lt ht]⟩
theorem mv_dg {B p p' u r : Nat} (h : p' / B = p / B) (hd : B ∣ u) : dg p' u r = dg p u r := by
  obtain ⟨k, rfl⟩ := hd
  unfold dg
  rw [← Nat.div_div_eq_div_mul, ← Nat.div_div_eq_div_mul, h]
theorem ucR_d {B P : Nat} {bn pa pb : Nat → Nat} (e : Nat) : B ∣ ucR B P bn pa pb e ∧ B ∣ ufR B P bn pa pb e := ⟨by unfold ucR; rw [Nat.mul_assoc]; exact Nat.dvd_mul_right _ _, by unfold ufR; rw [Nat.mul_assoc]; exact Nat.dvd_mul_right _ _⟩
theorem stX_mod {B P : Nat} {bn pa pb : Nat → Nat} {x e : Nat} : stX P bn pa pb (ucR B P bn pa pb) (ufR B P bn pa pb) x e % B = x % B := by
  obtain ⟨⟨k, hk⟩, ⟨m, hm⟩⟩ := ucR_d (B := B) (P := P) (bn := bn) (pa := pa) (pb := pb) e
  unfold stX stC stF
  split <;> split <;> simp [hk, hm, Nat.add_assoc, ← Nat.mul_add]
