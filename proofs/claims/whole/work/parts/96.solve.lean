theorem ix_inj {B c b c' b' : Nat} (hb : b < B) (hb' : b' < B) (h : c * B + b = c' * B + b') : c = c' ∧ b = b' := by
  have hB : 0 < B := by omega
  have e1 : (c * B + b) / B = c := by rw [Nat.mul_comm, Nat.mul_add_div hB, Nat.div_eq_of_lt hb, Nat.add_zero]
  have e2 : (c' * B + b') / B = c' := by rw [Nat.mul_comm, Nat.mul_add_div hB, Nat.div_eq_of_lt hb', Nat.add_zero]
  rw [h, e2] at e1
  subst e1
  omega
def tMx : Nat := 200000
theorem tMx_40 : 40000 * tMx < 2 ^ 60 := by decide
def vsF (B E P : Nat) (bn pa pb fr to tH tL r Mo Fe : Nat → Nat) (c b : Nat) : Prop := eqC B E P bn pa pb fr to tH tL Mo Fe c b ∧ (Mo (c * B + b) = 0 ↔ Fe (c * B + b) = 0) ∧ Mo (c * B + b) ≤ 1 + (nC E P bn pa pb * B - rkC B r c b) * tMx ∧ Fe (c * B + b) ≤ 1 + (nC E P bn pa pb * B - rkC B r c b) * tMx
def vsI (B E P : Nat) (bn pa pb cm fr to tH tL r Mo Fe : Nat → Nat) (k : Nat) : Prop := ∀ c b, c < nC E P bn pa pb → b < B → cm b = 1 → k ≤ rkC B r c b → vsF B E P bn pa pb fr to tH tL r Mo Fe c b
theorem vs_step {B E P : Nat} {bn pa pb cm fr to tH tL r Mo Fe : Nat → Nat} {c b vM vF : Nat} (hB : 0 < B) (hft : ∀ e, e < E → fr e < B ∧ to e < B) (hcl : ∀ e, e < E → cm (fr e) = 1 → cm (to e) = 1) (hT : ∀ b, b < B → tH b ≤ tMx ∧ tL b ≤ tMx) (hr : acR B E bn cm fr to r)
    (hV : vsI B E P bn pa pb cm fr to tH tL r Mo Fe (rkC B r c b + 1)) (hc : c < nC E P bn pa pb) (hb : b < B) (hcb : cm b = 1)
    (huq : ∀ c' b', c' < nC E P bn pa pb → b' < B → cm b' = 1 → rkC B r c' b' = rkC B r c b → c' = c ∧ b' = b)
    (hv : eqV (fun e => e < E ∧ fr e = b ∧ alC E P bn pa pb c e) (fun e => Mo (nxC E P bn pa pb c e * B + to e)) (fun e => Fe (nxC E P bn pa pb c e * B + to e)) (endZ E fr b) (tH b) (tL b) vM vF) :
    vsI B E P bn pa pb cm fr to tH tL r (fun j => if j = c * B + b then vM else Mo j) (fun j => if j = c * B + b then vF else Fe j) (rkC B r c b) := by
  have oth : ∀ c' b' e, b' < B → cm b' = 1 → rkC B r c b ≤ rkC B r c' b' → e < E → fr e = b' → nxC E P bn pa pb c' e * B + to e ≠ c * B + b := by
    intro c' b' e hb' hcb' hk he hf z
    obtain ⟨z1, z2⟩ := ix_inj (hft e he).2 hb z
    have := rkC_st (P := P) (pa := pa) (pb := pb) (c := c') hr he (hft e he).1 (hft e he).2 (by rw [hf]; exact hcb')
    rw [z1, z2, hf] at this
    omega
  have zz : endZ E fr b ≤ 1 := by unfold endZ; split <;> omega
  intro c' b' hc' hb' hcb' hk
  by_cases same : c' = c ∧ b' = b
  · obtain ⟨s1, s2⟩ := same
    subst s1 s2
    have suc : ∀ e, e < E ∧ fr e = b' ∧ alC E P bn pa pb c' e → vsF B E P bn pa pb fr to tH tL r Mo Fe (nxC E P bn pa pb c' e) (to e) ∧ rkC B r c' b' < rkC B r (nxC E P bn pa pb c' e) (to e) := by
      rintro e ⟨he, hf, ha⟩
      have hcf : cm (fr e) = 1 := by rw [hf]; exact hcb
      have k := rkC_st (P := P) (pa := pa) (pb := pb) (c := c') hr he (hft e he).1 (hft e he).2 hcf
      rw [hf] at k
      exact ⟨hV _ _ (nxC_in he ha hc) (hft e he).2 (hcl e he hcf) (by omega), k⟩
    have hlt := rkC_lt (r := r) (b := b') hB hc
    have ne1 : ∀ e, e < E ∧ fr e = b' ∧ alC E P bn pa pb c' e → nxC E P bn pa pb c' e * B + to e ≠ c' * B + b' := fun e ⟨he, hf, _⟩ => oth c' b' e hb hcb (Nat.le_refl _) he hf
    obtain ⟨l1, l2⟩ := eqV_le (D := (nC E P bn pa pb * B - rkC B r c' b' - 1) * tMx) (T := tMx) hv zz (fun e he => by
        obtain ⟨k1, k2⟩ := suc e he
        have := k1.2.2.1
        have m : (nC E P bn pa pb * B - rkC B r (nxC E P bn pa pb c' e) (to e)) * tMx ≤ (nC E P bn pa pb * B - rkC B r c' b' - 1) * tMx := Nat.mul_le_mul_right _ (by omega)
        show Mo _ ≤ _
        omega) (fun e he => by
        obtain ⟨k1, k2⟩ := suc e he
        have := k1.2.2.2
        have m : (nC E P bn pa pb * B - rkC B r (nxC E P bn pa pb c' e) (to e)) * tMx ≤ (nC E P bn pa pb * B - rkC B r c' b' - 1) * tMx := Nat.mul_le_mul_right _ (by omega)
        show Fe _ ≤ _
        omega) (hT b' hb).1 (hT b' hb).2
    have ez := eqV_z hv (fun e he => (suc e he).1.2.1)
    have em : (nC E P bn pa pb * B - rkC B r c' b' - 1) * tMx + tMx = (nC E P bn pa pb * B - rkC B r c' b') * tMx := by
      rw [← Nat.succ_mul]
      congr 1
      omega
    refine ⟨?_, ?_, ?_, ?_⟩
    · unfold eqC
      simp only [if_true]
      exact eqV_cg hv (fun e he => by show _ = if _ then vM else _; rw [if_neg (ne1 e he)]) (fun e he => by show _ = if _ then vF else _; rw [if_neg (ne1 e he)])
    · simp only [if_true]
      exact ez
    · simp only [if_true]
      omega
    · simp only [if_true]
      omega
  · have hk2 : rkC B r c b + 1 ≤ rkC B r c' b' := by
      rcases Nat.lt_or_eq_of_le hk with z | z
      · exact z
      · exact absurd (huq c' b' hc' hb' hcb' z.symm) same
    obtain ⟨v1, v2, v3, v4⟩ := hV c' b' hc' hb' hcb' hk2
    have ne : c' * B + b' ≠ c * B + b := fun z => same (ix_inj hb' hb z)
    unfold vsF eqC
    simp only [if_neg ne]
    refine ⟨?_, v2, v3, v4⟩
    exact eqV_cg v1 (fun e ⟨he, hf, _⟩ => by show _ = if _ then vM else _; rw [if_neg (oth c' b' e hb' hcb' hk he hf)]) (fun e ⟨he, hf, _⟩ => by show _ = if _ then vF else _; rw [if_neg (oth c' b' e hb' hcb' hk he hf)])
theorem m1_eq (k : Nat) : nI k + (-1) = nI k - 1 := by rw [Int32.sub_eq_add_neg]
theorem sp_valueStates {B E P m : Nat} {bn cm fr to pa pb lv fl un fg fo od tH tL Mo Fe : Nat → Nat} {GT LT : Nat → Int32} {Q : (Nat → Int64) → (Nat → Int64) → Prop} (hB0 : 0 < B) (hp : sgP B E P bn fr to pa pb)
    (hfl : ∀ b, b < B → fl b ≤ fl (b + 1) ∧ fl (b + 1) ≤ E ∧ ∀ i, fl b ≤ i → i < fl (b + 1) → lv i < E ∧ fr (lv i) = b) (hall : ∀ e, e < E → ∃ i, fl (fr e) ≤ i ∧ i < fl (fr e + 1) ∧ lv i = e)
    (hl : layC E P bn pa pb un fg fo) (hN : nR B E P bn pa pb ≤ 40000) (hcl : ∀ e, e < E → cm (fr e) = 1 → cm (to e) = 1) (hO : ordOK B E bn cm fr to od m) (hGT : ∀ b, b < B → GT b = nI (tH b) ∧ LT b = nI (tL b)) (hT : ∀ b, b < B → tH b ≤ tMx ∧ tL b ≤ tMx)
    (h : ∀ Mo Fe, vsI B E P bn pa pb cm fr to tH tL (fun b => B - 1 - posN od m b) Mo Fe 0 → Q (repL Mo) (repL Fe)) :
    wp_X2_valueStates (nI B) (nI (nC E P bn pa pb)) (nI m) (rep to) (rpB bn) (rep lv) (rep fl) GT LT (rep od) (rep un) (rep fg) (rep fo) (repL Mo) (repL Fe) Q := by
  have hp2 := id hp
  obtain ⟨⟨hB, hE, hP⟩, hft, hbn, hpp⟩ := hp2
  have hO2 := id hO
  obtain ⟨o1, o2, o3, o4, o5⟩ := hO2
  have hr := ordOK_ac hB0 hft hcl hO
  have hNC : nC E P bn pa pb * B ≤ 40000 := by rw [nC_R]; exact hN
  have hNC1 : nC E P bn pa pb ≤ 40000 := Nat.le_trans (Nat.le_mul_of_pos_right _ hB0) hNC
  have rk : ∀ c j, j < m → rkC B (fun b => B - 1 - posN od m b) c (od j) = c * B + j := by
    intro c j hj
    show c * B + (B - 1 - (B - 1 - posN od m (od j))) = c * B + j
    rw [posN_at m j o3 hj]
    omega
  have rk2 : ∀ c b, b < B → cm b = 1 → ∃ j, j < m ∧ od j = b ∧ rkC B (fun b => B - 1 - posN od m b) c b = c * B + j := by
    intro c b hb hc
    obtain ⟨j, j1, j2⟩ := o4 b hb hc
    refine ⟨j, j1, j2, ?_⟩
    rw [← j2]
    exact rk c j j1
  have rl : ∀ c j, c < nC E P bn pa pb → j < m → c * B + j < 40000 := by
    intro c j hc hj
    have : (c + 1) * B ≤ nC E P bn pa pb * B := Nat.mul_le_mul_right _ hc
    rw [Nat.add_mul] at this
    omega
  have L19 : ∀ K : Int32 → (Nat → Int64) → (Nat → Int64) → Prop, ∀ c, c < nC E P bn pa pb → (∀ Mo Fe, vsI B E P bn pa pb cm fr to tH tL (fun b => B - 1 - posN od m b) Mo Fe (c * B) → K (nI c - 1) (repL Mo) (repL Fe)) →
      ∀ y, y ≤ m → ∀ Mo Fe, vsI B E P bn pa pb cm fr to tH tL (fun b => B - 1 - posN od m b) Mo Fe (c * B + y) → lp_X2_valueStates_19 (nI c) (nI B) (nI (nC E P bn pa pb)) (nI m) (rep to) (rpB bn) (rep lv) (rep fl) GT LT (rep od) (rep un) (rep fg) (rep fo) K Q (y + 1) (nI y - 1) (repL Mo) (repL Fe) := by
    intro K c hc hK y
    induction y with
    | zero =>
      intro _ Mo Fe hV
      unfold lp_X2_valueStates_19
      rw [m1_eq]
      exact ⟨fun _ => hK Mo Fe hV, fun q => absurd (show nI 0 - 1 < 0 by decide) q⟩
    | succ y ih =>
      intro hy Mo Fe hV
      have cy : (nI y).toNatClampNeg = y := nI_clamp (by omega)
      obtain ⟨ob, oc⟩ := o2 y (by omega)
      have hrl := rl c y hc (by omega)
      unfold lp_X2_valueStates_19
      rw [nI_pred, cy, rep_at od, m1_eq y]
      refine ⟨fun q => absurd q (nI_pos (by omega)), fun _ => ⟨vp_in_nI (by omega) (by decide), ?_⟩⟩
      have hV2 : vsI B E P bn pa pb cm fr to tH tL (fun b => B - 1 - posN od m b) Mo Fe (rkC B (fun b => B - 1 - posN od m b) c (od y) + 1) := by rw [rk c y (by omega)]; exact hV
      refine sp_valueState hp hfl hall hl hN ob hc (hGT _ ob).1 (hGT _ ob).2 (hT _ ob) (fun e he hf ha => ?_) (fun vM vF hv => ?_)
      · have hcf : cm (fr e) = 1 := by rw [hf]; exact oc
        have k := rkC_st (P := P) (pa := pa) (pb := pb) (c := c) hr he (hft e he).1 (hft e he).2 hcf
        rw [hf] at k
        obtain ⟨_, k2, k3, k4⟩ := hV2 _ _ (nxC_in he ha hc) (hft e he).2 (hcl e he hcf) k
        have sm : (nC E P bn pa pb * B - rkC B (fun b => B - 1 - posN od m b) (nxC E P bn pa pb c e) (to e)) * tMx ≤ 40000 * tMx := Nat.mul_le_mul_right _ (by omega)
        have t4 := tMx_40
        exact ⟨k2, by omega, by omega⟩
      · refine ih (by omega) _ _ ?_
        have k := vs_step hB0 hft hcl hT hr hV2 hc ob oc (fun c' b' hc' hb' hcb' hq => ?_) hv
        · rw [rk c y (by omega)] at k
          exact k
        · obtain ⟨j, j1, j2, j3⟩ := rk2 c' b' hb' hcb'
          rw [rk c y (by omega), j3] at hq
          obtain ⟨q1, q2⟩ := ix_inj (show j < B by omega) (show y < B by omega) hq
          exact ⟨q1, by rw [← j2, q2]⟩
  have L7 : ∀ x, x ≤ nC E P bn pa pb → ∀ Mo Fe, vsI B E P bn pa pb cm fr to tH tL (fun b => B - 1 - posN od m b) Mo Fe (x * B) → lp_X2_valueStates_7 (nI B) (nI (nC E P bn pa pb)) (nI m) (rep to) (rpB bn) (rep lv) (rep fl) GT LT (rep od) (rep un) (rep fg) (rep fo) Q (x + 1) (nI x - 1) (repL Mo) (repL Fe) := by
    intro x
    induction x with
    | zero =>
      intro _ Mo Fe hV
      unfold lp_X2_valueStates_7
      rw [Nat.zero_mul] at hV
      exact ⟨fun _ => h Mo Fe hV, fun q => absurd (show nI 0 - 1 < 0 by decide) q⟩
    | succ x ih =>
      intro hx Mo Fe hV
      unfold lp_X2_valueStates_7
      rw [nI_pred]
      refine ⟨fun q => absurd q (nI_pos (by omega)), fun _ => ⟨m + 1, ?_⟩⟩
      refine L19 _ x (by omega) (fun Mo Fe hV => ih (by omega) Mo Fe hV) m (Nat.le_refl _) Mo Fe (fun c b hc hb hcb hk => hV c b hc hb hcb ?_)
      obtain ⟨j, j1, j2, j3⟩ := rk2 c b hb hcb
      rw [j3] at hk ⊢
      have : x < c := by
        rcases Nat.lt_or_ge x c with z | z
        · exact z
        · have := Nat.mul_le_mul_right B z
          omega
      have := Nat.mul_le_mul_right B (Nat.succ_le_of_lt this)
      have e : Nat.succ x = x + 1 := rfl
      rw [e] at this
      omega
  unfold wp_X2_valueStates
  refine ⟨nC E P bn pa pb + 1, L7 _ (Nat.le_refl _) Mo Fe (fun c b hc hb hcb hk => ?_)⟩
  have := rkC_lt (r := fun b => B - 1 - posN od m b) (b := b) hB0 hc
  omega
def seC (B E P : Nat) (bn pa pb cm fr to tH tL un fg fo Mo Fe : Nat → Nat) (an cc : Nat) : Prop :=
  (an = 1 ∧ 0 < B ∧ nR B E P bn pa pb ≤ 40000 ∧ (∃ r, acR B E bn cm fr to r ∧ vsI B E P bn pa pb cm fr to tH tL r Mo Fe 0) ∧ layC E P bn pa pb un fg fo ∧ cc = nC E P bn pa pb ∧ Mo 0 ≠ 0) ∨
  (an = 0 ∧ (B = 0 ∨ 40000 < nR B E P bn pa pb ∨ (¬ ∃ r, acR B E bn cm fr to r) ∨ (nR B E P bn pa pb ≤ 40000 ∧ ∃ r Mo Fe, acR B E bn cm fr to r ∧ vsI B E P bn pa pb cm fr to tH tL r Mo Fe 0 ∧ Mo 0 = 0)))
theorem sp_solve {B E P od0 cc0 : Nat} {an0 : Int32} {bn cm fr to pa pb lv fl un fg fo od ar tH tL Mo Fe : Nat → Nat} {GT LT : Nat → Int32} {Q : Int32 → Int32 → Int32 → (Nat → Int32) → (Nat → Int32) → (Nat → Int32) → (Nat → Int32) → (Nat → Int32) → (Nat → Int64) → (Nat → Int64) → Prop} (hp : sgP B E P bn fr to pa pb)
    (hfl : ∀ b, b < B → fl b ≤ fl (b + 1) ∧ fl (b + 1) ≤ E ∧ ∀ i, fl b ≤ i → i < fl (b + 1) → lv i < E ∧ fr (lv i) = b) (hall : ∀ e, e < E → ∃ i, fl (fr e) ≤ i ∧ i < fl (fr e + 1) ∧ lv i = e) (hs : lvS B lv fl) (hcm : ∀ b, cm b ≤ 1) (hc0 : 0 < B → cm 0 = 1)
    (hcl : ∀ e, e < E → cm (fr e) = 1 → cm (to e) = 1) (hGT : ∀ b, b < B → GT b = nI (tH b) ∧ LT b = nI (tL b)) (hT : ∀ b, b < B → tH b ≤ tMx ∧ tL b ≤ tMx)
    (h : ∀ an cc od0 un fg fo od ar Mo Fe, an ≤ 1 → seC B E P bn pa pb cm fr to tH tL un fg fo Mo Fe an cc → Q (nI an) (nI cc) (nI od0) (rep od) (rep ar) (rep un) (rep fg) (rep fo) (repL Mo) (repL Fe)) :
    wp_X2_solve (nI B) (nI E) (nI P) (nI (sumN cm B)) an0 (nI cc0) (nI od0) (rep fr) (rep to) (rpB bn) (rep pa) (rep pb) (rep lv) (rep fl) (rep cm) GT LT (rep od) (rep ar) (rep un) (rep fg) (rep fo) (repL Mo) (repL Fe) Q := by
  have hp2 := id hp
  obtain ⟨⟨hB, hE, hP⟩, hft, hbn, hpp⟩ := hp2
  have c00 : (0 : Int32).toNatClampNeg = 0 := by decide
  unfold wp_X2_solve
  refine ⟨fun q => ?_, fun q => ?_⟩
  · have q : B = 0 := (nI_eq (by omega) (by decide)).mp (show nI B = nI 0 from q)
    exact h 0 cc0 od0 un fg fo od ar Mo Fe (by omega) (Or.inr ⟨rfl, Or.inl q⟩)
  · have hB0 : 0 < B := by
      rcases Nat.eq_zero_or_pos B with z | z
      · exact absurd (by rw [z]; decide) q
      · exact z
    refine sp_fits hp (fun hN => ⟨fun z => absurd z (by decide), fun _ => ?_⟩) (fun hN => ⟨fun _ => ?_, fun z => absurd rfl z⟩)
    · refine sp_orderBlocks hB hE hft hfl hall hs hbn hcm hcl (fun od ar m hO => ⟨fun _ => ?_, fun z => absurd z (by decide)⟩) (fun od ar m hm hno => ⟨fun z => absurd rfl z, fun _ => ?_⟩)
      · have hNC : nC E P bn pa pb * B ≤ 40000 := by rw [nC_R]; exact hN
        have hNC1 : nC E P bn pa pb ≤ 40000 := Nat.le_trans (Nat.le_mul_of_pos_right _ hB0) hNC
        have hNC0 : 0 < nC E P bn pa pb := Nat.mul_pos (prN_pos (kf_pos P pa pb) E) (prN_pos (kc_pos bn) E)
        have hr := ordOK_ac hB0 hft hcl hO
        refine sp_layOut hE hP hpp hbn hNC1 (fun un fg fo hl => ?_)
        refine sp_valueStates hB0 hp hfl hall hl hN hcl hO hGT hT (fun Mo Fe hV => ?_)
        have v0 := (hV 0 0 hNC0 hB0 (hc0 hB0) (Nat.zero_le _)).2.2.1
        have sm : (nC E P bn pa pb * B - rkC B (fun b => B - 1 - posN od m b) 0 0) * tMx ≤ 40000 * tMx := Nat.mul_le_mul_right _ (by omega)
        have e0 : 0 * B + 0 = 0 := by omega
        rw [e0] at v0
        have t4 := tMx_40
        rw [c00, repL_at, lg_n (by omega)]
        refine ⟨vp_in_nI (n := 0) (by decide) (by decide), fun z => ?_, fun z => ?_⟩
        · exact h 0 _ m un fg fo od ar Mo Fe (by omega) (Or.inr ⟨rfl, Or.inr (Or.inr (Or.inr ⟨hN, _, Mo, Fe, hr, hV, z⟩))⟩)
        · exact h 1 _ m un fg fo od ar Mo Fe (by omega) (Or.inl ⟨rfl, hB0, hN, ⟨_, hr, hV⟩, hl, rfl, z⟩)
      · exact h 0 cc0 m un fg fo od ar Mo Fe (by omega) (Or.inr ⟨rfl, Or.inr (Or.inr (Or.inl hno))⟩)
    · exact h 0 cc0 od0 un fg fo od ar Mo Fe (by omega) (Or.inr ⟨rfl, Or.inr (Or.inl hN)⟩)
