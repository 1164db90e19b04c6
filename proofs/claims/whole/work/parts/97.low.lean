def encE (E r : Nat) : Int32 := if r < E then nI r else -1
theorem lE_sub (v t : Nat) : lE (v + t) - lN t = lE v := by rw [← lE_add, Int64.add_sub_cancel]
theorem vsI_v {B E P : Nat} {bn pa pb cm fr to tH tL r Mo Fe : Nat → Nat} (hB : 0 < B) (hN : nR B E P bn pa pb ≤ 40000) (hV : vsI B E P bn pa pb cm fr to tH tL r Mo Fe 0) {c b : Nat} (hc : c < nC E P bn pa pb) (hb : b < B) (hcb : cm b = 1) : Mo (c * B + b) < 2 ^ 61 ∧ Fe (c * B + b) < 2 ^ 61 := by
  obtain ⟨_, _, k3, k4⟩ := hV c b hc hb hcb (Nat.zero_le _)
  have hNC : nC E P bn pa pb * B ≤ 40000 := by rw [nC_R]; exact hN
  have sm : (nC E P bn pa pb * B - rkC B r c b) * tMx ≤ 40000 * tMx := Nat.mul_le_mul_right _ (by omega)
  have t4 := tMx_40
  omega
theorem ix_lt {B N c b : Nat} (hc : c < N) (hb : b < B) (hN : N * B ≤ 40000) : c * B + b < 40000 := by
  have : (c + 1) * B ≤ N * B := Nat.mul_le_mul_right _ hc
  rw [Nat.add_mul] at this
  omega
section LOW
variable {B E P : Nat} {bn cm fr to pa pb lv fl un fg fo tH tL r Mo Fe : Nat → Nat} {GT LT : Nat → Int32}
theorem sp_low0 {c b : Nat} {Q : Int32 → Prop} (hB0 : 0 < B) (hp : sgP B E P bn fr to pa pb)
    (hfl : ∀ b, b < B → fl b ≤ fl (b + 1) ∧ fl (b + 1) ≤ E ∧ ∀ i, fl b ≤ i → i < fl (b + 1) → lv i < E ∧ fr (lv i) = b) (hall : ∀ e, e < E → ∃ i, fl (fr e) ≤ i ∧ i < fl (fr e + 1) ∧ lv i = e) (hs : lvS B lv fl)
    (hl : layC E P bn pa pb un fg fo) (hN : nR B E P bn pa pb ≤ 40000) (hcl : ∀ e, e < E → cm (fr e) = 1 → cm (to e) = 1) (hGT : ∀ b, b < B → GT b = nI (tH b) ∧ LT b = nI (tL b)) (hT : ∀ b, b < B → tH b ≤ tMx ∧ tL b ≤ tMx)
    (hV : vsI B E P bn pa pb cm fr to tH tL r Mo Fe 0) (hc : c < nC E P bn pa pb) (hb : b < B) (hcb : cm b = 1) (h0 : Mo (c * B + b) ≠ 0)
    (h : ∀ r, isLow (goC B E P bn pa pb fr to tH Mo c b) E r → Q (encE E r)) :
    wp_X2_lowestEdge 0 (nI c) (nI b) (nI B) (rep to) (rpB bn) (rep lv) (rep fl) GT LT (rep un) (rep fg) (rep fo) (repL Mo) (repL Fe) Q := by
  obtain ⟨⟨hB, hE, hP⟩, hft, hbn, hpp⟩ := hp
  obtain ⟨f1, f2, f3⟩ := hfl b hb
  have hNC : nC E P bn pa pb * B ≤ 40000 := by rw [nC_R]; exact hN
  have hNC1 : nC E P bn pa pb ≤ 40000 := Nat.le_trans (Nat.le_mul_of_pos_right _ hB0) hNC
  have own := ix_lt hc hb hNC
  have cb : (nI b).toNatClampNeg = b := nI_clamp (by omega)
  have cb1 : (nI (b + 1)).toNatClampNeg = b + 1 := nI_clamp (by omega)
  have ib : vp_in (nI b) 40 := vp_in_nI (by omega) (by decide)
  have ib1 : vp_in (nI b) 41 := vp_in_nI (by omega) (by decide)
  have ib2 : vp_in (nI (b + 1)) 41 := vp_in_nI (by omega) (by decide)
  have co : (nI (c * B + b)).toNatClampNeg = c * B + b := nI_clamp (by omega)
  have io : vp_in (nI (c * B + b)) 40000 := vp_in_nI own (by decide)
  have ov : nI c * nI B + nI b = nI (c * B + b) := by rw [pk_mul, nI_add]
  have tl := (hT b hb).1
  have tmx : tMx < 2 ^ 31 := by decide
  have tHl : (GT b).toInt64 = lN (tH b) := by rw [(hGT b hb).1]; exact nI_l (by omega)
  have ex : ∃ hi, hi ≠ 0 ∧ Mo (c * B + b) = hi + tH b := by
    obtain ⟨⟨hi, lo, a1, a2, a3, a4⟩, _⟩ := hV c b hc hb hcb (Nat.zero_le _)
    refine ⟨hi, fun z => h0 ?_, ?_⟩
    · rw [a3, if_pos z]
    · rw [a3, if_neg]
      intro z
      exact h0 (by rw [a3, if_pos z])
  obtain ⟨hi, hi0, hih⟩ := ex
  have vb := (vsI_v hB0 hN hV hc hb hcb).1
  have LP : ∀ d i, i + d = fl (b + 1) → fl b ≤ i → (∀ j, fl b ≤ j → j < i → ¬ goC B E P bn pa pb fr to tH Mo c b (lv j)) → lp_X2_lowestEdge_51_s_most (nI c) (nI b) (lE hi) (nI B) (rep to) (rpB bn) (rep lv) (rep fl) GT LT (rep un) (rep fg) (rep fo) (repL Mo) (repL Fe) Q (d + 1) (nI i) := by
    intro d
    induction d with
    | zero =>
      intro i hi1 hi2 hno
      have z : i = fl (b + 1) := by omega
      subst z
      unfold lp_X2_lowestEdge_51_s_most
      rw [nI_1, cb1, rep_at fl]
      refine ⟨ib2, fun _ => ?_, fun q => absurd (nI_le (Nat.le_refl _) (by omega)) q⟩
      have := h E (Or.inl ⟨rfl, fun e he hg => ?_⟩)
      · unfold encE at this
        rw [if_neg (by omega)] at this
        exact this
      · obtain ⟨j, j1, j2, j3⟩ := hall e he
        rw [hg.1] at j1 j2
        exact hno j j1 j2 (by rw [j3]; exact hg)
    | succ d ih =>
      intro i hi1 hi2 hno
      have hlt : i < fl (b + 1) := by omega
      obtain ⟨g1, g2⟩ := f3 i hi2 hlt
      obtain ⟨hf, ht⟩ := hft (lv i) g1
      have ci : (nI i).toNatClampNeg = i := nI_clamp (by omega)
      have ii : vp_in (nI i) 80 := vp_in_nI (by omega) (by decide)
      have next : ¬ goC B E P bn pa pb fr to tH Mo c b (lv i) → lp_X2_lowestEdge_51_s_most (nI c) (nI b) (lE hi) (nI B) (rep to) (rpB bn) (rep lv) (rep fl) GT LT (rep un) (rep fg) (rep fo) (repL Mo) (repL Fe) Q (d + 1) (nI (i + 1)) := fun ng => ih (i + 1) (by omega) (by omega) (fun j j1 j2 => by
        by_cases z : j = i
        · rw [z]; exact ng
        · exact hno j j1 (by omega))
      unfold lp_X2_lowestEdge_51_s_most
      rw [nI_1 b, cb1, rep_at fl, ci, rep_at lv, nI_1 i]
      refine ⟨ib2, fun q => absurd q (nI_ge hlt (by omega)), fun _ => ⟨ii, ?_⟩⟩
      refine sp_stateBehind hE hbn hpp hNC1 hl g1 hc (fun ha => ?_) (fun ha => ⟨fun _ => next (fun hg => ha hg.2.1), fun q => absurd rfl q⟩)
      have nin := nxC_in g1 ha hc
      have sl := ix_lt nin ht hNC
      have sv := (vsI_v hB0 hN hV nin ht (hcl _ g1 (by rw [g2]; exact hcb))).1
      have cs : (nI (nxC E P bn pa pb c (lv i) * B + to (lv i))).toNatClampNeg = nxC E P bn pa pb c (lv i) * B + to (lv i) := nI_clamp (by omega)
      rw [cs, repL_at, lg_0, lE_inj (by omega) (by omega)]
      refine ⟨fun q => ?_, fun _ => ⟨vp_in_nI sl (by decide), fun q => next (fun hg => q ?_), fun q => ⟨ii, ?_⟩⟩⟩
      · have k := nI_pos (n := nxC E P bn pa pb c (lv i) * B + to (lv i)) (by omega)
        rw [q] at k
        exact absurd (show (-1 : Int32) < 0 by decide) k
      · have := hg.2.2.2
        omega
      · have := h (lv i) (Or.inr ⟨g1, ⟨g2, ha, by omega, by omega⟩, fun e he hg => ?_⟩)
        · unfold encE at this
          rw [if_pos g1] at this
          exact this
        · obtain ⟨j, j1, j2, j3⟩ := hall e (by omega)
          rw [hg.1] at j1 j2
          rcases Nat.lt_trichotomy j i with z | z | z
          · exact hno j j1 z (by rw [j3]; exact hg)
          · rw [z] at j3; omega
          · have := hs b hb i j hi2 z j2
            omega
  unfold wp_X2_lowestEdge
  rw [ov, co, cb, rep_at fl, repL_at, repL_at, tHl, hih, lE_sub]
  refine ⟨fun q => absurd rfl q, fun _ => ⟨io, fun _ => ⟨ib, ib1, fl (b + 1) - fl b + 1, LP _ _ (by omega) (Nat.le_refl _) (fun j j1 j2 => by omega)⟩, fun q => absurd rfl q⟩⟩
theorem sp_low1 {c b : Nat} {Q : Int32 → Prop} (hB0 : 0 < B) (hp : sgP B E P bn fr to pa pb)
    (hfl : ∀ b, b < B → fl b ≤ fl (b + 1) ∧ fl (b + 1) ≤ E ∧ ∀ i, fl b ≤ i → i < fl (b + 1) → lv i < E ∧ fr (lv i) = b) (hall : ∀ e, e < E → ∃ i, fl (fr e) ≤ i ∧ i < fl (fr e + 1) ∧ lv i = e) (hs : lvS B lv fl)
    (hl : layC E P bn pa pb un fg fo) (hN : nR B E P bn pa pb ≤ 40000) (hcl : ∀ e, e < E → cm (fr e) = 1 → cm (to e) = 1) (hGT : ∀ b, b < B → GT b = nI (tH b) ∧ LT b = nI (tL b)) (hT : ∀ b, b < B → tH b ≤ tMx ∧ tL b ≤ tMx)
    (hV : vsI B E P bn pa pb cm fr to tH tL r Mo Fe 0) (hc : c < nC E P bn pa pb) (hb : b < B) (hcb : cm b = 1) (h0 : Fe (c * B + b) ≠ 0)
    (h : ∀ r, isLow (goC B E P bn pa pb fr to tL Fe c b) E r → Q (encE E r)) :
    wp_X2_lowestEdge 1 (nI c) (nI b) (nI B) (rep to) (rpB bn) (rep lv) (rep fl) GT LT (rep un) (rep fg) (rep fo) (repL Mo) (repL Fe) Q := by
  obtain ⟨⟨hB, hE, hP⟩, hft, hbn, hpp⟩ := hp
  obtain ⟨f1, f2, f3⟩ := hfl b hb
  have hNC : nC E P bn pa pb * B ≤ 40000 := by rw [nC_R]; exact hN
  have hNC1 : nC E P bn pa pb ≤ 40000 := Nat.le_trans (Nat.le_mul_of_pos_right _ hB0) hNC
  have own := ix_lt hc hb hNC
  have cb : (nI b).toNatClampNeg = b := nI_clamp (by omega)
  have cb1 : (nI (b + 1)).toNatClampNeg = b + 1 := nI_clamp (by omega)
  have ib : vp_in (nI b) 40 := vp_in_nI (by omega) (by decide)
  have ib1 : vp_in (nI b) 41 := vp_in_nI (by omega) (by decide)
  have ib2 : vp_in (nI (b + 1)) 41 := vp_in_nI (by omega) (by decide)
  have co : (nI (c * B + b)).toNatClampNeg = c * B + b := nI_clamp (by omega)
  have io : vp_in (nI (c * B + b)) 40000 := vp_in_nI own (by decide)
  have ov : nI c * nI B + nI b = nI (c * B + b) := by rw [pk_mul, nI_add]
  have tl := (hT b hb).2
  have tmx : tMx < 2 ^ 31 := by decide
  have tHl : (LT b).toInt64 = lN (tL b) := by rw [(hGT b hb).2]; exact nI_l (by omega)
  have ex : ∃ hi, hi ≠ 0 ∧ Fe (c * B + b) = hi + tL b := by
    obtain ⟨⟨hi, lo, a1, a2, a3, a4⟩, _⟩ := hV c b hc hb hcb (Nat.zero_le _)
    refine ⟨lo, fun z => h0 ?_, ?_⟩
    · rw [a4, if_pos z]
    · rw [a4, if_neg]
      intro z
      exact h0 (by rw [a4, if_pos z])
  obtain ⟨hi, hi0, hih⟩ := ex
  have vb := (vsI_v hB0 hN hV hc hb hcb).2
  have LP : ∀ d i, i + d = fl (b + 1) → fl b ≤ i → (∀ j, fl b ≤ j → j < i → ¬ goC B E P bn pa pb fr to tL Fe c b (lv j)) → lp_X2_lowestEdge_51 (nI c) (nI b) (lE hi) (nI B) (rep to) (rpB bn) (rep lv) (rep fl) GT LT (rep un) (rep fg) (rep fo) (repL Mo) (repL Fe) Q (d + 1) (nI i) := by
    intro d
    induction d with
    | zero =>
      intro i hi1 hi2 hno
      have z : i = fl (b + 1) := by omega
      subst z
      unfold lp_X2_lowestEdge_51
      rw [nI_1, cb1, rep_at fl]
      refine ⟨ib2, fun _ => ?_, fun q => absurd (nI_le (Nat.le_refl _) (by omega)) q⟩
      have := h E (Or.inl ⟨rfl, fun e he hg => ?_⟩)
      · unfold encE at this
        rw [if_neg (by omega)] at this
        exact this
      · obtain ⟨j, j1, j2, j3⟩ := hall e he
        rw [hg.1] at j1 j2
        exact hno j j1 j2 (by rw [j3]; exact hg)
    | succ d ih =>
      intro i hi1 hi2 hno
      have hlt : i < fl (b + 1) := by omega
      obtain ⟨g1, g2⟩ := f3 i hi2 hlt
      obtain ⟨hf, ht⟩ := hft (lv i) g1
      have ci : (nI i).toNatClampNeg = i := nI_clamp (by omega)
      have ii : vp_in (nI i) 80 := vp_in_nI (by omega) (by decide)
      have next : ¬ goC B E P bn pa pb fr to tL Fe c b (lv i) → lp_X2_lowestEdge_51 (nI c) (nI b) (lE hi) (nI B) (rep to) (rpB bn) (rep lv) (rep fl) GT LT (rep un) (rep fg) (rep fo) (repL Mo) (repL Fe) Q (d + 1) (nI (i + 1)) := fun ng => ih (i + 1) (by omega) (by omega) (fun j j1 j2 => by
        by_cases z : j = i
        · rw [z]; exact ng
        · exact hno j j1 (by omega))
      unfold lp_X2_lowestEdge_51
      rw [nI_1 b, cb1, rep_at fl, ci, rep_at lv, nI_1 i]
      refine ⟨ib2, fun q => absurd q (nI_ge hlt (by omega)), fun _ => ⟨ii, ?_⟩⟩
      refine sp_stateBehind hE hbn hpp hNC1 hl g1 hc (fun ha => ?_) (fun ha => ⟨fun _ => next (fun hg => ha hg.2.1), fun q => absurd rfl q⟩)
      have nin := nxC_in g1 ha hc
      have sl := ix_lt nin ht hNC
      have sv := (vsI_v hB0 hN hV nin ht (hcl _ g1 (by rw [g2]; exact hcb))).2
      have cs : (nI (nxC E P bn pa pb c (lv i) * B + to (lv i))).toNatClampNeg = nxC E P bn pa pb c (lv i) * B + to (lv i) := nI_clamp (by omega)
      rw [cs, repL_at, lg_0, lE_inj (by omega) (by omega)]
      refine ⟨fun q => ?_, fun _ => ⟨vp_in_nI sl (by decide), fun q => next (fun hg => q ?_), fun q => ⟨ii, ?_⟩⟩⟩
      · have k := nI_pos (n := nxC E P bn pa pb c (lv i) * B + to (lv i)) (by omega)
        rw [q] at k
        exact absurd (show (-1 : Int32) < 0 by decide) k
      · have := hg.2.2.2
        omega
      · have := h (lv i) (Or.inr ⟨g1, ⟨g2, ha, by omega, by omega⟩, fun e he hg => ?_⟩)
        · unfold encE at this
          rw [if_pos g1] at this
          exact this
        · obtain ⟨j, j1, j2, j3⟩ := hall e (by omega)
          rw [hg.1] at j1 j2
          rcases Nat.lt_trichotomy j i with z | z | z
          · exact hno j j1 z (by rw [j3]; exact hg)
          · rw [z] at j3; omega
          · have := hs b hb i j hi2 z j2
            omega
  unfold wp_X2_lowestEdge
  rw [ov, co, cb, rep_at fl, repL_at, repL_at, tHl, hih, lE_sub]
  refine ⟨fun _ => ⟨io, fun q => absurd q (by decide), fun _ => ⟨ib, ib1, fl (b + 1) - fl b + 1, LP _ _ (by omega) (Nat.le_refl _) (fun j j1 j2 => by omega)⟩⟩, fun q => absurd q (by decide)⟩
end LOW
