def lE (v : Nat) : Int64 := lN v - 1
def repL (M : Nat → Nat) : Nat → Int64 := fun s => lE (M s)
theorem repL_at (M : Nat → Nat) (s : Nat) : repL M s = lE (M s) := rfl
theorem repL_upd (M : Nat → Nat) (i v : Nat) : vp_updL (repL M) i (lE v) = repL (fun j => if j = i then v else M j) := by
  funext j
  by_cases h : j = i
  · subst h
    rw [pk_uLs, repL_at, if_pos rfl]
  · rw [pk_uLn h, repL_at, repL_at, if_neg h]
theorem lE_0 : lE 0 = -1 := by decide
theorem lE_s (n : Nat) : lE (n + 1) = lN n := by
  unfold lE
  have : lN (n + 1) = lN n + 1 := (lN_add n 1).symm
  rw [this, Int64.add_sub_cancel]
theorem lE_toInt {v : Nat} (h : v < 2 ^ 62) : (lE v).toInt = (v : Int) - 1 := by
  rcases Nat.eq_zero_or_pos v with z | z
  · subst z
    rw [lE_0]
    decide
  · obtain ⟨k, rfl⟩ : ∃ k, v = k + 1 := ⟨v - 1, by omega⟩
    rw [lE_s, pk_lT (by omega)]
    omega
theorem lE_inj {v w : Nat} (hv : v < 2 ^ 62) (hw : w < 2 ^ 62) : lE v = lE w ↔ v = w := by
  refine ⟨fun h => ?_, fun h => by rw [h]⟩
  have e : (lE v).toInt = (lE w).toInt := by rw [h]
  rw [lE_toInt hv, lE_toInt hw] at e
  omega
theorem lE_n {v : Nat} (hv : v < 2 ^ 62) : lE v = -1 ↔ v = 0 := by rw [← lE_0]; exact lE_inj hv (by decide)
theorem lE_lt {v w : Nat} (hv : v < 2 ^ 62) (hw : w < 2 ^ 62) : lE v < lE w ↔ v < w := by
  rw [Int64.lt_iff_toInt_lt, lE_toInt hv, lE_toInt hw]
  omega
theorem lE_add (v t : Nat) : lE v + lN t = lE (v + t) := by
  unfold lE
  rw [← lN_add v t, Int64.sub_eq_add_neg, Int64.sub_eq_add_neg]
  ac_rfl
theorem lg_0 {x y : Int64} : lg_cmp x y = 0 ↔ x = y := by
  unfold lg_cmp
  by_cases h : x > y
  · rw [if_pos h]
    refine ⟨fun q => absurd q (by decide), fun q => ?_⟩
    rw [q] at h
    exact absurd h (Int64.lt_irrefl)
  · rw [if_neg h]
    by_cases e : x = y
    · rw [if_pos e]
      exact ⟨fun _ => e, fun _ => rfl⟩
    · rw [if_neg e]
      exact ⟨fun q => absurd q (by decide), fun q => absurd q e⟩
theorem lg_n {v : Nat} (hv : v < 2 ^ 62) : lg_cmp (lE v) (-1) = 0 ↔ v = 0 := by rw [lg_0]; exact lE_n hv
theorem sp_valueState {B E P c b : Nat} {bn fr to pa pb lv fl un fg fo tH tL Mo Fe : Nat → Nat} {GT LT : Nat → Int32} {Q : (Nat → Int64) → (Nat → Int64) → Prop} (hp : sgP B E P bn fr to pa pb)
    (hfl : ∀ b, b < B → fl b ≤ fl (b + 1) ∧ fl (b + 1) ≤ E ∧ ∀ i, fl b ≤ i → i < fl (b + 1) → lv i < E ∧ fr (lv i) = b) (hall : ∀ e, e < E → ∃ i, fl (fr e) ≤ i ∧ i < fl (fr e + 1) ∧ lv i = e)
    (hl : layC E P bn pa pb un fg fo) (hN : nR B E P bn pa pb ≤ 40000) (hb : b < B) (hc : c < nC E P bn pa pb) (hGT : GT b = nI (tH b)) (hLT : LT b = nI (tL b)) (hT : tH b ≤ 200000 ∧ tL b ≤ 200000)
    (hz : ∀ e, e < E → fr e = b → alC E P bn pa pb c e → (Mo (nxC E P bn pa pb c e * B + to e) = 0 ↔ Fe (nxC E P bn pa pb c e * B + to e) = 0) ∧ Mo (nxC E P bn pa pb c e * B + to e) < 2 ^ 61 ∧ Fe (nxC E P bn pa pb c e * B + to e) < 2 ^ 61)
    (h : ∀ vM vF, eqV (fun e => e < E ∧ fr e = b ∧ alC E P bn pa pb c e) (fun e => Mo (nxC E P bn pa pb c e * B + to e)) (fun e => Fe (nxC E P bn pa pb c e * B + to e)) (endZ E fr b) (tH b) (tL b) vM vF → Q (repL (fun j => if j = c * B + b then vM else Mo j)) (repL (fun j => if j = c * B + b then vF else Fe j))) :
    wp_X2_valueState (nI c) (nI b) (nI B) (rep to) (rpB bn) (rep lv) (rep fl) GT LT (rep un) (rep fg) (rep fo) (repL Mo) (repL Fe) Q := by
  obtain ⟨⟨hB, hE, hP⟩, hft, hbn, hpp⟩ := hp
  obtain ⟨f1, f2, f3⟩ := hfl b hb
  have hNC : nC E P bn pa pb * B ≤ 40000 := by rw [nC_R]; exact hN
  have hB0 : 1 ≤ B := by omega
  have hNC1 : nC E P bn pa pb ≤ 40000 := Nat.le_trans (Nat.le_mul_of_pos_right _ hB0) hNC
  have own : c * B + b < 40000 := by
    have : (c + 1) * B ≤ nC E P bn pa pb * B := Nat.mul_le_mul_right _ hc
    rw [Nat.add_mul] at this
    omega
  have cb : (nI b).toNatClampNeg = b := nI_clamp (by omega)
  have cb1 : (nI (b + 1)).toNatClampNeg = b + 1 := nI_clamp (by omega)
  have ib : vp_in (nI b) 40 := vp_in_nI (by omega) (by decide)
  have ib1 : vp_in (nI b) 41 := vp_in_nI (by omega) (by decide)
  have ib2 : vp_in (nI (b + 1)) 41 := vp_in_nI (by omega) (by decide)
  have co : (nI (c * B + b)).toNatClampNeg = c * B + b := nI_clamp (by omega)
  have io : vp_in (nI (c * B + b)) 40000 := vp_in_nI own (by decide)
  have ov : nI c * nI B + nI b = nI (c * B + b) := by rw [pk_mul, nI_add]
  have tHl : (GT b).toInt64 = lN (tH b) := by rw [hGT]; exact nI_l (by omega)
  have tLl : (LT b).toInt64 = lN (tL b) := by rw [hLT]; exact nI_l (by omega)
  have END : ∀ hi lo, hi < 2 ^ 61 → lo < 2 ^ 61 → mxO (fun e => e < E ∧ fr e = b ∧ alC E P bn pa pb c e) (fun e => Mo (nxC E P bn pa pb c e * B + to e)) (endZ E fr b) hi → mnO (fun e => e < E ∧ fr e = b ∧ alC E P bn pa pb c e) (fun e => Fe (nxC E P bn pa pb c e * B + to e)) (endZ E fr b) lo →
      ∀ t0, t0 = lE (if hi = 0 then 0 else hi + tH b) → jn_X2_valueState_209 (nI b) (lE lo) (nI (c * B + b)) (nI B) (rep to) (rpB bn) (rep lv) (rep fl) GT LT (rep un) (rep fg) (rep fo) (repL Mo) (repL Fe) t0 (nI (c * B + b)) Q := by
    intro hi lo hhi hlo a1 a2 t0 e0
    unfold jn_X2_valueState_209
    rw [cb, co, e0, repL_upd, tLl, lE_add, lg_n (by omega)]
    refine ⟨io, fun q => ⟨ib, io, ?_⟩, fun q => ⟨io, ?_⟩⟩
    · rw [repL_upd]
      exact h _ _ ⟨hi, lo, a1, a2, rfl, by rw [if_neg q]⟩
    · rw [← lE_0, repL_upd]
      exact h _ _ ⟨hi, lo, a1, a2, rfl, by rw [if_pos q]⟩
  have LP : ∀ d i, i + d = fl (b + 1) → fl b ≤ i → ∀ hi lo, hi < 2 ^ 61 → lo < 2 ^ 61 → mxO (fun e => (∃ j, fl b ≤ j ∧ j < i ∧ lv j = e) ∧ alC E P bn pa pb c e) (fun e => Mo (nxC E P bn pa pb c e * B + to e)) (endZ E fr b) hi → mnO (fun e => (∃ j, fl b ≤ j ∧ j < i ∧ lv j = e) ∧ alC E P bn pa pb c e) (fun e => Fe (nxC E P bn pa pb c e * B + to e)) (endZ E fr b) lo →
      lp_X2_valueState_63 (nI c) (nI b) (nI B) (rep to) (rpB bn) (rep lv) (rep fl) GT LT (rep un) (rep fg) (rep fo) (repL Mo) (repL Fe) Q (d + 1) (lE hi) (lE lo) (nI i) := by
    intro d
    induction d with
    | zero =>
      intro i hi0 hi1 hi lo hhi hlo a1 a2
      have z : i = fl (b + 1) := by omega
      subst z
      have al : ∀ e, (e < E ∧ fr e = b ∧ alC E P bn pa pb c e) ↔ ((∃ j, fl b ≤ j ∧ j < fl (b + 1) ∧ lv j = e) ∧ alC E P bn pa pb c e) := by
        intro e
        constructor
        · rintro ⟨e1, e2, e3⟩
          obtain ⟨j, j1, j2, j3⟩ := hall e e1
          rw [e2] at j1 j2
          exact ⟨⟨j, j1, j2, j3⟩, e3⟩
        · rintro ⟨⟨j, j1, j2, j3⟩, e3⟩
          obtain ⟨k1, k2⟩ := f3 j j1 j2
          rw [j3] at k1 k2
          exact ⟨k1, k2, e3⟩
      have b1 := mxO_skip a1 al
      have b2 := mnO_skip a2 al
      unfold lp_X2_valueState_63
      rw [nI_1, cb1, rep_at fl, ov, cb, tHl, lE_add, lg_n (by omega)]
      refine ⟨ib2, fun _ => ⟨fun q => ⟨ib, END hi lo hhi hlo b1 b2 _ (by rw [if_neg q])⟩, fun q => END hi lo hhi hlo b1 b2 _ (by rw [if_pos q, lE_0])⟩, fun q => absurd (nI_le (Nat.le_refl _) (by omega)) q⟩
    | succ d ih =>
      intro i hi0 hi1 hi lo hhi hlo a1 a2
      have hlt : i < fl (b + 1) := by omega
      obtain ⟨g1, g2⟩ := f3 i hi1 hlt
      obtain ⟨hf, ht⟩ := hft (lv i) g1
      have ci : (nI i).toNatClampNeg = i := nI_clamp (by omega)
      have ii : vp_in (nI i) 80 := vp_in_nI (by omega) (by decide)
      have skip : ¬ alC E P bn pa pb c (lv i) → ∀ e, ((∃ j, fl b ≤ j ∧ j < i + 1 ∧ lv j = e) ∧ alC E P bn pa pb c e) ↔ ((∃ j, fl b ≤ j ∧ j < i ∧ lv j = e) ∧ alC E P bn pa pb c e) := by
        intro na e
        constructor
        · rintro ⟨⟨j, j1, j2, j3⟩, e3⟩
          by_cases z : j = i
          · subst z; rw [j3] at na; exact absurd e3 na
          · exact ⟨⟨j, j1, by omega, j3⟩, e3⟩
        · rintro ⟨⟨j, j1, j2, j3⟩, e3⟩
          exact ⟨⟨j, j1, by omega, j3⟩, e3⟩
      have more : alC E P bn pa pb c (lv i) → ∀ e, ((∃ j, fl b ≤ j ∧ j < i + 1 ∧ lv j = e) ∧ alC E P bn pa pb c e) ↔ (((∃ j, fl b ≤ j ∧ j < i ∧ lv j = e) ∧ alC E P bn pa pb c e) ∨ e = lv i) := by
        intro na e
        constructor
        · rintro ⟨⟨j, j1, j2, j3⟩, e3⟩
          by_cases z : j = i
          · subst z; exact Or.inr j3.symm
          · exact Or.inl ⟨⟨j, j1, by omega, j3⟩, e3⟩
        · rintro (⟨⟨j, j1, j2, j3⟩, e3⟩ | z)
          · exact ⟨⟨j, j1, by omega, j3⟩, e3⟩
          · subst z
            exact ⟨⟨i, hi1, by omega, rfl⟩, na⟩
      unfold lp_X2_valueState_63
      rw [nI_1 b, cb1, rep_at fl, ci, rep_at lv, nI_1 i]
      refine ⟨ib2, fun q => absurd q (nI_ge hlt (by omega)), fun _ => ⟨ii, ?_⟩⟩
      refine sp_stateBehind hE hbn hpp hNC1 hl g1 hc (fun ha => ?_) (fun ha => ?_)
      · have nin := nxC_in g1 ha hc
        have sl : nxC E P bn pa pb c (lv i) * B + to (lv i) < 40000 := by
          have : (nxC E P bn pa pb c (lv i) + 1) * B ≤ nC E P bn pa pb * B := Nat.mul_le_mul_right _ nin
          rw [Nat.add_mul] at this
          omega
        obtain ⟨z1, z2, z3⟩ := hz (lv i) g1 g2 ha
        have mr := more ha
        revert z1 z2 z3 sl
        generalize hs : nxC E P bn pa pb c (lv i) * B + to (lv i) = s
        intro sl z1 z2 z3
        have cs : (nI s).toNatClampNeg = s := nI_clamp (by omega)
        have is : vp_in (nI s) 40000 := vp_in_nI sl (by decide)
        rw [cs, repL_at, repL_at, lg_n (by omega), lg_n (by omega)]
        have l1 : lE (Mo s) < lE hi ↔ Mo s < hi := lE_lt (by omega) (by omega)
        have l2 : lE (Fe s) < lE lo ↔ Fe s < lo := lE_lt (by omega) (by omega)
        refine ⟨fun q => ?_, fun _ => ⟨is, fun q => ?_, fun q => ⟨is, fun q2 => ⟨is, ?_⟩, fun q2 => ⟨is, ?_⟩⟩⟩⟩
        · have k := nI_pos (n := s) (by omega)
          rw [q] at k
          exact absurd (show (-1 : Int32) < 0 by decide) k
        · exact ih (i + 1) (by omega) (by omega) hi lo hhi hlo (mxO_add0 a1 mr (by show Mo _ = 0; rw [hs]; exact q)) (mnO_add0 a2 mr (by show Fe _ = 0; rw [hs]; exact z1.mp q))
        · have k1 := mxO_add a1 mr
          have k2 := mnO_add a2 mr (show Fe (nxC E P bn pa pb c (lv i) * B + to (lv i)) ≠ 0 by rw [hs]; exact fun w => q (z1.mpr w))
          have e1 : (if Mo (nxC E P bn pa pb c (lv i) * B + to (lv i)) < hi then hi else Mo (nxC E P bn pa pb c (lv i) * B + to (lv i))) = if Mo s < hi then hi else Mo s := by rw [hs]
          have e2 : (if lo = 0 ∨ Fe (nxC E P bn pa pb c (lv i) * B + to (lv i)) < lo then Fe (nxC E P bn pa pb c (lv i) * B + to (lv i)) else lo) = if Fe s < lo then Fe s else lo := by rw [hs]; simp [q2]
          rw [e1] at k1
          rw [e2] at k2
          have i1 : (if lE (Mo s) < lE hi then lE hi else lE (Mo s)) = lE (if Mo s < hi then hi else Mo s) := by
            by_cases w : Mo s < hi
            · rw [if_pos w, if_pos (l1.mpr w)]
            · rw [if_neg w, if_neg (fun y => w (l1.mp y))]
          have i2 : (if lE (Fe s) < lE lo then lE (Fe s) else lE lo) = lE (if Fe s < lo then Fe s else lo) := by
            by_cases w : Fe s < lo
            · rw [if_pos w, if_pos (l2.mpr w)]
            · rw [if_neg w, if_neg (fun y => w (l2.mp y))]
          rw [i1, i2]
          exact ih (i + 1) (by omega) (by omega) _ _ (by split <;> omega) (by split <;> omega) k1 k2
        · have k1 := mxO_add a1 mr
          have k2 := mnO_add a2 mr (show Fe (nxC E P bn pa pb c (lv i) * B + to (lv i)) ≠ 0 by rw [hs]; exact fun w => q (z1.mpr w))
          have e1 : (if Mo (nxC E P bn pa pb c (lv i) * B + to (lv i)) < hi then hi else Mo (nxC E P bn pa pb c (lv i) * B + to (lv i))) = if Mo s < hi then hi else Mo s := by rw [hs]
          have e2 : (if lo = 0 ∨ Fe (nxC E P bn pa pb c (lv i) * B + to (lv i)) < lo then Fe (nxC E P bn pa pb c (lv i) * B + to (lv i)) else lo) = Fe s := by rw [hs]; simp [q2]
          rw [e1] at k1
          rw [e2] at k2
          have i1 : (if lE (Mo s) < lE hi then lE hi else lE (Mo s)) = lE (if Mo s < hi then hi else Mo s) := by
            by_cases w : Mo s < hi
            · rw [if_pos w, if_pos (l1.mpr w)]
            · rw [if_neg w, if_neg (fun y => w (l1.mp y))]
          rw [i1]
          exact ih (i + 1) (by omega) (by omega) _ _ (by split <;> omega) (by omega) k1 k2
      · refine ⟨fun _ => ?_, fun q => absurd rfl q⟩
        exact ih (i + 1) (by omega) (by omega) hi lo hhi hlo (mxO_skip a1 (skip ha)) (mnO_skip a2 (skip ha))
  have isE : fl b = fl (b + 1) ↔ endZ E fr b = 1 := by
    unfold endZ
    constructor
    · intro q
      rw [if_neg]
      rintro ⟨e, e1, e2⟩
      obtain ⟨j, j1, j2, j3⟩ := hall e e1
      rw [e2] at j1 j2
      omega
    · intro q
      rcases Nat.lt_or_ge (fl b) (fl (b + 1)) with z | z
      · obtain ⟨k1, k2⟩ := f3 (fl b) (Nat.le_refl _) z
        rw [if_pos ⟨lv (fl b), k1, k2⟩] at q
        omega
      · omega
  have zz : endZ E fr b = 0 ∨ endZ E fr b = 1 := by unfold endZ; split <;> omega
  have em : ∀ e, ¬ ((∃ j, fl b ≤ j ∧ j < fl b ∧ lv j = e) ∧ alC E P bn pa pb c e) := fun e ⟨⟨j, j1, j2, _⟩, _⟩ => by omega
  have GO : ∀ z, endZ E fr b = z → ∃ k63, lp_X2_valueState_63 (nI c) (nI b) (nI B) (rep to) (rpB bn) (rep lv) (rep fl) GT LT (rep un) (rep fg) (rep fo) (repL Mo) (repL Fe) Q k63 (lE z) (lE z) (nI (fl b)) := by
    intro z hz1
    subst hz1
    exact ⟨fl (b + 1) - fl b + 1, LP _ (fl b) (by omega) (Nat.le_refl _) _ _ (by omega) (by omega) (mxO_0 em) (mnO_0 em)⟩
  unfold wp_X2_valueState
  rw [nI_1, cb, cb1, rep_at fl, rep_at fl]
  have fe : nI (fl b) = nI (fl (b + 1)) ↔ fl b = fl (b + 1) := nI_eq (by omega) (by omega)
  unfold jn_X2_valueState_38
  rw [cb, rep_at fl]
  have l1 : lE 1 = 0 := by decide
  refine ⟨ib1, ib2, fun q => ⟨fun _ => ⟨fun _ => ⟨ib1, ?_⟩, fun w => absurd rfl w⟩, fun w => absurd rfl w⟩, fun q => ⟨fun w => absurd w (by decide), fun _ => ⟨fun w => absurd w (by decide), fun _ => ⟨ib1, ?_⟩⟩⟩⟩
  · have := GO 0 (zz.resolve_right (fun w => q (fe.mpr (isE.mpr w))))
    rw [lE_0] at this
    exact this
  · have := GO 1 (isE.mp (fe.mp q))
    rw [l1] at this
    exact this
