def msH (pn : Nat) (val : Nat → Int32) (base : Nat) : Nat → Nat
  | 0 => base
  | i + 1 => msH pn val base i + if val i = 2 ∨ val i = 0 then pn else 0
def msL (pn : Nat) (val : Nat → Int32) (base : Nat) : Nat → Nat
  | 0 => base
  | i + 1 => msL pn val base i + if val i = 2 then pn else 0
def dsV (b : Nat) (val DO : Nat → Int32) (i : Nat) : Nat → Int32 := fun j => if b * 6 ≤ j ∧ j < b * 6 + i then val (j - b * 6) else DO j
theorem dsV_0 {b : Nat} {val DO : Nat → Int32} : dsV b val DO 0 = DO := by
  funext j
  unfold dsV
  rw [if_neg (by omega)]
theorem dsV_at {b i : Nat} {val DO : Nat → Int32} : dsV b val DO i (b * 6 + i) = DO (b * 6 + i) := by
  unfold dsV
  rw [if_neg (by omega)]
theorem dsV_s {b i : Nat} {val DO : Nat → Int32} : upd (dsV b val DO i) (b * 6 + i) (val i) = dsV b val DO (i + 1) := by
  funext j
  unfold upd dsV
  by_cases h : j = b * 6 + i
  · subst h
    have e : b * 6 + i - b * 6 = i := by omega
    rw [if_pos rfl, if_pos ⟨by omega, by omega⟩, e]
  · rw [if_neg h]
    by_cases h2 : b * 6 ≤ j ∧ j < b * 6 + i
    · rw [if_pos h2, if_pos ⟨h2.1, by omega⟩]
    · rw [if_neg h2, if_neg (by omega)]
theorem updL_uu (f : Nat → Int64) (k : Nat) (x y : Int64) : vp_updL (vp_updL f k x) k y = vp_updL f k y := by
  funext j
  unfold vp_updL
  by_cases h : j = k <;> simp [h]
theorem sp_fa_block {W B n E b pn : Nat} {line : Nat → Int32} {sets : Int32} {tc cm : Nat → Nat} {time ts fr to GG LL NG NL DO val : Nat → Int32} {MT LT : Nat → Int64} {base : Nat} {K144 : Int32 → (Nat → Int32) → (Nat → Int32) → (Nat → Int32) → (Nat → Int64) → (Nat → Int64) → Prop} {Q : (Nat → Int32) → (Nat → Int32) → (Nat → Int32) → (Nat → Int32) → (Nat → Int32) → (Nat → Int32) → (Nat → Int64) → (Nat → Int64) → Prop} (hb : b < 40) (hpn : pn < 1000) (hcm : cm b ≤ 1) (htc : tc b ≤ 6) (hv1 : cm b = 1 → ∀ i, i < tc b → DO (b * 6 + i) = val i) (hv0 : cm b = 0 → ∀ i, val i = -1)
    (hK : K144 (nI b + 1) NG NL (dsV b val DO (tc b)) (vp_updL MT b (lN (msH pn val base (tc b)))) (vp_updL LT b (lN (msL pn val base (tc b))))) :
    ∀ d i, i + d = tc b → lp_X4_findAges_197 (nI b) sets (nI W) (nI pn) (nI B) (nI E) (nI n) time (rep tc) ts line fr to (rep cm) GG LL NG NL K144 Q (d + 1) (nI (b * 6 + i)) (dsV b val DO i) (vp_updL MT b (lN (msH pn val base i))) (vp_updL LT b (lN (msL pn val base i))) := by
  have cb : (nI b).toNatClampNeg = b := nI_clamp (by omega)
  have ib : vp_in (nI b) 40 := vp_in_nI (by omega) (by decide)
  have c0 : nI (cm b) = 0 ↔ cm b = 0 := by rw [← nI_0]; exact nI_eq (by omega) (by decide)
  have pl : (nI pn).toInt64 = lN pn := nI_l (by omega)
  have z64 : (0 : Int64) = lN 0 := rfl
  intro d
  induction d with
  | zero =>
    intro i hi
    have hi : i = tc b := by omega
    subst hi
    unfold lp_X4_findAges_197
    rw [cb, rep_at tc, nI_6m, nI_add]
    exact ⟨ib, fun _ => hK, fun q => absurd (nI_le (Nat.le_refl _) (by omega)) q⟩
  | succ d ih =>
    intro i hi
    have hin : i < tc b := by omega
    have nx := ih (i + 1) (by omega)
    have i6 : vp_in (nI (b * 6 + i)) 240 := vp_in_nI (by omega) (by decide)
    have c6 : (nI (b * 6 + i)).toNatClampNeg = b * 6 + i := nI_clamp (by omega)
    have J272 : ∀ t : Int64, lN (msH pn val base i) + t = lN (msH pn val base (i + 1)) → jn_X4_findAges_272 (nI b) (nI (b * 6 + i)) sets (nI W) (nI pn) (nI B) (nI E) (nI n) time (rep tc) ts line fr to (rep cm) GG LL NG NL (dsV b val DO (i + 1)) (vp_updL MT b (lN (msH pn val base i))) (vp_updL LT b (lN (msL pn val base i))) t (lN (msH pn val base i)) (nI b) K144 (lp_X4_findAges_197 (nI b) sets (nI W) (nI pn) (nI B) (nI E) (nI n) time (rep tc) ts line fr to (rep cm) GG LL NG NL K144 Q (d + 1)) Q := by
      intro t ht
      have dv : dsV b val DO (i + 1) (b * 6 + i) = val i := by rw [← dsV_s, pk_us]
      unfold jn_X4_findAges_272
      rw [cb, c6, dv, ht, updL_uu, pk_uLs, updL_uu, updL_uu, pl, nI_1]
      refine ⟨ib, ib, i6, fun q => ⟨ib, ?_⟩, fun q => ⟨ib, ?_⟩⟩
      · have e : msL pn val base (i + 1) = msL pn val base i := by show _ + (if val i = 2 then pn else 0) = _; rw [if_neg q]; rfl
        rw [e] at nx
        rw [z64, lN_add, Nat.add_zero]
        exact nx
      · have e : msL pn val base (i + 1) = msL pn val base i + pn := by show _ + (if val i = 2 then pn else 0) = _; rw [if_pos q]
        rw [e] at nx
        rw [lN_add]
        exact nx
    have J236 : jn_X4_findAges_236 (nI b) (nI (b * 6 + i)) sets (nI W) (nI pn) (nI B) (nI E) (nI n) time (rep tc) ts line fr to (rep cm) GG LL NG NL (dsV b val DO i) (vp_updL MT b (lN (msH pn val base i))) (vp_updL LT b (lN (msL pn val base i))) (val i) (nI (b * 6 + i)) K144 (lp_X4_findAges_197 (nI b) sets (nI W) (nI pn) (nI B) (nI E) (nI n) time (rep tc) ts line fr to (rep cm) GG LL NG NL K144 Q (d + 1)) Q := by
      have dv : dsV b val DO (i + 1) (b * 6 + i) = val i := by rw [← dsV_s, pk_us]
      unfold jn_X4_findAges_236
      rw [cb, c6, dsV_s, dv, pk_uLs, pl]
      refine ⟨i6, ib, i6, fun q => J272 _ ?_, fun q => ⟨i6, fun q2 => J272 _ ?_, fun q2 => J272 _ ?_⟩⟩
      · rw [lN_add]
        show _ = lN (_ + (if val i = 2 ∨ val i = 0 then pn else 0))
        rw [if_pos (Or.inl q)]
      · show _ = lN (_ + (if val i = 2 ∨ val i = 0 then pn else 0))
        rw [if_neg (by rintro (z | z); exact q z; exact q2 z), z64, lN_add]
      · rw [lN_add]
        show _ = lN (_ + (if val i = 2 ∨ val i = 0 then pn else 0))
        rw [if_pos (Or.inr q2)]
    unfold lp_X4_findAges_197
    rw [cb, rep_at tc, rep_at cm, nI_6m, nI_add, c6]
    refine ⟨ib, fun q => absurd q (nI_ge (by omega) (by omega)), fun _ => ⟨ib, fun q => ?_, fun q => ⟨i6, ?_⟩⟩⟩
    · have q := c0.mp q
      rw [← hv0 q i]
      exact J236
    · have q : cm b = 1 := by
        have : ¬ cm b = 0 := fun z => q (c0.mpr z)
        omega
      rw [dsV_at, hv1 q i hin]
      exact J236
