def lW (v : Nat) : Int64 := lN v - 2
def repW (M : Nat → Nat) : Nat → Int64 := fun s => lW (M s)
theorem repW_at (M : Nat → Nat) (s : Nat) : repW M s = lW (M s) := rfl
theorem repW_upd (M : Nat → Nat) (i v : Nat) : vp_updL (repW M) i (lW v) = repW (fun j => if j = i then v else M j) := by
  funext j
  by_cases h : j = i
  · subst h
    rw [pk_uLs, repW_at, if_pos rfl]
  · rw [pk_uLn h, repW_at, repW_at, if_neg h]
theorem lW_s (v : Nat) : lW (v + 1) = lE v := by
  unfold lW lE
  rw [← lN_1 v, Int64.sub_eq_add_neg, Int64.sub_eq_add_neg, Int64.add_assoc]
  rfl
theorem lW_0 : lW 0 = -2 := by decide
theorem lW_toInt {v : Nat} (h : v < 2 ^ 62) : (lW v).toInt = (v : Int) - 2 := by
  rcases Nat.eq_zero_or_pos v with z | z
  · subst z
    rw [lW_0]
    decide
  · obtain ⟨k, rfl⟩ : ∃ k, v = k + 1 := ⟨v - 1, by omega⟩
    rw [lW_s, lE_toInt (by omega)]
    omega
theorem lW_n {v : Nat} (h : v < 2 ^ 62) : lg_cmp (lW v) (-2) = 0 ↔ v = 0 := by
  rw [lg_0]
  refine ⟨fun q => ?_, fun q => by rw [q, lW_0]⟩
  have e : (lW v).toInt = (-2 : Int64).toInt := by rw [q]
  rw [lW_toInt h] at e
  have : (-2 : Int64).toInt = -2 := by decide
  omega
theorem lg_lt {x y : Int64} : lg_cmp x y < 0 ↔ x < y := by
  unfold lg_cmp
  by_cases h : x > y
  · rw [if_pos h]
    exact ⟨fun q => absurd q (by decide), fun q => absurd (Int64.lt_trans h q) Int64.lt_irrefl⟩
  · rw [if_neg h]
    by_cases e : x = y
    · rw [if_pos e]
      refine ⟨fun q => absurd q (by decide), fun q => ?_⟩
      rw [e] at q
      exact absurd q Int64.lt_irrefl
    · rw [if_neg e]
      refine ⟨fun _ => ?_, fun _ => by decide⟩
      have h2 : x ≤ y := Int64.not_lt.mp h
      rw [Int64.le_iff_toInt_le] at h2
      rw [Int64.lt_iff_toInt_lt]
      have : x.toInt ≠ y.toInt := fun z => e (Int64.toInt_inj.mp z)
      omega
theorem lg_ge {x y : Int64} : 0 ≤ lg_cmp x y ↔ ¬ x < y := by
  rw [← lg_lt, Int32.not_lt]
theorem lg_le {x y : Int64} : lg_cmp x y ≤ 0 ↔ ¬ y < x := by
  unfold lg_cmp
  by_cases h : x > y
  · rw [if_pos h]
    exact ⟨fun q => absurd q (by decide), fun q => absurd h q⟩
  · rw [if_neg h]
    refine ⟨fun _ => h, fun _ => ?_⟩
    split <;> decide
theorem lE_neg {v : Nat} (h : v < 2 ^ 62) : lE v < 0 ↔ v = 0 := by
  have e : lE 1 = 0 := by decide
  rw [← e, lE_lt h (by decide)]
  omega
theorem sp_mEnd {E b : Nat} {fr : Nat → Nat} {Q : Int32 → Prop} (hE : E ≤ 80) (hb : b < 40) (hf : ∀ e, e < E → fr e < 40) (h : Q (nI (endZ E fr b))) : wp_X4_isEnd (nI b) (nI E) (rep fr) Q := by
  have e0 : ∀ x, x ≤ 1 → (nI x = 0 ↔ x = 0) := fun x hx => by rw [← nI_0]; exact nI_eq (by omega) (by decide)
  have LP : ∀ d e, e + d = E → ∀ a, a ≤ 1 → (a = 1 → ∃ x, x < E ∧ fr x = b) → (a = 0 → ∀ x, x < e → fr x ≠ b) → lp_X4_isEnd_4 (nI b) (nI E) (rep fr) Q (d + 1) (nI a) (nI e) := by
    intro d
    induction d with
    | zero =>
      intro e he a ha a1 a0
      have z : e = E := by omega
      subst z
      unfold lp_X4_isEnd_4
      rw [e0 a ha]
      refine ⟨fun _ => ⟨fun q => ?_, fun q => ?_⟩, fun q => absurd (nI_le (Nat.le_refl _) (by omega)) q⟩
      · unfold endZ at h
        rw [if_pos (a1 (by omega)), nI_0] at h
        exact h
      · unfold endZ at h
        rw [if_neg (fun ⟨x, x1, x2⟩ => a0 q x x1 x2)] at h
        exact h
    | succ d ih =>
      intro e he a ha a1 a0
      have hlt : e < E := by omega
      have ce : (nI e).toNatClampNeg = e := nI_clamp (by omega)
      have eb : nI (fr e) = nI b ↔ fr e = b := nI_eq (by have := hf e hlt; omega) (by omega)
      unfold lp_X4_isEnd_4
      rw [ce, rep_at, eb, e0 a ha, nI_1]
      refine ⟨fun q => absurd q (nI_ge hlt (by omega)), fun _ => ⟨fun q => ih (e + 1) (by omega) 1 (by omega) (fun _ => a1 (by omega)) (fun z => by omega), fun q => ⟨vp_in_nI (by omega) (by decide), fun q2 => ?_, fun q2 => ih (e + 1) (by omega) 1 (by omega) (fun _ => ⟨e, hlt, q2⟩) (fun z => by omega)⟩⟩⟩
      have := ih (e + 1) (by omega) 0 (by omega) (fun z => by omega) (fun _ x hx => by
        by_cases z : x = e
        · rw [z]; exact q2
        · exact a0 q x (by omega))
      rw [nI_0] at this
      exact this
  refine ⟨E + 1, ?_⟩
  have := LP E 0 (by omega) 0 (by omega) (fun z => by omega) (fun _ x hx => by omega)
  rw [nI_0] at this
  exact this
theorem sp_firstUnknown {B E P p : Nat} {bn fr to pa pb cu fu Wo : Nat → Nat} {Q : Int32 → Prop} (hB0 : 0 < B) (hp : sgP B E P bn fr to pa pb) (hN : nR B E P bn pa pb ≤ 40000) (hu : unR B E P bn pa pb cu fu) (hpn : p < nR B E P bn pa pb) (hW : ∀ s, Wo s < 2 ^ 62)
    (h1 : ∀ e, e < E → fr e = p % B → alR B P bn pa pb p e → Wo (bhR B P bn pa pb fr to p e) = 0 → Q (nI (bhR B P bn pa pb fr to p e))) (h0 : (∀ e, e < E → fr e = p % B → alR B P bn pa pb p e → Wo (bhR B P bn pa pb fr to p e) ≠ 0) → Q (-1)) :
    wp_X4_firstUnknown (nI p) (nI B) (nI E) (nI P) (rep fr) (rep to) (rpB bn) (rep pa) (rep pb) (rep cu) (rep fu) (repW Wo) Q := by
  have hp2 := id hp
  obtain ⟨⟨hB, hE, hP⟩, hft, hbn, hpp⟩ := hp2
  have LP : ∀ d e, e + d = E → (∀ x, x < e → fr x = p % B → alR B P bn pa pb p x → Wo (bhR B P bn pa pb fr to p x) ≠ 0) → lp_X4_firstUnknown_9 (nI p) (nI (p % B)) (nI B) (nI E) (nI P) (rep fr) (rep to) (rpB bn) (rep pa) (rep pb) (rep cu) (rep fu) (repW Wo) Q (d + 1) (nI e) := by
    intro d
    induction d with
    | zero =>
      intro e he hno
      have z : e = E := by omega
      subst z
      unfold lp_X4_firstUnknown_9
      exact ⟨fun _ => h0 hno, fun q => absurd (nI_le (Nat.le_refl _) (by omega)) q⟩
    | succ d ih =>
      intro e he hno
      have hlt : e < E := by omega
      obtain ⟨f1, f2⟩ := hft e hlt
      have ce : (nI e).toNatClampNeg = e := nI_clamp (by omega)
      have pm : p % B < B := Nat.mod_lt _ hB0
      have eb : nI (fr e) = nI (p % B) ↔ fr e = p % B := nI_eq (by omega) (by omega)
      have go : (fr e = p % B → alR B P bn pa pb p e → Wo (bhR B P bn pa pb fr to p e) ≠ 0) → lp_X4_firstUnknown_9 (nI p) (nI (p % B)) (nI B) (nI E) (nI P) (rep fr) (rep to) (rpB bn) (rep pa) (rep pb) (rep cu) (rep fu) (repW Wo) Q (d + 1) (nI (e + 1)) := fun w => ih (e + 1) (by omega) (fun x hx => by
        by_cases z : x = e
        · rw [z]; exact w
        · exact hno x (by omega))
      unfold lp_X4_firstUnknown_9
      rw [ce, rep_at fr, eb, nI_1]
      refine ⟨fun q => absurd q (nI_ge hlt (by omega)), fun _ => ⟨vp_in_nI (by omega) (by decide), fun q => go (fun w => absurd w q), fun q => ?_⟩⟩
      refine sp_allows hB0 hp hN hu hlt hpn (fun ha => ⟨fun z => absurd z (by decide), fun _ => ?_⟩) (fun ha => ⟨fun _ => go (fun _ w => absurd w ha), fun z => absurd rfl z⟩)
      have bin := bhR_in hB0 hlt q.symm f2 ha hpn
      have cs : (nI (bhR B P bn pa pb fr to p e)).toNatClampNeg = bhR B P bn pa pb fr to p e := nI_clamp (by omega)
      refine sp_behind hB0 hp hN hu hlt hpn q ?_
      rw [cs, repW_at, lW_n (hW _)]
      refine ⟨vp_in_nI (by omega) (by decide), fun q2 => go (fun _ _ => q2), fun q2 => ?_⟩
      exact sp_behind hB0 hp hN hu hlt hpn q (h1 e hlt q ha q2)
  unfold wp_X4_firstUnknown
  rw [pk_rem (by omega) hB0 (by omega)]
  refine ⟨nI_ne0 hB0 (by omega), E + 1, ?_⟩
  have := LP E 0 (by omega) (fun x hx => by omega)
  rw [nI_0] at this
  exact this
theorem sp_workOut {B E P p : Nat} {bn fr to pa pb cu fu tH tL Wo Be : Nat → Nat} {MT LT : Nat → Int64} {Q : (Nat → Int64) → (Nat → Int64) → Prop} (hB0 : 0 < B) (hp : sgP B E P bn fr to pa pb) (hN : nR B E P bn pa pb ≤ 40000) (hu : unR B E P bn pa pb cu fu) (hpn : p < nR B E P bn pa pb) (hMT : ∀ b, b < B → MT b = lN (tH b) ∧ LT b = lN (tL b)) (hT : ∀ b, b < B → tH b ≤ tMx ∧ tL b ≤ tMx)
    (hk : ∀ e, e < E → fr e = p % B → alR B P bn pa pb p e → Wo (bhR B P bn pa pb fr to p e) ≠ 0 ∧ Wo (bhR B P bn pa pb fr to p e) < 2 ^ 61 ∧ Be (bhR B P bn pa pb fr to p e) < 2 ^ 61)
    (h : ∀ vM vF, eqV (fun e => e < E ∧ fr e = p % B ∧ alR B P bn pa pb p e) (fun e => Wo (bhR B P bn pa pb fr to p e) - 1) (fun e => Be (bhR B P bn pa pb fr to p e)) (endZ E fr (p % B)) (tH (p % B)) (tL (p % B)) vM vF → Q (repW (fun j => if j = p then vM + 1 else Wo j)) (repL (fun j => if j = p then vF else Be j))) :
    wp_X4_workOut (nI p) (nI B) (nI E) (nI P) (rep fr) (rep to) (rpB bn) (rep pa) (rep pb) MT LT (rep cu) (rep fu) (repW Wo) (repL Be) Q := by
  have hp2 := id hp
  obtain ⟨⟨hB, hE, hP⟩, hft, hbn, hpp⟩ := hp2
  have pm : p % B < B := Nat.mod_lt _ hB0
  have cp : (nI p).toNatClampNeg = p := nI_clamp (by omega)
  have cb : (nI (p % B)).toNatClampNeg = p % B := nI_clamp (by omega)
  have ip : vp_in (nI p) 40000 := vp_in_nI (by omega) (by decide)
  have ib : vp_in (nI (p % B)) 40 := vp_in_nI (by omega) (by decide)
  obtain ⟨mt, lt⟩ := hMT _ pm
  obtain ⟨t1, t2⟩ := hT _ pm
  have tm : tMx < 2 ^ 31 := by decide
  have END : ∀ hi lo, hi < 2 ^ 61 → lo < 2 ^ 61 → mxO (fun e => e < E ∧ fr e = p % B ∧ alR B P bn pa pb p e) (fun e => Wo (bhR B P bn pa pb fr to p e) - 1) (endZ E fr (p % B)) hi → mnO (fun e => e < E ∧ fr e = p % B ∧ alR B P bn pa pb p e) (fun e => Be (bhR B P bn pa pb fr to p e)) (endZ E fr (p % B)) lo →
      ∀ t0, t0 = lE (if hi = 0 then 0 else hi + tH (p % B)) → jn_X4_workOut_174 (nI p) (nI (p % B)) (lE lo) (nI B) (nI E) (nI P) (rep fr) (rep to) (rpB bn) (rep pa) (rep pb) MT LT (rep cu) (rep fu) (repW Wo) (repL Be) t0 (nI p) Q := by
    intro hi lo hhi hlo a1 a2 t0 e0
    unfold jn_X4_workOut_174
    rw [cp, cb, e0, ← lW_s (if hi = 0 then 0 else hi + tH (p % B)), repW_upd, lt, lE_add, lg_ge, lE_neg (by omega)]
    refine ⟨ip, fun q => ⟨ib, ip, ?_⟩, fun q => ⟨ip, ?_⟩⟩
    · rw [repL_upd]
      exact h _ _ ⟨hi, lo, a1, a2, rfl, by rw [if_neg q]⟩
    · have q : lo = 0 := Classical.byContradiction q
      rw [← lE_0, repL_upd]
      exact h _ _ ⟨hi, lo, a1, a2, rfl, by rw [if_pos q]⟩
  have LP : ∀ d e, e + d = E → ∀ hi lo, hi < 2 ^ 61 → lo < 2 ^ 61 → mxO (fun x => x < e ∧ fr x = p % B ∧ alR B P bn pa pb p x) (fun e => Wo (bhR B P bn pa pb fr to p e) - 1) (endZ E fr (p % B)) hi → mnO (fun x => x < e ∧ fr x = p % B ∧ alR B P bn pa pb p x) (fun e => Be (bhR B P bn pa pb fr to p e)) (endZ E fr (p % B)) lo →
      lp_X4_workOut_43 (nI p) (nI (p % B)) (nI B) (nI E) (nI P) (rep fr) (rep to) (rpB bn) (rep pa) (rep pb) MT LT (rep cu) (rep fu) (repW Wo) (repL Be) Q (d + 1) (lE hi) (lE lo) (nI e) := by
    intro d
    induction d with
    | zero =>
      intro e he hi lo hhi hlo a1 a2
      have z : e = E := by omega
      subst z
      unfold lp_X4_workOut_43
      rw [cb, mt, lE_add, lg_ge, lE_neg (by omega)]
      refine ⟨fun _ => ⟨fun q => ⟨ib, END hi lo hhi hlo a1 a2 _ (by rw [if_neg q])⟩, fun q => END hi lo hhi hlo a1 a2 _ (by rw [if_pos (Classical.byContradiction q), lE_0])⟩, fun q => absurd (nI_le (Nat.le_refl _) (by omega)) q⟩
    | succ d ih =>
      intro e he hi lo hhi hlo a1 a2
      have hlt : e < E := by omega
      obtain ⟨f1, f2⟩ := hft e hlt
      have ce : (nI e).toNatClampNeg = e := nI_clamp (by omega)
      have eb : nI (fr e) = nI (p % B) ↔ fr e = p % B := nI_eq (by omega) (by omega)
      have skip : ¬ (fr e = p % B ∧ alR B P bn pa pb p e) → ∀ x, (x < e + 1 ∧ fr x = p % B ∧ alR B P bn pa pb p x) ↔ (x < e ∧ fr x = p % B ∧ alR B P bn pa pb p x) := by
        intro na x
        constructor
        · rintro ⟨x1, x2⟩
          by_cases z : x = e
          · rw [z] at x2; exact absurd x2 na
          · exact ⟨by omega, x2⟩
        · rintro ⟨x1, x2⟩
          exact ⟨by omega, x2⟩
      have more : (fr e = p % B ∧ alR B P bn pa pb p e) → ∀ x, (x < e + 1 ∧ fr x = p % B ∧ alR B P bn pa pb p x) ↔ ((x < e ∧ fr x = p % B ∧ alR B P bn pa pb p x) ∨ x = e) := by
        intro na x
        constructor
        · rintro ⟨x1, x2⟩
          by_cases z : x = e
          · exact Or.inr z
          · exact Or.inl ⟨by omega, x2⟩
        · rintro (⟨x1, x2⟩ | z)
          · exact ⟨by omega, x2⟩
          · subst z; exact ⟨by omega, na⟩
      have go : ¬ (fr e = p % B ∧ alR B P bn pa pb p e) → lp_X4_workOut_43 (nI p) (nI (p % B)) (nI B) (nI E) (nI P) (rep fr) (rep to) (rpB bn) (rep pa) (rep pb) MT LT (rep cu) (rep fu) (repW Wo) (repL Be) Q (d + 1) (lE hi) (lE lo) (nI (e + 1)) := fun na => ih (e + 1) (by omega) hi lo hhi hlo (mxO_skip a1 (skip na)) (mnO_skip a2 (skip na))
      unfold lp_X4_workOut_43
      rw [ce, rep_at fr, eb, nI_1]
      refine ⟨fun q => absurd q (nI_ge hlt (by omega)), fun _ => ⟨vp_in_nI (by omega) (by decide), fun q => go (fun w => q w.1), fun q => ?_⟩⟩
      refine sp_allows hB0 hp hN hu hlt hpn (fun ha => ⟨fun z => absurd z (by decide), fun _ => ?_⟩) (fun ha => ⟨fun _ => go (fun w => ha w.2), fun z => absurd rfl z⟩)
      have bin := bhR_in hB0 hlt q.symm f2 ha hpn
      obtain ⟨w1, w2, w3⟩ := hk e hlt q ha
      have mr := more ⟨q, ha⟩
      refine sp_behind hB0 hp hN hu hlt hpn q ?_
      revert w1 w2 w3 bin
      generalize hs : bhR B P bn pa pb fr to p e = s
      intro w3 bin w1 w2
      have cs : (nI s).toNatClampNeg = s := nI_clamp (by omega)
      have is : vp_in (nI s) 40000 := vp_in_nI (by omega) (by decide)
      have ws : lW (Wo s) = lE (Wo s - 1) := by
        have := lW_s (Wo s - 1)
        rw [Nat.sub_add_cancel (by omega)] at this
        exact this
      have JN : ∀ hi', hi' < 2 ^ 61 → mxO (fun x => x < e + 1 ∧ fr x = p % B ∧ alR B P bn pa pb p x) (fun e => Wo (bhR B P bn pa pb fr to p e) - 1) (endZ E fr (p % B)) hi' → jn_X4_workOut_102 (nI p) (nI (p % B)) (lE hi') (lE lo) (nI e) (nI s) (nI B) (nI E) (nI P) (rep fr) (rep to) (rpB bn) (rep pa) (rep pb) MT LT (rep cu) (rep fu) (repW Wo) (repL Be) (lp_X4_workOut_43 (nI p) (nI (p % B)) (nI B) (nI E) (nI P) (rep fr) (rep to) (rpB bn) (rep pa) (rep pb) MT LT (rep cu) (rep fu) (repW Wo) (repL Be) Q (d + 1)) Q := by
        intro hi' hhi' k1
        unfold jn_X4_workOut_102
        rw [cs, repL_at, lg_lt, lg_lt, lg_ge, lE_neg (by omega), lE_neg (by omega), lE_lt (by omega) (by omega), nI_1]
        refine ⟨is, fun q2 => ?_, fun q2 => ⟨fun q3 => ⟨is, ?_⟩, fun q3 => ⟨is, fun q4 => ?_, fun q4 => ⟨is, ?_⟩⟩⟩⟩
        · exact ih (e + 1) (by omega) hi' lo hhi' hlo k1 (mnO_add0 a2 mr (by show Be _ = 0; rw [hs]; exact q2))
        · have k2 := mnO_add a2 mr (show Be (bhR B P bn pa pb fr to p e) ≠ 0 by rw [hs]; exact q2)
          have e2 : (if lo = 0 ∨ Be (bhR B P bn pa pb fr to p e) < lo then Be (bhR B P bn pa pb fr to p e) else lo) = Be s := by rw [hs, if_pos (Or.inl q3)]
          rw [e2] at k2
          exact ih (e + 1) (by omega) hi' (Be s) hhi' (by omega) k1 k2
        · have k2 := mnO_add a2 mr (show Be (bhR B P bn pa pb fr to p e) ≠ 0 by rw [hs]; exact q2)
          have e2 : (if lo = 0 ∨ Be (bhR B P bn pa pb fr to p e) < lo then Be (bhR B P bn pa pb fr to p e) else lo) = lo := by rw [hs, if_neg (by omega)]
          rw [e2] at k2
          exact ih (e + 1) (by omega) hi' lo hhi' hlo k1 k2
        · have k2 := mnO_add a2 mr (show Be (bhR B P bn pa pb fr to p e) ≠ 0 by rw [hs]; exact q2)
          have e2 : (if lo = 0 ∨ Be (bhR B P bn pa pb fr to p e) < lo then Be (bhR B P bn pa pb fr to p e) else lo) = Be s := by rw [hs, if_pos (Or.inr (Classical.byContradiction q4))]
          rw [e2] at k2
          exact ih (e + 1) (by omega) hi' (Be s) hhi' (by omega) k1 k2
      have k1 := mxO_add a1 mr
      have e1 : (if (fun e => Wo (bhR B P bn pa pb fr to p e) - 1) e < hi then hi else (fun e => Wo (bhR B P bn pa pb fr to p e) - 1) e) = if Wo s - 1 < hi then hi else Wo s - 1 := by show (if Wo (bhR B P bn pa pb fr to p e) - 1 < hi then hi else Wo (bhR B P bn pa pb fr to p e) - 1) = _; rw [hs]
      have k1 : mxO (fun x => x < e + 1 ∧ fr x = p % B ∧ alR B P bn pa pb p x) (fun e => Wo (bhR B P bn pa pb fr to p e) - 1) (endZ E fr (p % B)) (if Wo s - 1 < hi then hi else Wo s - 1) := by rw [← e1]; exact k1
      rw [cs, repW_at, ws, lg_le, lE_lt (by omega) (by omega)]
      refine ⟨is, fun q2 => JN hi hhi ?_, fun q2 => ⟨is, JN _ (by omega) ?_⟩⟩
      · have : (if Wo s - 1 < hi then hi else Wo s - 1) = hi := by split <;> omega
        rw [this] at k1
        exact k1
      · have : (if Wo s - 1 < hi then hi else Wo s - 1) = Wo s - 1 := by rw [if_neg (by omega)]
        rw [this] at k1
        exact k1
  have em : ∀ x, ¬ (x < 0 ∧ fr x = p % B ∧ alR B P bn pa pb p x) := fun x w => by omega
  have zz : endZ E fr (p % B) = 0 ∨ endZ E fr (p % B) = 1 := by unfold endZ; split <;> omega
  have l1 : lE 1 = 0 := by decide
  have hf4 : ∀ e, e < E → fr e < 40 := fun e he => by have := (hft e he).1; omega
  have GO := LP E 0 (by omega) _ _ (by omega) (by omega) (mxO_0 em) (mnO_0 em)
  rw [nI_0] at GO
  unfold wp_X4_workOut
  rw [pk_rem (by omega) hB0 (by omega)]
  refine ⟨nI_ne0 hB0 (by omega), sp_mEnd hE (by omega) hf4 ?_⟩
  unfold jn_X4_workOut_22
  rcases zz with z | z
  · rw [z, lE_0] at GO
    rw [z]
    refine ⟨fun _ => sp_mEnd hE (by omega) hf4 ?_, fun q => absurd nI_0 q⟩
    rw [z]
    exact ⟨fun _ => ⟨E + 1, GO⟩, fun q => absurd nI_0 q⟩
  · rw [z, l1] at GO
    rw [z]
    refine ⟨fun q => absurd q (by decide), fun _ => sp_mEnd hE (by omega) hf4 ?_⟩
    rw [z]
    exact ⟨fun q => absurd q (by decide), fun _ => ⟨E + 1, GO⟩⟩
