def rdI (B E : Nat) (bn cm fr to st r : Nat → Nat) (k : Nat) : Prop :=
  (∀ b, b < B → st b ≤ 1 ∧ (st b = 1 → cm b = 1)) ∧ k + sumN st B ≤ B ∧ ∀ b, b < B → cm b = 1 → st b = 0 → r b < k ∧ ∀ e, e < E → fr e = b → bn e = 0 → st (to e) = 0 ∧ r (to e) < r b
def rdG (E : Nat) (bn fr to st : Nat → Nat) (b : Nat) : Prop := ∃ e, e < E ∧ fr e = b ∧ bn e = 0 ∧ st (to e) = 1
theorem rd_take {B E : Nat} {bn cm fr to st r : Nat → Nat} {k b : Nat} (hft : ∀ e, e < E → fr e < B ∧ to e < B) (hcl : ∀ e, e < E → cm (fr e) = 1 → cm (to e) = 1) (h : rdI B E bn cm fr to st r k) (hb : b < B) (hst : st b = 1) (hg : ¬ rdG E bn fr to st b) :
    rdI B E bn cm fr to (fun j => if j = b then 0 else st j) (fun j => if j = b then k else r j) (k + 1) ∧ sumN (fun j => if j = b then 0 else st j) B < sumN st B := by
  obtain ⟨h1, h2, h3⟩ := h
  have su := sumN_pt (b := b) (f := fun j => if j = b then 0 else st j) (g := st) B hb (fun k _ hk => by simp [hk])
  simp only [if_true] at su
  refine ⟨⟨fun x hx => ?_, by omega, fun x hx hc hs => ?_⟩, by omega⟩
  · show (if x = b then 0 else st x) ≤ 1 ∧ ((if x = b then 0 else st x) = 1 → cm x = 1)
    by_cases z : x = b
    · rw [if_pos z]
      exact ⟨by omega, fun w => by omega⟩
    · rw [if_neg z]
      exact h1 x hx
  · have hs : (if x = b then 0 else st x) = 0 := hs
    show (if x = b then k else r x) < k + 1 ∧ ∀ e, e < E → fr e = x → bn e = 0 → (if to e = b then 0 else st (to e)) = 0 ∧ (if to e = b then k else r (to e)) < (if x = b then k else r x)
    by_cases z : x = b
    · subst z
      rw [if_pos rfl]
      refine ⟨by omega, fun e he hf hbn => ?_⟩
      have ht := (hft e he).2
      have ne1 : st (to e) ≠ 1 := fun w => hg ⟨e, he, hf, hbn, w⟩
      have ne : to e ≠ x := fun w => ne1 (by rw [w]; exact hst)
      rw [if_neg ne, if_neg ne]
      have s0 : st (to e) = 0 := by have := (h1 _ ht).1; omega
      exact ⟨s0, (h3 _ ht (hcl e he (by rw [hf]; exact hc)) s0).1⟩
    · rw [if_neg z] at hs ⊢
      obtain ⟨k1, k2⟩ := h3 x hx hc hs
      refine ⟨by omega, fun e he hf hbn => ?_⟩
      obtain ⟨k3, k4⟩ := k2 e he hf hbn
      have ne : to e ≠ b := fun w => by rw [w] at k3; omega
      rw [if_neg ne, if_neg ne]
      exact ⟨k3, k4⟩
theorem rd_ok {B E : Nat} {bn cm fr to st r : Nat → Nat} {k : Nat} (hft : ∀ e, e < E → fr e < B ∧ to e < B) (hcl : ∀ e, e < E → cm (fr e) = 1 → cm (to e) = 1) (h : rdI B E bn cm fr to st r k) (hn : ∀ b, b < B → st b ≠ 1) : ∃ r, acR B E bn cm fr to r := by
  obtain ⟨h1, h2, h3⟩ := h
  have s0 : ∀ b, b < B → st b = 0 := fun b hb => by have := (h1 b hb).1; have := hn b hb; omega
  refine ⟨fun b => if cm b = 1 then r b else 0, fun b hb => ?_, fun e he hbn hc => ?_⟩
  · show (if cm b = 1 then r b else 0) < B
    by_cases z : cm b = 1
    · rw [if_pos z]
      have := (h3 b hb z (s0 b hb)).1
      omega
    · rw [if_neg z]
      omega
  · show (if cm (to e) = 1 then r (to e) else 0) < (if cm (fr e) = 1 then r (fr e) else 0)
    rw [if_pos hc, if_pos (hcl e he hc)]
    exact ((h3 _ (hft e he).1 hc (s0 _ (hft e he).1)).2 e he rfl hbn).2
theorem rd_no {B E : Nat} {bn cm fr to st : Nat → Nat} (hft : ∀ e, e < E → fr e < B ∧ to e < B) (hc : ∀ b, b < B → st b = 1 → cm b = 1) (hg : ∀ b, b < B → st b = 1 → rdG E bn fr to st b) {b : Nat} (hb : b < B) (hs : st b = 1) : ¬ ∃ r, acR B E bn cm fr to r := by
  rintro ⟨r, r1, r2⟩
  have key : ∀ v b, r b = v → b < B → st b = 1 → False := by
    intro v
    induction v using Nat.strongRecOn with
    | ind v ih =>
      intro b hv hb hs
      obtain ⟨e, he, hf, hbn, ht⟩ := hg b hb hs
      have := r2 e he hbn (by rw [hf]; exact hc b hb hs)
      rw [hf] at this
      exact ih (r (to e)) (by omega) (to e) rfl (hft e he).2 ht
  exact key _ b rfl hb hs
theorem sp_isRound {B E : Nat} {bn cm fr to st0 : Nat → Nat} {Q : Int32 → (Nat → Int32) → Prop} (hB : B ≤ 40) (hE : E ≤ 80) (hft : ∀ e, e < E → fr e < B ∧ to e < B) (hbn : ∀ e, bn e ≤ 16) (hcm : ∀ b, cm b ≤ 1) (hcl : ∀ e, e < E → cm (fr e) = 1 → cm (to e) = 1)
    (h0 : ∀ st, (∃ r, acR B E bn cm fr to r) → Q 0 (rep st)) (h1 : ∀ st, (¬ ∃ r, acR B E bn cm fr to r) → Q 1 (rep st)) :
    wp_X4_isRound (nI B) (nI E) (rep fr) (rep to) (rpB bn) (rep cm) (rep st0) Q := by
  have one : (1 : Int32) = nI 1 := rfl
  have e1 : ∀ x, x ≤ 1 → (nI x = 1 ↔ x = 1) := fun x hx => by rw [one]; exact nI_eq (by omega) (by decide)
  have e0 : ∀ x, x ≤ 1 → (nI x = 0 ↔ x = 0) := fun x hx => by rw [← nI_0]; exact nI_eq (by omega) (by decide)
  have L157 : ∀ st r k, rdI B E bn cm fr to st r k → (∀ b, b < B → st b = 1 → rdG E bn fr to st b) → ∀ d b, b + d = B → ∀ a, a ≤ 1 → (a = 1 → ∃ x, x < B ∧ st x = 1) → (a = 0 → ∀ x, x < b → st x ≠ 1) → lp_X4_isRound_157 (nI B) (nI E) (rep fr) (rep to) (rpB bn) (rep cm) (rep st) Q (d + 1) (nI a) (nI b) := by
    intro st r k hI hg d
    induction d with
    | zero =>
      intro b hb a ha a1 a2
      have z : b = B := by omega
      subst z
      unfold lp_X4_isRound_157
      refine ⟨fun _ => ⟨nar01 ha, ?_⟩, fun q => absurd (nI_le (Nat.le_refl _) (by omega)) q⟩
      rcases (show a = 0 ∨ a = 1 by omega) with z | z
      · subst z
        exact h0 st (rd_ok hft hcl hI (a2 rfl))
      · subst z
        obtain ⟨x, x1, x2⟩ := a1 rfl
        exact h1 st (rd_no hft (fun b hb => (hI.1 b hb).2) hg x1 x2)
    | succ d ih =>
      intro b hb a ha a1 a2
      have hlt : b < B := by omega
      have cb : (nI b).toNatClampNeg = b := nI_clamp (by omega)
      have sb := (hI.1 b hlt).1
      unfold lp_X4_isRound_157
      rw [cb, rep_at st, e0 a ha, e1 _ sb, nI_1]
      refine ⟨fun q => absurd q (nI_ge hlt (by omega)), fun _ => ⟨fun q => ?_, fun q => ⟨vp_in_nI (by omega) (by decide), fun q2 => ?_, fun q2 => ?_⟩⟩⟩
      · exact ih (b + 1) (by omega) 1 (by omega) (fun _ => a1 (by omega)) (fun z => by omega)
      · have := ih (b + 1) (by omega) 0 (by omega) (fun z => by omega) (fun _ x hx => by
          by_cases z : x = b
          · rw [z]; exact q2
          · exact a2 q x (by omega))
        rw [nI_0] at this
        exact this
      · exact ih (b + 1) (by omega) 1 (by omega) (fun _ => ⟨b, hlt, q2⟩) (fun z => by omega)
  have L59 : ∀ (K38 : Int32 → (Nat → Int32) → Prop) (K46 : Int32 → Int32 → (Nat → Int32) → Prop) (v1 : Int32) st b, b < B → (∀ x, x < B → st x ≤ 1) → ((st b = 1 → rdG E bn fr to st b) → K46 v1 (nI (b + 1)) (rep st)) → (st b = 1 → ¬ rdG E bn fr to st b → K46 1 (nI (b + 1)) (rep (fun j => if j = b then 0 else st j))) →
      ∀ d e, e + d = E → ∀ a, a ≤ 1 → (a = 1 → rdG E bn fr to st b) → (a = 0 → ∀ x, x < e → ¬ (fr x = b ∧ bn x = 0 ∧ st (to x) = 1)) → lp_X4_isRound_59 v1 (nI b) (nI B) (nI E) (rep fr) (rep to) (rpB bn) (rep cm) (rep st) K38 K46 Q (d + 1) (nI a) (nI e) := by
    intro K38 K46 v1 st b hb hst hK0 hK1 d
    have cb : (nI b).toNatClampNeg = b := nI_clamp (by omega)
    have ib : vp_in (nI b) 40001 := vp_in_nI (by omega) (by decide)
    induction d with
    | zero =>
      intro e he a ha a1 a2
      have z : e = E := by omega
      subst z
      unfold lp_X4_isRound_59
      rw [cb, rep_at st, e0 a ha, e1 _ (hst b hb), nI_1]
      refine ⟨fun _ => ⟨ib, fun q => hK0 (fun w => absurd w q), fun q => ⟨fun q2 => hK0 (fun _ => a1 (by omega)), fun q2 => ⟨ib, ?_⟩⟩⟩, fun q => absurd (nI_le (Nat.le_refl _) (by omega)) q⟩
      rw [← nI_0, rep_upd]
      exact hK1 q (fun ⟨x, x1, x2⟩ => a2 q2 x x1 x2)
    | succ d ih =>
      intro e he a ha a1 a2
      have hlt : e < E := by omega
      obtain ⟨hf, ht⟩ := hft e hlt
      have ce : (nI e).toNatClampNeg = e := nI_clamp (by omega)
      have ct : (nI (to e)).toNatClampNeg = to e := nI_clamp (by omega)
      have ie : vp_in (nI e) 80 := vp_in_nI (by omega) (by decide)
      have eb : nI (fr e) = nI b ↔ fr e = b := nI_eq (by omega) (by omega)
      have bl : (0 ≤ nI (bn e) - 1) ↔ bn e ≠ 0 := by
        have := rpB_lt (hbn e)
        constructor
        · intro w z
          exact absurd w (Int32.not_le.mpr (this.mpr z))
        · intro w
          exact Int32.not_lt.mp (fun z => w (this.mp z))
      have stay : ¬ (fr e = b ∧ bn e = 0 ∧ st (to e) = 1) → a = 0 → lp_X4_isRound_59 v1 (nI b) (nI B) (nI E) (rep fr) (rep to) (rpB bn) (rep cm) (rep st) K38 K46 Q (d + 1) 0 (nI (e + 1)) := by
        intro w az
        have := ih (e + 1) (by omega) 0 (by omega) (fun z => by omega) (fun _ x hx => by
          by_cases z : x = e
          · rw [z]; exact w
          · exact a2 az x (by omega))
        rw [nI_0] at this
        exact this
      unfold lp_X4_isRound_59
      rw [ce, rep_at fr, rep_at to, ct, rep_at st (to e), rpB_at, e0 a ha, e1 _ (hst _ ht), eb, bl, nI_1 e]
      refine ⟨fun q => absurd q (nI_ge hlt (by omega)), fun _ => ⟨fun q => ?_, fun q => ⟨ie, fun q2 => stay (fun w => q2 w.1) q, fun q2 => ⟨ie, fun q3 => stay (fun w => q3 w.2.1) q, fun q3 => ⟨ie, vp_in_nI (by omega) (by decide), fun q4 => stay (fun w => q4 w.2.2) q, fun q4 => ?_⟩⟩⟩⟩⟩
      · exact ih (e + 1) (by omega) 1 (by omega) (fun _ => a1 (by omega)) (fun z => by omega)
      · have q3 : bn e = 0 := Classical.byContradiction q3
        exact ih (e + 1) (by omega) 1 (by omega) (fun _ => ⟨e, hlt, q2, q3, q4⟩) (fun z => by omega)
  have L46 : ∀ (K38 : Int32 → (Nat → Int32) → Prop) (S : Nat), (∀ mo st r k, mo ≤ 1 → rdI B E bn cm fr to st r k → (mo = 1 → sumN st B < S) → (mo = 0 → ∀ b, b < B → st b = 1 → rdG E bn fr to st b) → K38 (nI mo) (rep st)) →
      ∀ d b, b + d = B → ∀ mo st r k, mo ≤ 1 → rdI B E bn cm fr to st r k → (sumN st B ≤ S) → (mo = 1 → sumN st B < S) → (mo = 0 → ∀ x, x < b → st x = 1 → rdG E bn fr to st x) → lp_X4_isRound_46 (nI B) (nI E) (rep fr) (rep to) (rpB bn) (rep cm) K38 Q (d + 1) (nI mo) (nI b) (rep st) := by
    intro K38 S hK d
    induction d with
    | zero =>
      intro b hb mo st r k hmo hI hS m1 m0
      have z : b = B := by omega
      subst z
      unfold lp_X4_isRound_46
      exact ⟨fun _ => hK mo st r k hmo hI m1 m0, fun q => absurd (nI_le (Nat.le_refl _) (by omega)) q⟩
    | succ d ih =>
      intro b hb mo st r k hmo hI hS m1 m0
      have hlt : b < B := by omega
      unfold lp_X4_isRound_46
      refine ⟨fun q => absurd q (nI_ge hlt (by omega)), fun _ => ⟨E + 1, ?_⟩⟩
      have := L59 K38 (lp_X4_isRound_46 (nI B) (nI E) (rep fr) (rep to) (rpB bn) (rep cm) K38 Q (d + 1)) (nI mo) st b hlt (fun x hx => (hI.1 x hx).1) (fun hg => ih (b + 1) (by omega) mo st r k hmo hI hS m1 (fun z x hx hs => by
          by_cases w : x = b
          · rw [w] at hs ⊢; exact hg hs
          · exact m0 z x (by omega) hs)) (fun hs hg => by
          obtain ⟨t1, t2⟩ := rd_take hft hcl hI hlt hs hg
          exact ih (b + 1) (by omega) 1 _ _ _ (by omega) t1 (by omega) (fun _ => by omega) (fun z => by omega)) E 0 (by omega) 0 (by omega) (fun z => by omega) (fun _ x hx => by omega)
      rw [nI_0] at this
      exact this
  have L38 : ∀ S mo st r k, mo ≤ 1 → rdI B E bn cm fr to st r k → (mo = 1 → sumN st B ≤ S) → (mo = 0 → ∀ b, b < B → st b = 1 → rdG E bn fr to st b) → lp_X4_isRound_38 (nI B) (nI E) (rep fr) (rep to) (rpB bn) (rep cm) Q (S + 2) (nI mo) (rep st) := by
    intro S
    induction S with
    | zero =>
      intro mo st r k hmo hI m1 m0
      unfold lp_X4_isRound_38
      rw [e0 mo hmo]
      refine ⟨fun q => ⟨B + 1, ?_⟩, fun q => ⟨B + 1, ?_⟩⟩
      · have := L157 st r k hI (m0 q) B 0 (by omega) 0 (by omega) (fun z => by omega) (fun _ x hx => by omega)
        rw [nI_0] at this
        exact this
      · have := L46 (lp_X4_isRound_38 (nI B) (nI E) (rep fr) (rep to) (rpB bn) (rep cm) Q 1) (sumN st B) (fun mo' st' r' k' hmo' hI' m1' m0' => by
          have z : mo' = 0 := by
            rcases (show mo' = 0 ∨ mo' = 1 by omega) with z | z
            · exact z
            · have := m1' z
              have := m1 (by omega)
              omega
          unfold lp_X4_isRound_38
          rw [e0 mo' hmo']
          refine ⟨fun q => ⟨B + 1, ?_⟩, fun w => absurd z w⟩
          have := L157 st' r' k' hI' (m0' z) B 0 (by omega) 0 (by omega) (fun z => by omega) (fun _ x hx => by omega)
          rw [nI_0] at this
          exact this) B 0 (by omega) 0 st r k (by omega) hI (Nat.le_refl _) (fun z => by omega) (fun _ x hx => by omega)
        rw [nI_0] at this
        exact this
    | succ S ih =>
      intro mo st r k hmo hI m1 m0
      unfold lp_X4_isRound_38
      rw [e0 mo hmo]
      refine ⟨fun q => ⟨B + 1, ?_⟩, fun q => ⟨B + 1, ?_⟩⟩
      · have := L157 st r k hI (m0 q) B 0 (by omega) 0 (by omega) (fun z => by omega) (fun _ x hx => by omega)
        rw [nI_0] at this
        exact this
      · have := L46 (lp_X4_isRound_38 (nI B) (nI E) (rep fr) (rep to) (rpB bn) (rep cm) Q (S + 2)) (sumN st B) (fun mo' st' r' k' hmo' hI' m1' m0' => ih mo' st' r' k' hmo' hI' (fun z => by have := m1' z; have := m1 (by omega); omega) m0') B 0 (by omega) 0 st r k (by omega) hI (Nat.le_refl _) (fun z => by omega) (fun _ x hx => by omega)
        rw [nI_0] at this
        exact this
  have L2 : ∀ d b, b + d = B → ∀ st, (∀ x, x < b → st x = cm x) → lp_X4_isRound_2 (nI B) (nI E) (rep fr) (rep to) (rpB bn) (rep cm) Q (d + 1) (nI b) (rep st) := by
    intro d
    induction d with
    | zero =>
      intro b hb st hst
      have z : b = B := by omega
      subst z
      unfold lp_X4_isRound_2
      refine ⟨fun _ => ⟨sumN st b + 2, ?_⟩, fun q => absurd (nI_le (Nat.le_refl _) (by omega)) q⟩
      refine L38 (sumN st b) 1 st (fun _ => 0) 0 (by omega) ⟨fun x hx => ?_, ?_, fun x hx hc hs => ?_⟩ (fun _ => Nat.le_refl _) (fun z => by omega)
      · rw [hst x hx]
        exact ⟨hcm x, fun w => w⟩
      · have := sumN_cst (f := st) (c := 1) b (fun x hx => by rw [hst x hx]; exact hcm x)
        omega
      · rw [hst x hx] at hs
        omega
    | succ d ih =>
      intro b hb st hst
      have hlt : b < B := by omega
      have cb : (nI b).toNatClampNeg = b := nI_clamp (by omega)
      have up : ∀ v, v = cm b → lp_X4_isRound_2 (nI B) (nI E) (rep fr) (rep to) (rpB bn) (rep cm) Q (d + 1) (nI (b + 1)) (upd (rep st) b (nI v)) := by
        intro v hv
        rw [rep_upd]
        refine ih (b + 1) (by omega) _ (fun x hx => ?_)
        show (if x = b then v else st x) = cm x
        by_cases z : x = b
        · rw [if_pos z, hv, z]
        · rw [if_neg z]
          exact hst x (by omega)
      unfold lp_X4_isRound_2
      rw [cb, rep_at cm, e0 _ (hcm b), nI_1]
      refine ⟨fun q => absurd q (nI_ge hlt (by omega)), fun _ => ⟨vp_in_nI (by omega) (by decide), fun q => ⟨vp_in_nI (by omega) (by decide), ?_⟩, fun q => ⟨vp_in_nI (by omega) (by decide), ?_⟩⟩⟩
      · have := up 0 q.symm
        rw [nI_0] at this
        exact this
      · exact up 1 (by have := hcm b; omega)
  unfold wp_X4_isRound
  refine ⟨B + 1, ?_⟩
  have := L2 B 0 (by omega) st0 (fun x hx => by omega)
  rw [nI_0] at this
  exact this
