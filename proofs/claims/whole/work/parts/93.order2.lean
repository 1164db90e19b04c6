theorem arC_s {e : Nat} {bn cm fr to pr : Nat → Nat} {b : Nat} : arC (e + 1) bn cm fr to pr b = arC e bn cm fr to pr b + if bn e = 0 ∧ cm (fr e) = 1 ∧ to e = b ∧ pr e = 0 then 1 else 0 := rfl
theorem sp_countArriving {B E : Nat} {bn cm fr to ar0 : Nat → Nat} {Q : (Nat → Int32) → Prop} (hB : B ≤ 40) (hE : E ≤ 80) (hft : ∀ e, e < E → fr e < B ∧ to e < B) (hbn : ∀ e, bn e ≤ 16) (hcm : ∀ b, cm b ≤ 1) (h : ∀ ar, (∀ b, b < B → ar b = arC E bn cm fr to (fun _ => 0) b) → Q (rep ar)) : wp_X2_countArriving (nI E) (rep fr) (rep to) (rpB bn) (rep cm) (rep ar0) Q := by
  have LP : ∀ d e, e + d = E → lp_X2_countArriving_10 (nI E) (rep fr) (rep to) (rpB bn) (rep cm) Q (d + 1) (nI e) (rep (fun b => if b < 40 then arC e bn cm fr to (fun _ => 0) b else ar0 b)) := by
    intro d
    induction d with
    | zero =>
      intro e he
      have z : e = E := by omega
      subst z
      unfold lp_X2_countArriving_10
      exact ⟨fun _ => h _ (fun b hb => by rw [if_pos (by omega)]), fun q => absurd (nI_le (Nat.le_refl _) (by omega)) q⟩
    | succ d ih =>
      intro e he
      have hlt : e < E := by omega
      obtain ⟨hf, ht⟩ := hft e hlt
      have ce : (nI e).toNatClampNeg = e := nI_clamp (by omega)
      have cf : (nI (fr e)).toNatClampNeg = fr e := nI_clamp (by omega)
      have ct : (nI (to e)).toNatClampNeg = to e := nI_clamp (by omega)
      have ie : vp_in (nI e) 80 := vp_in_nI (by omega) (by decide)
      have i2 : vp_in (nI (fr e)) 40 := vp_in_nI (by omega) (by decide)
      have i3 : vp_in (nI (to e)) 40 := vp_in_nI (by omega) (by decide)
      have nx := ih (e + 1) (by omega)
      rw [← nI_1] at nx
      have c0 : nI (cm (fr e)) = 0 ↔ cm (fr e) = 0 := by rw [← nI_0]; exact nI_eq (by have := hcm (fr e); omega) (by decide)
      unfold lp_X2_countArriving_10
      simp only [ce, rep_at fr, rep_at to, cf, ct, rpB_at, rep_at cm]
      have same : ¬ (bn e = 0 ∧ cm (fr e) = 1) → (rep (fun b => if b < 40 then arC (e + 1) bn cm fr to (fun _ => 0) b else ar0 b)) = rep (fun b => if b < 40 then arC e bn cm fr to (fun _ => 0) b else ar0 b) := fun w => rep_ext (fun b => by
        have : ¬ (bn e = 0 ∧ cm (fr e) = 1 ∧ to e = b ∧ (fun _ => 0) e = 0) := fun y => w ⟨y.1, y.2.1⟩
        rw [arC_s, if_neg this, Nat.add_zero])
      refine ⟨fun q => absurd q (nI_ge hlt (by omega)), fun _ => ⟨ie, fun q => ?_, fun q => ⟨ie, i2, fun q2 => ?_, fun q2 => ⟨ie, i3, i3, ?_⟩⟩⟩⟩
      · have q : bn e ≠ 0 := fun z => q ((rpB_n (hbn e)).mpr z)
        rw [← same (fun w => q w.1)]
        exact nx
      · have q2 := c0.mp q2
        rw [← same (fun w => by omega)]
        exact nx
      · have q := (rpB_n (hbn e)).mp q
        have q2 : cm (fr e) = 1 := by have := hcm (fr e); have : cm (fr e) ≠ 0 := fun z => q2 (c0.mpr z); omega
        rw [rep_at, nI_1 e, nI_1, rep_upd]
        rw [nI_1 e] at nx
        have e1 : (rep (fun b => if b < 40 then arC (e + 1) bn cm fr to (fun _ => 0) b else ar0 b)) = rep (fun j => if j = to e then (if to e < 40 then arC e bn cm fr to (fun _ => 0) (to e) else ar0 (to e)) + 1 else if j < 40 then arC e bn cm fr to (fun _ => 0) j else ar0 j) := rep_ext (fun b => by
          rw [arC_s]
          by_cases z : b = to e
          · subst z
            have : to e < 40 := by omega
            simp [q, q2, this]
          · have : ¬ (bn e = 0 ∧ cm (fr e) = 1 ∧ to e = b ∧ (fun _ => 0) e = 0) := fun y => z y.2.2.1.symm
            rw [if_neg this, if_neg z, Nat.add_zero])
        rw [← e1]
        exact nx
  unfold wp_X2_countArriving
  refine ⟨E + 1, ?_⟩
  rw [← nI_0, filled_rep]
  exact LP E 0 (by omega)
def lvS (B : Nat) (lv fl : Nat → Nat) : Prop := ∀ b, b < B → ∀ i j, fl b ≤ i → i < j → j < fl (b + 1) → lv i < lv j
theorem sp_put {b m : Nat} {od : Nat → Nat} {Q : Int32 → (Nat → Int32) → Prop} (hm : m < 40) (h : Q (nI (m + 1)) (rep (fun j => if j = m then b else od j))) : wp_X2_putInOrder (nI b) (nI m) (rep od) Q := by
  unfold wp_X2_putInOrder
  have cm : (nI m).toNatClampNeg = m := nI_clamp (by omega)
  refine ⟨fun q => absurd q (nI_ge hm (by decide)), fun _ => ⟨vp_in_nI hm (by decide), ?_⟩⟩
  rw [cm, rep_upd, nI_1]
  exact h
theorem sp_order_in {B E cc d : Nat} {bn cm fr to lv fl : Nat → Nat} {K : Int32 → Int32 → (Nat → Int32) → (Nat → Int32) → Prop} {Q : Int32 → Int32 → (Nat → Int32) → (Nat → Int32) → Prop} (hB : B ≤ 40) (hE : E ≤ 80) (hft : ∀ e, e < E → fr e < B ∧ to e < B)
    (hfl : ∀ b, b < B → fl b ≤ fl (b + 1) ∧ fl (b + 1) ≤ E ∧ ∀ i, fl b ≤ i → i < fl (b + 1) → lv i < E ∧ fr (lv i) = b) (hall : ∀ e, e < E → ∃ i, fl (fr e) ≤ i ∧ i < fl (fr e + 1) ∧ lv i = e) (hs : lvS B lv fl) (hbn : ∀ e, bn e ≤ 16) (hcm : ∀ b, cm b ≤ 1) (hcl : ∀ e, e < E → cm (fr e) = 1 → cm (to e) = 1) (hd : d < 40) {b : Nat} (hb : b < B)
    (hK : ∀ pr io od ar m, d < m → khI B E bn cm fr to pr io od ar m (d + 1) (d + 1) → K (nI (d + 1)) (nI m) (rep od) (rep ar)) :
    ∀ k i, i + k = fl (b + 1) → fl b ≤ i → ∀ pr io od ar m, khI B E bn cm fr to pr io od ar m (d + 1) d → d < m → od d = b → (∀ j, fl b ≤ j → j < i → bn (lv j) = 0 → pr (lv j) = 1) → (∀ j, i ≤ j → j < fl (b + 1) → pr (lv j) = 0) →
      lp_X2_orderBlocks_83 (nI d) (nI b) (nI B) (nI E) (nI cc) (rep fr) (rep to) (rpB bn) (rep lv) (rep fl) (rep cm) K Q (k + 1) (nI i) (nI m) (rep od) (rep ar) := by
  obtain ⟨f1, f2, f3⟩ := hfl b hb
  intro k
  induction k with
  | zero =>
    intro i hi hi0 pr io od ar m hk hdm hod p1 p2
    have z : i = fl (b + 1) := by omega
    subst z
    have cb1 : (nI (b + 1)).toNatClampNeg = b + 1 := nI_clamp (by omega)
    unfold lp_X2_orderBlocks_83
    rw [nI_1, cb1, rep_at fl]
    refine ⟨vp_in_nI (by omega) (by decide), fun _ => ?_, fun q => absurd (nI_le (Nat.le_refl _) (by omega)) q⟩
    rw [nI_1]
    refine hK pr io od ar m hdm ?_
    obtain ⟨h1, h2, h3, h4, h5, h6, h7, h8, h9⟩ := hk
    refine ⟨h1, h2, h3, h4, h5, h6, h7, h8, fun i hi him e he hbe hfe => ?_⟩
    by_cases z : i = d
    · subst z
      obtain ⟨j, j1, j2, j3⟩ := hall e he
      rw [hfe, hod] at j1 j2
      have := p1 j j1 j2 (by rw [j3]; exact hbe)
      rw [j3] at this
      exact this
    · exact h9 i (by omega) him e he hbe hfe
  | succ k ih =>
    intro i hi hi0 pr io od ar m hk hdm hod p1 p2
    have hlt : i < fl (b + 1) := by omega
    obtain ⟨g1, g2⟩ := f3 i hi0 hlt
    obtain ⟨hf, ht⟩ := hft (lv i) g1
    have cb1 : (nI (b + 1)).toNatClampNeg = b + 1 := nI_clamp (by omega)
    have ci : (nI i).toNatClampNeg = i := nI_clamp (by omega)
    have cl : (nI (lv i)).toNatClampNeg = lv i := nI_clamp (by omega)
    have ct : (nI (to (lv i))).toNatClampNeg = to (lv i) := nI_clamp (by omega)
    have ii : vp_in (nI i) 80 := vp_in_nI (by omega) (by decide)
    have il : vp_in (nI (lv i)) 80 := vp_in_nI (by omega) (by decide)
    have it : vp_in (nI (to (lv i))) 40 := vp_in_nI (by omega) (by decide)
    have inj : ∀ j, i < j → j < fl (b + 1) → lv j ≠ lv i := fun j q1 q2 z => by have := hs b hb i j hi0 q1 q2; omega
    unfold lp_X2_orderBlocks_83
    rw [nI_1 b, cb1, rep_at fl]
    simp only [ci, rep_at lv, cl, rep_at to, ct, rpB_at]
    refine ⟨vp_in_nI (by omega) (by decide), fun q => absurd q (nI_ge hlt (by omega)), fun _ => ⟨ii, il, fun q => ?_, fun q => ?_⟩⟩
    · have q : bn (lv i) ≠ 0 := fun z => q ((rpB_n (hbn _)).mpr z)
      rw [nI_1]
      refine ih (i + 1) (by omega) (by omega) pr io od ar m hk hdm hod (fun j j1 j2 j3 => ?_) (fun j j1 j2 => p2 j (by omega) j2)
      by_cases z : j = i
      · subst z; exact absurd j3 q
      · exact p1 j j1 (by omega) j3
    · have q := (rpB_n (hbn _)).mp q
      have hp0 := p2 i (Nat.le_refl _) hlt
      obtain ⟨r1, r2, r3, r4, r5⟩ := kh_dec hft hcl hk g1 q hp0 hdm (by omega) (by rw [g2, hod])
      have arl : ar (to (lv i)) ≤ 80 := by
        have := hk.2.2.2.2.1 _ ht
        have := arC_le (E := E) (bn := bn) (cm := cm) (fr := fr) (to := to) (pr := pr) (b := to (lv i))
        omega
      have dec : nI (ar (to (lv i))) - 1 = nI (ar (to (lv i)) - 1) := pk_sub (b := 1) r1
      rw [rep_at ar, dec, rep_upd, nI_1 i]
      have at0 : (rep (fun j => if j = to (lv i) then ar (to (lv i)) - 1 else ar j)) (to (lv i)) = nI (ar (to (lv i)) - 1) := by rw [rep_at, if_pos rfl]
      rw [at0]
      have z0 : nI (ar (to (lv i)) - 1) = 0 ↔ ar (to (lv i)) - 1 = 0 := by rw [← nI_0]; exact nI_eq (by omega) (by decide)
      have pj1 : ∀ j, fl b ≤ j → j < i + 1 → bn (lv j) = 0 → (if lv j = lv i then 1 else pr (lv j)) = 1 := fun j j1 j2 j3 => by
        by_cases z : lv j = lv i
        · rw [if_pos z]
        · rw [if_neg z]
          exact p1 j j1 (by have : j ≠ i := fun w => z (by rw [w]); omega) j3
      have pj2 : ∀ j, i + 1 ≤ j → j < fl (b + 1) → (if lv j = lv i then 1 else pr (lv j)) = 0 := fun j j1 j2 => by
        rw [if_neg (inj j (by omega) j2)]
        exact p2 j (by omega) j2
      refine ⟨il, it, it, il, it, fun q2 => ?_, fun q2 => ⟨il, ?_⟩⟩
      · have q2 : ar (to (lv i)) - 1 ≠ 0 := fun z => q2 (z0.mpr z)
        exact ih (i + 1) (by omega) (by omega) _ io od _ m (r4 q2) hdm hod pj1 pj2
      · have q2 := z0.mp q2
        refine sp_put (by omega) ?_
        exact ih (i + 1) (by omega) (by omega) _ _ _ _ (m + 1) (r5 q2 (by omega)) (by omega) (by show (if d = m then to (lv i) else od d) = b; rw [if_neg (by omega)]; exact hod) pj1 pj2
theorem sp_orderBlocks {B E : Nat} {so : Int32} {bn cm fr to lv fl od0 ar0 : Nat → Nat} {Q : Int32 → Int32 → (Nat → Int32) → (Nat → Int32) → Prop} (hB : B ≤ 40) (hE : E ≤ 80) (hft : ∀ e, e < E → fr e < B ∧ to e < B)
    (hfl : ∀ b, b < B → fl b ≤ fl (b + 1) ∧ fl (b + 1) ≤ E ∧ ∀ i, fl b ≤ i → i < fl (b + 1) → lv i < E ∧ fr (lv i) = b) (hall : ∀ e, e < E → ∃ i, fl (fr e) ≤ i ∧ i < fl (fr e + 1) ∧ lv i = e) (hs : lvS B lv fl) (hbn : ∀ e, bn e ≤ 16) (hcm : ∀ b, cm b ≤ 1) (hcl : ∀ e, e < E → cm (fr e) = 1 → cm (to e) = 1)
    (h1 : ∀ od ar m, ordOK B E bn cm fr to od m → Q 1 (nI m) (rep od) (rep ar))
    (h0 : ∀ od ar m, m ≤ B → (¬ ∃ r, acR B E bn cm fr to r) → Q 0 (nI m) (rep od) (rep ar)) :
    wp_X2_orderBlocks (nI B) (nI E) (nI (sumN cm B)) so (rep fr) (rep to) (rpB bn) (rep lv) (rep fl) (rep cm) (rep od0) (rep ar0) Q := by
  have hcs : sumN cm B ≤ B := by have := sumN_cst (c := 1) B (fun k _ => hcm k); omega
  have FIN : ∀ pr io od ar m x d, m ≤ d → khI B E bn cm fr to pr io od ar m x d → (¬ nI m = nI (sumN cm B) → Q 0 (nI m) (rep od) (rep ar)) ∧ (nI m = nI (sumN cm B) → Q 1 (nI m) (rep od) (rep ar)) := by
    intro pr io od ar m x d hmd hk
    have mB : m ≤ B := by have := sumN_cst (c := 1) B (fun k _ => hk.1.1 k); have := hk.1.2.2; omega
    refine ⟨fun q => h0 od ar m mB (kh_no hft hcm hk hmd (fun z => q (by rw [z]))), fun q => h1 od ar m (kh_ok hcm hk ((nI_eq (by omega) (by omega)).mp q))⟩
  have L52 : ∀ k d, d + k = 41 → ∀ pr io od ar m, d ≤ m → khI B E bn cm fr to pr io od ar m d d → lp_X2_orderBlocks_52 (nI B) (nI E) (nI (sumN cm B)) (rep fr) (rep to) (rpB bn) (rep lv) (rep fl) (rep cm) Q (k + 1) (nI d) (nI m) (rep od) (rep ar) := by
    intro k
    induction k with
    | zero =>
      intro d hd pr io od ar m hdm hk
      have mB : m ≤ B := by have := sumN_cst (c := 1) B (fun k _ => hk.1.1 k); have := hk.1.2.2; omega
      omega
    | succ k ih =>
      intro d hd pr io od ar m hdm hk
      have mB : m ≤ B := by have := sumN_cst (c := 1) B (fun k _ => hk.1.1 k); have := hk.1.2.2; omega
      unfold lp_X2_orderBlocks_52
      refine ⟨fun q => ?_, fun q => ⟨fun q2 => ?_, fun q2 => ?_⟩⟩
      · have q := (nI_leI (by omega) (by omega)).mp q
        exact FIN pr io od ar m d d q hk
      · have q2 := (nI_leI (a := 40) (by decide) (by omega)).mp (show nI 40 ≤ nI d from q2)
        have q : ¬ m ≤ d := fun z => q (nI_le z (by omega))
        omega
      · have q : d < m := by
          rcases Nat.lt_or_ge d m with z | z
          · exact z
          · exact absurd (nI_le z (by omega)) q
        have cd : (nI d).toNatClampNeg = d := nI_clamp (by omega)
        obtain ⟨o1, o2, o3⟩ := hk.2.1 d q
        have co : (nI (od d)).toNatClampNeg = od d := nI_clamp (by omega)
        have f := hfl (od d) o1
        rw [cd, rep_at od, co, rep_at fl]
        refine ⟨vp_in_nI (by omega) (by decide), vp_in_nI (by omega) (by decide), ?_⟩
        refine ⟨fl (od d + 1) - fl (od d) + 1, sp_order_in hB hE hft hfl hall hs hbn hcm hcl (d := d) (by omega) o1 (fun pr io od ar m hm hk2 => ih (d + 1) (by omega) pr io od ar m (by omega) hk2) (fl (od d + 1) - fl (od d)) (fl (od d)) (by omega) (Nat.le_refl _) pr io od ar m ?_ q rfl (fun j j1 j2 => by omega) (fun j j1 j2 => ?_)⟩
        · obtain ⟨h1, h2, h3, h4, h5, h6, h7, h8, h9⟩ := hk
          exact ⟨h1, h2, h3, h4, h5, h6, fun e he hp => by
            obtain ⟨k1, i, k2, k3, k4⟩ := h7 e he hp
            exact ⟨k1, i, k2, by omega, k4⟩, h8, h9⟩
        · obtain ⟨l1, l2⟩ := f.2.2 j j1 j2
          have := hk.1.2.1 (lv j)
          rcases Nat.eq_zero_or_pos (pr (lv j)) with z | z
          · exact z
          · obtain ⟨k1, i, k2, k3, k4⟩ := hk.2.2.2.2.2.2.1 (lv j) l1 (by omega)
            have := hk.2.2.2.1 i d k2 q (by rw [k4, l2])
            omega
  unfold wp_X2_orderBlocks
  refine sp_countArriving hB hE hft hbn hcm (fun ar har => ?_)
  have arl : ∀ b, b < B → ar b ≤ 80 := fun b hb => by
    have := har b hb
    have := arC_le (E := E) (bn := bn) (cm := cm) (fr := fr) (to := to) (pr := fun _ => 0) (b := b)
    omega
  have L13 : ∀ k b, b + k = B → ∀ io od m, (∀ x, io x ≤ 1) → m = sumN io b → (∀ x, b ≤ x → io x = 0) → (∀ j, j < m → od j < b ∧ cm (od j) = 1 ∧ io (od j) = 1) → (∀ x, x < b → io x = 1 → ∃ j, j < m ∧ od j = x) → (∀ i j, i < m → j < m → od i = od j → i = j) → (∀ x, x < b → cm x = 1 → (ar x = 0 ↔ io x = 1)) →
      lp_X2_orderBlocks_13 (nI B) (nI E) (nI (sumN cm B)) (rep fr) (rep to) (rpB bn) (rep lv) (rep fl) (rep cm) (rep ar) Q (k + 1) (nI b) (nI m) (rep od) := by
    intro k
    induction k with
    | zero =>
      intro b hb io od m a1 a2 a3 a4 a5 a6 a7
      have z : b = B := by omega
      subst z
      unfold lp_X2_orderBlocks_13
      refine ⟨fun _ => ⟨42, ?_⟩, fun q => absurd (nI_le (Nat.le_refl _) (by omega)) q⟩
      rw [← nI_0]
      refine L52 41 0 (by omega) (fun _ => 0) io od ar m (by omega) ⟨⟨a1, fun _ => Nat.zero_le _, a2⟩, a4, a5, a6, har, a7, fun e he hp => absurd (show (0 : Nat) = 1 from hp) (by decide), fun j hj e he hbe hce hte => ?_, fun i hi => by omega⟩
      obtain ⟨k1, k2, k3⟩ := a4 j hj
      have z0 := (a7 (od j) k1 k2).mpr k3
      rw [har (od j) k1] at z0
      have k := sumN_z E z0 e he
      simp [hbe, hce, hte] at k
    | succ k ih =>
      intro b hb io od m a1 a2 a3 a4 a5 a6 a7
      have hlt : b < B := by omega
      have cb : (nI b).toNatClampNeg = b := nI_clamp (by omega)
      have ib : vp_in (nI b) 40 := vp_in_nI (by omega) (by decide)
      have c0 : nI (cm b) = 0 ↔ cm b = 0 := by rw [← nI_0]; exact nI_eq (by have := hcm b; omega) (by decide)
      have r0 : nI (ar b) = 0 ↔ ar b = 0 := by rw [← nI_0]; exact nI_eq (by have := arl b hlt; omega) (by decide)
      have i0 := a3 b (Nat.le_refl _)
      have mb : m ≤ b := by have := sumN_cst (c := 1) b (fun k _ => a1 k); omega
      have stay : (¬ (cm b = 1 ∧ ar b = 0)) → lp_X2_orderBlocks_13 (nI B) (nI E) (nI (sumN cm B)) (rep fr) (rep to) (rpB bn) (rep lv) (rep fl) (rep cm) (rep ar) Q (k + 1) (nI b + 1) (nI m) (rep od) := by
        intro w
        rw [nI_1]
        refine ih (b + 1) (by omega) io od m a1 (by show m = sumN io b + io b; omega) (fun x hx => a3 x (by omega)) (fun j hj => ⟨by have := (a4 j hj).1; omega, (a4 j hj).2⟩) (fun x hx hio => ?_) a6 (fun x hx hc => ?_)
        · by_cases z : x = b
          · subst z; omega
          · exact a5 x (by omega) hio
        · by_cases z : x = b
          · subst z
            exact ⟨fun y => absurd ⟨hc, y⟩ w, fun y => by omega⟩
          · exact a7 x (by omega) hc
      unfold lp_X2_orderBlocks_13
      simp only [cb, rep_at cm, rep_at ar]
      refine ⟨fun q => absurd q (nI_ge hlt (by omega)), fun _ => ⟨ib, fun q => stay (fun w => by have := c0.mp q; omega), fun q => ⟨ib, fun q2 => stay (fun w => q2 (r0.mpr w.2)), fun q2 => ?_⟩⟩⟩
      have q : cm b = 1 := by have := hcm b; have : cm b ≠ 0 := fun z => q (c0.mpr z); omega
      have q2 := r0.mp q2
      refine sp_put (by omega) ?_
      rw [nI_1]
      have odl : ∀ j, j < m → (if j = m then b else od j) = od j := fun j hj => by rw [if_neg (by omega)]
      refine ih (b + 1) (by omega) (fun x => if x = b then 1 else io x) (fun j => if j = m then b else od j) (m + 1) (fun x => ?_) ?_ (fun x hx => ?_) (fun j hj => ?_) (fun x hx hio => ?_) (fun i j hi hj hij => ?_) (fun x hx hc => ?_)
      · have := a1 x
        show (if x = b then 1 else io x) ≤ 1
        split <;> omega
      · show m + 1 = sumN (fun x => if x = b then 1 else io x) b + (if b = b then 1 else io b)
        rw [if_pos rfl, a2, sumN_eq (f := fun x => if x = b then 1 else io x) (g := io) b (fun k hk => by rw [if_neg (by omega)])]
      · show (if x = b then 1 else io x) = 0
        rw [if_neg (by omega)]
        exact a3 x (by omega)
      · show (if j = m then b else od j) < b + 1 ∧ cm (if j = m then b else od j) = 1 ∧ (if (if j = m then b else od j) = b then 1 else io (if j = m then b else od j)) = 1
        by_cases z : j = m
        · simp only [z, if_true]
          exact ⟨by omega, q, trivial⟩
        · rw [odl j (by omega)]
          obtain ⟨k1, k2, k3⟩ := a4 j (by omega)
          exact ⟨by omega, k2, by rw [if_neg (by omega)]; exact k3⟩
      · have hio : (if x = b then 1 else io x) = 1 := hio
        by_cases z : x = b
        · exact ⟨m, by omega, by show (if m = m then b else od m) = x; rw [if_pos rfl, z]⟩
        · rw [if_neg z] at hio
          obtain ⟨j, k1, k2⟩ := a5 x (by omega) hio
          exact ⟨j, by omega, by show (if j = m then b else od j) = x; rw [odl j k1]; exact k2⟩
      · have hij : (if i = m then b else od i) = (if j = m then b else od j) := hij
        by_cases zi : i = m <;> by_cases zj : j = m
        · omega
        · rw [if_pos zi, if_neg zj] at hij
          have := (a4 j (by omega)).1
          omega
        · rw [if_neg zi, if_pos zj] at hij
          have := (a4 i (by omega)).1
          omega
        · rw [if_neg zi, if_neg zj] at hij
          exact a6 i j (by omega) (by omega) hij
      · show ar x = 0 ↔ (if x = b then 1 else io x) = 1
        by_cases z : x = b
        · subst z
          rw [if_pos rfl]
          exact ⟨fun _ => rfl, fun _ => q2⟩
        · rw [if_neg z]
          exact a7 x (by omega) hc
  refine ⟨B + 1, ?_⟩
  have k := L13 B 0 (by omega) (fun _ => 0) od0 0 (fun _ => by omega) rfl (fun _ _ => rfl) (fun j hj => by omega) (fun x hx => by omega) (fun i j hi => by omega) (fun x hx => by omega)
  rw [nI_0] at k
  exact k
