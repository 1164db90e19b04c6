theorem sp_edgeOnWay {B E P k : Nat} {what : Int32} {bn cm fr to pa pb lv fl un fg fo r Mo Fe t V : Nat → Nat} {GT LT : Nat → Int32} {Q : Int32 → Prop} (hB0 : 0 < B) (hp : sgP B E P bn fr to pa pb)
    (hl : layC E P bn pa pb un fg fo) (hN : nR B E P bn pa pb ≤ 40000) (hcl : ∀ e, e < E → cm (fr e) = 1 → cm (to e) = 1) (hr : acR B E bn cm fr to r) (hc0 : cm 0 = 1) (hk : k < 2 ^ 31) (hV0 : V 0 ≠ 0)
    (LOW : ∀ c b (Q' : Int32 → Prop), c < nC E P bn pa pb → b < B → cm b = 1 → V (c * B + b) ≠ 0 → (∀ r, isLow (goC B E P bn pa pb fr to t V c b) E r → Q' (encE E r)) → wp_X2_lowestEdge what (nI c) (nI b) (nI B) (rep to) (rpB bn) (rep lv) (rep fl) GT LT (rep un) (rep fg) (rep fo) (repL Mo) (repL Fe) Q')
    (h : ∀ r, wayC B E P bn pa pb fr to t V k 0 0 r → Q (encE E r)) :
    wp_X2_edgeOnWay what (nI k) (nI B) (nI (nC E P bn pa pb)) (rep to) (rpB bn) (rep lv) (rep fl) GT LT (rep un) (rep fg) (rep fo) (repL Mo) (repL Fe) Q := by
  obtain ⟨⟨hB, hE, hP⟩, hft, hbn, hpp⟩ := hp
  have hNC : nC E P bn pa pb * B ≤ 40000 := by rw [nC_R]; exact hN
  have hNC1 : nC E P bn pa pb ≤ 40000 := Nat.le_trans (Nat.le_mul_of_pos_right _ hB0) hNC
  have hNC0 : 0 < nC E P bn pa pb := Nat.mul_pos (prN_pos (kf_pos P pa pb) E) (prN_pos (kc_pos bn) E)
  have LP : ∀ d i, i + d = nC E P bn pa pb * B → ∀ c b, c < nC E P bn pa pb → b < B → cm b = 1 → V (c * B + b) ≠ 0 → i ≤ rkC B r c b → i ≤ k → (∀ r, wayC B E P bn pa pb fr to t V (k - i) c b r → Q (encE E r)) →
      lp_X2_edgeOnWay_20 what (nI k) (nI (nC E P bn pa pb * B)) (nI B) (nI (nC E P bn pa pb)) (rep to) (rpB bn) (rep lv) (rep fl) GT LT (rep un) (rep fg) (rep fo) (repL Mo) (repL Fe) Q (d + 1) (nI c) (nI b) (nI i) := by
    intro d
    induction d with
    | zero =>
      intro i hi c b hc hb hcb hv hrk hik hw
      have := rkC_lt (r := r) (b := b) hB0 hc
      omega
    | succ d ih =>
      intro i hi c b hc hb hcb hv hrk hik hw
      have hlt : i < nC E P bn pa pb * B := by omega
      unfold lp_X2_edgeOnWay_20
      refine ⟨fun q => absurd q (nI_ge hlt (by omega)), fun _ => ?_⟩
      refine LOW c b _ hc hb hcb hv (fun e he => ?_)
      rcases Nat.lt_or_ge e E with z | z
      · have ee : encE E e = nI e := by unfold encE; rw [if_pos z]
        have hg : goC B E P bn pa pb fr to t V c b e := by
          rcases he with ⟨w1, w2⟩ | ⟨w1, w2, w3⟩
          · omega
          · exact w2
        have ce : (nI e).toNatClampNeg = e := nI_clamp (by omega)
        rw [ee]
        refine ⟨fun q => ?_, fun _ => ⟨fun q => ?_, fun q => ?_⟩⟩
        · have k := nI_pos (n := e) (by omega)
          rw [q] at k
          exact absurd (show (-1 : Int32) < 0 by decide) k
        · have q : i ≠ k := fun w => q (by rw [w])
          refine sp_codeBehind hE hbn hpp hNC1 hl z hc (fun ha => ⟨vp_in_nI (by omega) (by decide), ?_⟩) (fun ha => absurd hg.2.1 ha)
          rw [ce, rep_at to, nI_1]
          have hcf : cm (fr e) = 1 := by rw [hg.1]; exact hcb
          have rs := rkC_st (P := P) (pa := pa) (pb := pb) (c := c) hr z (hft e z).1 (hft e z).2 hcf
          rw [hg.1] at rs
          refine ih (i + 1) (by omega) _ _ (nxC_in z ha hc) (hft e z).2 (hcl e z hcf) hg.2.2.1 (by omega) (by omega) (fun r hr => hw r ?_)
          have e1 : k - i = (k - (i + 1)) + 1 := by omega
          rw [e1]
          exact ⟨e, he, Or.inr ⟨z, hr⟩⟩
        · have q : i = k := (nI_eq (by omega) hk).mp q
          have := hw e (by rw [q, Nat.sub_self]; exact he)
          rw [ee] at this
          exact this
      · have ee : encE E e = -1 := by unfold encE; rw [if_neg (by omega)]
        have eE : e = E := by
          rcases he with ⟨w1, w2⟩ | ⟨w1, w2, w3⟩
          · exact w1
          · omega
        rw [ee]
        refine ⟨fun _ => ?_, fun q => absurd rfl q⟩
        subst eE
        have := hw e (by
          rcases Nat.eq_zero_or_pos (k - i) with w | w
          · rw [w]; exact he
          · obtain ⟨j, hj⟩ : ∃ j, k - i = j + 1 := ⟨k - i - 1, by omega⟩
            rw [hj]
            exact ⟨e, he, Or.inl ⟨rfl, rfl⟩⟩)
        rw [ee] at this
        exact this
  unfold wp_X2_edgeOnWay
  refine ⟨nC E P bn pa pb * B + 1, ?_⟩
  rw [pk_mul]
  have e0 : 0 * B + 0 = 0 := by omega
  have := LP (nC E P bn pa pb * B) 0 (by omega) 0 0 hNC0 hB0 hc0 (by rw [e0]; exact hV0) (by omega) (by omega) (fun r hr => h r hr)
  rw [nI_0] at this
  exact this
