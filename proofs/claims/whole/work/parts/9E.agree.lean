theorem vsI_ok {B E P : Nat} {bn pa pb cm fr to tH tL r Mo Fe : Nat → Nat} (h : vsI B E P bn pa pb cm fr to tH tL r Mo Fe 0) : okC B E P bn pa pb cm fr to tH tL Mo Fe := fun c b hc hb hcb => (h c b hc hb hcb (Nat.zero_le _)).1
theorem wkI_ok {B E P : Nat} {bn pa pb cm fr to tH tL r Wo Be : Nat → Nat} (h : wkI B E P bn pa pb cm fr to tH tL r Wo Be) (h0 : Wo 0 ≠ 0) : okR B E P bn pa pb fr to tH tL Wo Be := ⟨h0, fun p hp hw => ⟨(h.2 p hp hw).1, (h.2 p hp hw).2.1⟩⟩
theorem acR_cg {B E : Nat} {bn cm cm' fr to r : Nat → Nat} (hft : ∀ e, e < E → fr e < B ∧ to e < B) (hc : ∀ b, b < B → cm b = cm' b) (h : acR B E bn cm' fr to r) : acR B E bn cm fr to r := ⟨h.1, fun e he hb hcm => h.2 e he hb (by rw [← hc _ (hft e he).1]; exact hcm)⟩
theorem wkI_cg {B E P : Nat} {bn pa pb cm cm' fr to tH tL tH' tL' r Wo Be : Nat → Nat} (hB : 0 < B) (hc : ∀ b, b < B → cm b = cm' b ∧ tH b = tH' b ∧ tL b = tL' b) (h : wkI B E P bn pa pb cm' fr to tH' tL' r Wo Be) : wkI B E P bn pa pb cm fr to tH tL r Wo Be := by
  refine ⟨h.1, fun p hp hw => ?_⟩
  have pm : p % B < B := Nat.mod_lt _ hB
  obtain ⟨k1, k2, k3, k4, k5⟩ := h.2 p hp hw
  obtain ⟨c1, c2, c3⟩ := hc _ pm
  refine ⟨?_, k2, by rw [c1]; exact k3, k4, k5⟩
  unfold eqR at k1 ⊢
  rw [c2, c3]
  exact k1
theorem seR_cg {B E P an : Nat} {bn pa pb cm cm' fr to tH tL tH' tL' cu fu Wo Be : Nat → Nat} (hft : ∀ e, e < E → fr e < B ∧ to e < B) (hc : ∀ b, b < B → cm b = cm' b ∧ tH b = tH' b ∧ tL b = tL' b) (h : seR B E P bn pa pb cm' fr to tH' tL' cu fu Wo Be an) : seR B E P bn pa pb cm fr to tH tL cu fu Wo Be an := by
  have c1 : ∀ b, b < B → cm b = cm' b := fun b hb => (hc b hb).1
  rcases h with ⟨a1, a2, a3, ⟨r, a4, a5⟩, a6⟩ | ⟨a1, a2⟩
  · exact Or.inl ⟨a1, a2, a3, ⟨r, acR_cg hft c1 a4, wkI_cg a2 hc a5⟩, a6⟩
  · refine Or.inr ⟨a1, ?_⟩
    rcases Nat.eq_zero_or_pos B with z | z
    · exact Or.inl z
    rcases a2 with b1 | b1 | b1 | ⟨b1, r, Wo, Be, b2, b3, b4⟩
    · exact Or.inl b1
    · exact Or.inr (Or.inl b1)
    · exact Or.inr (Or.inr (Or.inl (fun ⟨r, hr⟩ => b1 ⟨r, acR_cg hft (fun b hb => (c1 b hb).symm) hr⟩)))
    · exact Or.inr (Or.inr (Or.inr ⟨b1, r, Wo, Be, acR_cg hft c1 b2, wkI_cg z hc b3, b4⟩))
theorem se_one {B E P an an' cc : Nat} {bn pa pb cm fr to tH tL un fg fo cu fu Mo Fe Wo Be : Nat → Nat} (hft : ∀ e, e < E → fr e < B ∧ to e < B) (hP : ∀ i, i < P → pa i < E ∧ pb i < E) (hcl : ∀ e, e < E → cm (fr e) = 1 → cm (to e) = 1) (hc0 : 0 < B → cm 0 = 1)
    (hC : seC B E P bn pa pb cm fr to tH tL un fg fo Mo Fe an cc) (hR : seR B E P bn pa pb cm fr to tH tL cu fu Wo Be an') :
    an = an' ∧ (an = 1 → Wo 0 - 1 = Mo 0 ∧ Be 0 = Fe 0 ∧ (∀ k r s, wayC B E P bn pa pb fr to tH Mo k 0 0 r → wayR B E P bn pa pb fr to tH (fun s => Wo s - 1) k 0 s → r = s) ∧ (∀ k r s, wayC B E P bn pa pb fr to tL Fe k 0 0 r → wayR B E P bn pa pb fr to tL Be k 0 s → r = s)) := by
  have key : ∀ r r' Mo Fe Wo Be, 0 < B → acR B E bn cm fr to r → vsI B E P bn pa pb cm fr to tH tL r Mo Fe 0 → wkI B E P bn pa pb cm fr to tH tL r' Wo Be → Wo 0 ≠ 0 → ∀ c b p, c < nC E P bn pa pb → b < B → cm b = 1 → p < nR B E P bn pa pb → Wo p ≠ 0 → rlR B E P bn pa pb c b p → Wo p - 1 = Mo (c * B + b) ∧ Be p = Fe (c * B + b) := by
    intro r r' Mo Fe Wo Be hB hr hV hK hw c b p hc hb hcb hp hwp hrl
    have := rkC_lt (r := r) (b := b) hB hc
    exact okV hB hP hft hcl hr (vsI_ok hV) (wkI_ok hK hw) (nC E P bn pa pb * B - rkC B r c b) c b p (by omega) hc hb hcb hp hwp hrl
  have n0 : 0 < B → 0 < nC E P bn pa pb ∧ 0 < nR B E P bn pa pb := fun hB => ⟨Nat.mul_pos (prN_pos (kf_pos P pa pb) E) (prN_pos (kc_pos bn) E), Nat.mul_pos (Nat.mul_pos hB (prN_pos (kc_pos bn) E)) (prN_pos (kf_pos P pa pb) E)⟩
  have e0 : 0 * B + 0 = 0 := by omega
  rcases hC with ⟨a1, hB, hN, ⟨r, hr, hV⟩, hl, hcc, hm⟩ | ⟨a1, a2⟩
  · rcases hR with ⟨b1, _, _, ⟨r', hr', hK⟩, hu, hw, hw2⟩ | ⟨b1, b2⟩
    · obtain ⟨n1, n2⟩ := n0 hB
      refine ⟨by omega, fun _ => ?_⟩
      have k := key r r' Mo Fe Wo Be hB hr hV hK hw
      have k0 := k 0 0 0 n1 hB (hc0 hB) n2 hw rlR_0
      rw [e0] at k0
      refine ⟨k0.1, k0.2, fun q x y hx hy => ?_, fun q x y hx hy => ?_⟩
      · exact way_one (K := fun p => Wo p ≠ 0) hB hP hft hcl (fun p hp hk e he hf ha => (hK.2 p hp hk).2.1 e he hf ha) (fun c b p hc hb hcb hp hk hrl => (k c b p hc hb hcb hp hk hrl).1) q 0 0 0 x y n1 hB (hc0 hB) n2 hw rlR_0 hx hy
      · exact way_one (K := fun p => Wo p ≠ 0) hB hP hft hcl (fun p hp hk e he hf ha => (hK.2 p hp hk).2.1 e he hf ha) (fun c b p hc hb hcb hp hk hrl => (k c b p hc hb hcb hp hk hrl).2) q 0 0 0 x y n1 hB (hc0 hB) n2 hw rlR_0 hx hy
    · exfalso
      obtain ⟨n1, n2⟩ := n0 hB
      rcases b2 with b2 | b2 | b2 | ⟨_, r', Wo, Be, hr', hK, hw, hw2⟩
      · omega
      · omega
      · exact b2 ⟨r, hr⟩
      · have k0 := key r r' Mo Fe Wo Be hB hr hV hK hw 0 0 0 n1 hB (hc0 hB) n2 hw rlR_0
        rw [e0] at k0
        omega
  · rcases hR with ⟨b1, hB, hN, ⟨r', hr', hK⟩, hu, hw, hw2⟩ | ⟨b1, b2⟩
    · exfalso
      obtain ⟨n1, n2⟩ := n0 hB
      rcases a2 with a2 | a2 | a2 | ⟨_, r, Mo, Fe, hr, hV, hm⟩
      · omega
      · omega
      · exact a2 ⟨r', hr'⟩
      · have k0 := key r r' Mo Fe Wo Be hB hr hV hK hw 0 0 0 n1 hB (hc0 hB) n2 hw rlR_0
        rw [e0] at k0
        omega
    · exact ⟨by omega, fun z => by omega⟩
