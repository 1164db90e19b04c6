theorem bm32 {n : Int} (h1 : -2 ^ 31 ≤ n) (h2 : n < 2 ^ 31) : n.bmod (2 ^ 32) = n := by
  rw [Int.bmod_def]
  omega
theorem i_rem {x : Int32} {n : Nat} (h0 : 0 < n) (hn : n < 2 ^ 16) : (x - x / nI n * nI n).toInt = x.toInt.tmod n := by
  have hN : (nI n).toInt = (n : Int) := nI_toInt (by omega)
  have l1 := Int32.minValue_le_toInt x
  have l2 := Int32.toInt_lt x
  have l3 := Int32.le_toInt x
  have e := Int.tmod_add_mul_tdiv x.toInt n
  have hlt := Int.tmod_lt_of_pos x.toInt (b := n) (by omega)
  have hgt : -(n : Int) < x.toInt.tmod n := by
    have := Int.lt_tmod_of_pos x.toInt (b := n) (by omega)
    omega
  have sg : (0 ≤ x.toInt → 0 ≤ x.toInt.tmod n) ∧ (x.toInt ≤ 0 → x.toInt.tmod n ≤ 0) := ⟨fun h => Int.tmod_nonneg _ h, fun h => by
    have k := Int.tmod_nonneg (a := -x.toInt) n (by omega)
    rw [Int.neg_tmod] at k
    omega⟩
  have d1 : -2 ^ 31 ≤ x.toInt.tdiv n ∧ x.toInt.tdiv n < 2 ^ 31 := by
    have k := Int.natAbs_tdiv_le_natAbs x.toInt n
    by_cases hx : x.toInt = -2 ^ 31
    · by_cases h1 : n = 1
      · subst h1
        rw [show ((1 : Nat) : Int) = 1 from rfl, Int.tdiv_one]
        omega
      · constructor
        · omega
        · have : (n : Int) * x.toInt.tdiv n = x.toInt - x.toInt.tmod n := by omega
          rcases Int.lt_or_le (x.toInt.tdiv n) (2 ^ 31) with z | z
          · exact z
          · have := Int.mul_le_mul_of_nonneg_left z (show (0 : Int) ≤ n by omega)
            omega
    · omega
  have e1 : (x / nI n).toInt = x.toInt.tdiv n := by
    rw [Int32.toInt_div, hN]
    exact bm32 d1.1 d1.2
  have e2 : (x / nI n * nI n).toInt = (n : Int) * x.toInt.tdiv n := by
    rw [Int32.toInt_mul, e1, hN, Int.mul_comm]
    refine bm32 ?_ ?_
    · omega
    · omega
  rw [Int32.toInt_sub, e2, show x.toInt - (n : Int) * x.toInt.tdiv n = x.toInt.tmod n by omega]
  exact bm32 (by omega) (by omega)
theorem fm_mm {x : Int32} {n : Nat} (h0 : 0 < n) (hn : n < 2 ^ 16) : fmod x (nI n) = nI (x.toInt % (n : Int)).toNat ∧ mmod x (nI n) = nI (x.toInt % (n : Int)).toNat ∧ (x.toInt % (n : Int)).toNat < n := by
  have hN : (nI n).toInt = (n : Int) := nI_toInt (by omega)
  have hm0 := Int.emod_nonneg x.toInt (b := n) (by omega)
  have hm1 := Int.emod_lt_of_pos x.toInt (b := n) (by omega)
  have hr := i_rem (x := x) h0 hn
  have hlt := Int.tmod_lt_of_pos x.toInt (b := n) (by omega)
  have hgt : -(n : Int) < x.toInt.tmod n := by
    have := Int.lt_tmod_of_pos x.toInt (b := n) (by omega)
    omega
  have tN : (nI (x.toInt % (n : Int)).toNat).toInt = x.toInt % (n : Int) := by
    rw [nI_toInt (by omega)]
    omega
  have z0 : (0 : Int32).toInt = 0 := by decide
  have sx : (0 ≤ x ^^^ nI n) ↔ 0 ≤ x.toInt := by
    rw [Int32.le_iff_toInt_le, z0]
    have m1 : (x ^^^ nI n).toBitVec.msb = (x.toBitVec.msb ^^ (nI n).toBitVec.msb) := by rw [Int32.toBitVec_xor, BitVec.msb_xor]
    have m2 : (nI n).toBitVec.msb = false := by
      rw [BitVec.msb_eq_toInt]
      have : (nI n).toBitVec.toInt = (n : Int) := hN
      rw [this]
      exact decide_eq_false (by omega)
    rw [m2, Bool.xor_false, BitVec.msb_eq_toInt, BitVec.msb_eq_toInt] at m1
    have k : decide ((x ^^^ nI n).toInt < 0) = decide (x.toInt < 0) := m1
    have k2 : ((x ^^^ nI n).toInt < 0) ↔ (x.toInt < 0) := by
      constructor
      · intro w; rw [decide_eq_true w] at k; exact of_decide_eq_true k.symm
      · intro w; rw [decide_eq_true w] at k; exact of_decide_eq_true k
    omega
  have tm : x.toInt.tmod n = if 0 ≤ x.toInt then x.toInt % (n : Int) else if x.toInt % (n : Int) = 0 then 0 else x.toInt % (n : Int) - n := by
    by_cases h : 0 ≤ x.toInt
    · rw [if_pos h, Int.tmod_eq_emod_of_nonneg h]
    · rw [if_neg h]
      have k1 : (-x.toInt).tmod n = (-x.toInt) % (n : Int) := Int.tmod_eq_emod_of_nonneg (by omega)
      rw [Int.neg_tmod] at k1
      have k2 : (-x.toInt) % (n : Int) = if x.toInt % (n : Int) = 0 then 0 else n - x.toInt % (n : Int) := by
        have d := Int.emod_add_mul_ediv x.toInt n
        have d2 : -x.toInt = (if x.toInt % (n : Int) = 0 then 0 else n - x.toInt % (n : Int)) + (n : Int) * (if x.toInt % (n : Int) = 0 then -(x.toInt / n) else -(x.toInt / n) - 1) := by
          by_cases z : x.toInt % (n : Int) = 0
          · rw [if_pos z, if_pos z, Int.mul_neg]
            omega
          · rw [if_neg z, if_neg z, Int.mul_sub, Int.mul_neg, Int.mul_one]
            omega
        rw [d2, Int.add_mul_emod_self_left]
        apply Int.emod_eq_of_lt
        · split <;> omega
        · split <;> omega
      rw [k2] at k1
      by_cases z : x.toInt % (n : Int) = 0
      · rw [if_pos z] at k1 ⊢; omega
      · rw [if_neg z] at k1 ⊢; omega
  refine ⟨?_, ?_, by omega⟩
  · unfold fmod
    by_cases h : 0 ≤ x.toInt
    · rw [if_pos (sx.mpr h)]
      apply Int32.toInt_inj.mp
      rw [hr, tN, tm, if_pos h]
    · rw [if_neg (fun w => h (sx.mp w))]
      by_cases z : x - x / nI n * nI n = 0
      · rw [if_pos z]
        have k : (x - x / nI n * nI n).toInt = 0 := by rw [z, z0]
        rw [hr, tm, if_neg h] at k
        by_cases y : x.toInt % (n : Int) = 0
        · rw [z]
          apply Int32.toInt_inj.mp
          rw [z0, tN, y]
        · rw [if_neg y] at k
          omega
      · rw [if_neg z]
        apply Int32.toInt_inj.mp
        have y : ¬ x.toInt % (n : Int) = 0 := by
          intro y
          apply z
          apply Int32.toInt_inj.mp
          rw [hr, tm, if_neg h, if_pos y, z0]
        rw [Int32.toInt_add, hr, hN, tN, tm, if_neg h, if_neg y, show x.toInt % (n : Int) - n + n = x.toInt % (n : Int) by omega]
        exact bm32 (by omega) (by omega)
  · unfold mmod
    have a1 : (x - x / nI n * nI n + nI n).toInt = x.toInt.tmod n + n := by
      rw [Int32.toInt_add, hr, hN]
      exact bm32 (by omega) (by omega)
    have a2 : x - x / nI n * nI n + nI n = nI (x.toInt.tmod n + n).toNat := by
      apply Int32.toInt_inj.mp
      rw [a1, nI_toInt (by omega)]
      omega
    rw [a2, pk_rem (by omega) h0 (by omega)]
    congr 1
    have h4 : ((x.toInt.tmod n + n).toNat % n : Nat) = ((x.toInt.tmod n + n) % (n : Int)).toNat := by
      have : (((x.toInt.tmod n + n).toNat % n : Nat) : Int) = (x.toInt.tmod n + n) % (n : Int) := by
        rw [Int.natCast_emod]
        congr 1
        omega
      omega
    rw [h4, Int.add_emod_right, tm]
    by_cases h : 0 ≤ x.toInt
    · rw [if_pos h, Int.emod_emod_of_dvd _ (Int.dvd_refl _)]
    · rw [if_neg h]
      by_cases y : x.toInt % (n : Int) = 0
      · rw [if_pos y, y]
        rfl
      · rw [if_neg y, Int.sub_emod_right, Int.emod_emod_of_dvd _ (Int.dvd_refl _)]
theorem an_3 (x : Int32) : x &&& 3 = nI (x.toInt % (4 : Int)).toNat := by
  rw [pk_and x 2 (by decide)]
  congr 1
  have k : x.toInt = x.toBitVec.toInt := rfl
  rw [k, BitVec.toInt_eq_toNat_bmod]
  have := x.toBitVec.isLt
  rw [Int.bmod_def]
  omega
theorem cp_init (v1 v2 v3 : Int32) : cpI 0 0 0 0 0 0 (1 <<< ((fmod v1 3) &&& 31)) (1 + (fmod (v2 - 1) 4)) (fmod v3 1000) 0 0 0 0 (fun _ => 0) (fun _ => 0) (fun _ => 0) (fun _ => 0) (fun _ => 0) (fun _ => 0) (fun _ => 0) (fun _ => 0) (fun _ => 0) (fun _ => 0) (fun _ => 0) (fun _ => 0) (fun _ => 0) (fun _ => 0) (fun _ => 0) (fun _ => 0) (fun _ => 0) (fun _ => 0) (fun _ => 0) (fun _ => 0) (fun _ => 0) (fun _ => 0) (fun _ => 0) (fun _ => 0) (fun _ => 0) (fun _ => 0) (fun _ => 0)
    0 (1 <<< ((mmod v1 3) &&& 31)) (1 + ((v2 - 1) &&& 3)) (mmod v3 1000) 0 0 0 0 0 0 (fun _ => 0) (fun _ => 0) (fun _ => 0) (fun _ => 0) (fun _ => 0) (fun _ => 0) (fun _ => 0) (fun _ => 0) (fun _ => 0) (fun _ => 0) (fun _ => 0) (fun _ => 0) (fun _ => 0) (fun _ => 0) (fun _ => 0) (fun _ => 0) (fun _ => 0) (fun _ => 0) (fun _ => 0) (fun _ => 0) (fun _ => 0) (fun _ => 0) := by
  have f3 := fm_mm (x := v1) (n := 3) (by decide) (by decide)
  have f4 := fm_mm (x := v2 - 1) (n := 4) (by decide) (by decide)
  have f1 := fm_mm (x := v3) (n := 1000) (by decide) (by decide)
  have e3 : (3 : Int32) = nI 3 := rfl
  have e4 : (4 : Int32) = nI 4 := rfl
  have e1 : (1000 : Int32) = nI 1000 := rfl
  have a3 := an_3 (v2 - 1)
  have o1 : ∀ t, (1 : Int32) + nI t = nI (1 + t) := fun t => nI_add 1 t
  rw [a3, e3, e4, e1, f3.1, f3.2.1, f1.1, f1.2.1, f4.1]
  generalize 1 <<< (nI (v1.toInt % ((3 : Nat) : Int)).toNat &&& 31) = sets
  have k4 := f4.2.2
  have k1 := f1.2.2
  have c4 : ((4 : Nat) : Int) = 4 := rfl
  rw [c4] at k4 ⊢
  revert k1 k4
  generalize ((v2 - 1).toInt % (4 : Int)).toNat = t
  generalize (v3.toInt % ((1000 : Nat) : Int)).toNat = pn
  intro k1 k4
  rw [o1]
  have z32 : (fun _ : Nat => (0 : Int32)) = rep (fun _ => 0) := by
    funext j
    rw [rep_at, nI_0]
  have zB : (fun _ : Nat => (0 : Int32)) = rpB (fun _ => 1) := by
    funext j
    rw [rpB_at]
    decide
  have zE : (fun _ : Nat => (0 : Int32)) = repE (1 + t) (fun _ => 0) := by
    funext j
    rw [repE_at, enc_in (by omega), nI_0]
  have zL : (fun _ : Nat => (0 : Int64)) = repL (fun _ => 1) := by
    funext j
    rw [repL_at]
    decide
  have zW : (fun _ : Nat => (0 : Int64)) = repW (fun _ => 2) := by
    funext j
    rw [repW_at]
    decide
  refine ⟨1 + t, 0, 0, 0, 0, pn, fun _ => 0, fun _ => 0, fun _ => 0, fun _ => 0, fun _ => 0, fun _ => 1, fun _ => 0, fun _ => 0, fun _ => 0, fun _ => 0, fun _ => 0, sets, ?_, ?_, ?_⟩
  · exact ⟨⟨⟨by omega, by omega, by omega, by omega⟩, fun b hb => by omega, fun e he => by omega, fun b hb => by omega, fun e he => by omega⟩, fun b hb => by omega, ⟨⟨by omega, by omega, by omega⟩, fun e he => by omega, fun e => by show (1 : Nat) ≤ 16; omega, fun i hi => by omega⟩, by omega, by omega, fun b hb => by omega, fun b _ _ => rfl, fun b _ => rfl⟩
  · refine ⟨⟨⟨nI_0.symm, nI_0.symm, nI_0.symm, nI_0.symm, rfl, rfl, rfl⟩, z32, z32, z32, rfl, z32, z32, zB, z32, z32, z32, z32⟩, 0, 0, 0, 0, 0, fun _ => 0, fun _ => 0, fun _ => 0, fun _ => 0, fun _ => 0, fun _ => 0, fun _ => 0, fun _ => 0, fun _ => 0, fun _ => 0, fun _ => 0, fun _ => 1, fun _ => 1, ⟨nI_0.symm, nI_0.symm, nI_0.symm, nI_0.symm, nI_0.symm⟩, ⟨z32, z32, z32, z32, z32, z32⟩, ⟨z32, z32, z32, z32, z32, zL, zL⟩, ⟨by omega, by omega, by omega⟩, ⟨fun b => ⟨Nat.zero_le _, Nat.zero_le _⟩, fun k => ⟨Nat.zero_le _, Nat.zero_le _⟩, fun k => ⟨Nat.zero_le _, Nat.zero_le _⟩⟩, fun z => by omega, fun z => by omega, fun z => by omega⟩
  · refine ⟨⟨⟨nI_0.symm, nI_0.symm, nI_0.symm, nI_0.symm, rfl, rfl, rfl⟩, z32, z32, z32, rfl, z32, z32, zB, z32, z32⟩, 0, 0, fun _ => 0, fun _ => 0, fun _ => 0, fun _ => 0, fun _ => 0, fun _ => 0, fun _ => 0, fun _ => 2, fun _ => 1, fun _ => 0, ⟨nI_0.symm, nI_0.symm⟩, ⟨z32, zE, zE, zE, zE⟩, ⟨z32, z32, zW, zL, z32⟩, ⟨by omega, by omega⟩, ⟨fun b => Nat.zero_le _, fun k => ⟨Nat.zero_le _, Nat.zero_le _⟩, fun k => ⟨Nat.zero_le _, Nat.zero_le _⟩⟩, fun s => ⟨by show (2 : Nat) < 2 ^ 61; omega, by show (1 : Nat) < 2 ^ 61; omega⟩, fun z => by omega⟩
