/-! Hirings: sets of people with a price. -/
theorem i32e (z : Int32) : z.toInt = 0 ↔ z.toBitVec.toNat = 0 := by
  constructor
  · intro h
    rw [← Int32.toInt_toBitVec, BitVec.toInt_eq_toNat_cond] at h
    have := z.toBitVec.isLt
    split at h <;> omega
  · intro h
    exact i32b h (by decide)
theorem sub_iff {z : Int} (hz : -2147483648 ≤ z ∧ z < 2147483648) {y : Nat} (hy : y < 2147483648) : aAnd z (aXor (y : Int) (-1)) = 0 ↔ ∃ x : Nat, z = (x : Int) ∧ (∀ p, x.testBit p = true → y.testBit p = true) := by
  have key : ∀ p, (Int32.ofInt z &&& (Int32.ofInt (y : Int) ^^^ Int32.ofInt (-1))).toBitVec.toNat.testBit p = ((Int32.ofInt z).toBitVec.toNat.testBit p && (y.testBit p ^^ decide (p < 32))) := by
    intro p
    rw [Int32.toBitVec_and, Int32.toBitVec_xor, BitVec.toNat_and, BitVec.toNat_xor, Nat.testBit_and, Nat.testBit_xor, i32n hy]
    have : (Int32.ofInt (-1)).toBitVec.toNat = 2 ^ 32 - 1 := by decide
    rw [this, Nat.testBit_two_pow_sub_one]
  have e1 : aAnd z (aXor (y : Int) (-1)) = (Int32.ofInt z &&& (Int32.ofInt (y : Int) ^^^ Int32.ofInt (-1))).toInt := by
    unfold aAnd aXor
    rw [Int32.ofInt_toInt]
  rw [e1, i32e]
  have hzlt := (Int32.ofInt z).toBitVec.isLt
  constructor
  · intro h0
    have hb : ∀ p, (Int32.ofInt z).toBitVec.toNat.testBit p = true → y.testBit p = true := by
      intro p hp
      have h1 := key p
      rw [h0, Nat.zero_testBit, hp, Bool.true_and] at h1
      have h32 : p < 32 := by
        apply Decidable.byContradiction
        intro hc
        rw [Nat.testBit_lt_two_pow (Nat.lt_of_lt_of_le hzlt (Nat.pow_le_pow_right (by decide) (by omega)))] at hp
        cases hp
      rw [decide_eq_true h32] at h1
      cases hyb : y.testBit p with
      | true => rfl
      | false => rw [hyb] at h1; cases h1
    have hlt : (Int32.ofInt z).toBitVec.toNat < 2147483648 := by
      apply Decidable.byContradiction
      intro hc
      have h31 : (Int32.ofInt z).toBitVec.toNat.testBit 31 = true := by
        rw [Nat.testBit_eq_decide_div_mod_eq]
        apply decide_eq_true
        omega
      have := hb 31 h31
      rw [Nat.testBit_lt_two_pow (show y < 2 ^ 31 by omega)] at this
      cases this
    have hzz := i32b (z := Int32.ofInt z) rfl hlt
    rw [r32 hz.1 hz.2] at hzz
    exact ⟨_, hzz, hb⟩
  · rintro ⟨x, rfl, hx⟩
    apply Nat.eq_of_testBit_eq
    intro p
    rw [key p, Nat.zero_testBit, i32n (by omega)]
    cases hxp : x.testBit p with
    | false => rfl
    | true =>
      rw [hx p hxp]
      have h32 : p < 32 := by
        apply Decidable.byContradiction
        intro hc
        rw [Nat.testBit_lt_two_pow (Nat.lt_of_lt_of_le (show x < 2 ^ 32 by omega) (Nat.pow_le_pow_right (by decide) (by omega)))] at hxp
        cases hxp
      rw [decide_eq_true h32]
      rfl
abbrev pPr (ρ : AH) (b : Nat) : Nat → Bool := fun p => decide (0 < ρ 314 (10 * b + p))
theorem can_iff {σ ρ : AH} {l b np nt ns : Nat} {L : Nat → Nat} {C : Nat → Nat → Nat} (hL : LT σ ρ l b np nt ns L C) {z : Int} (hz : -2147483648 ≤ z ∧ z < 2147483648) : aAnd z (aXor ((bs (pPr ρ b) np : Nat) : Int) (-1)) = 0 ↔ mCanC ρ b np z := by
  have c1 := hL.2.2.1.1
  have hPr := hL.2.2.2.2.2.2.1
  rw [sub_iff hz (p31 (show np ≤ 30 by omega) (bs_lt _ np))]
  unfold mCanC
  rw [shl1' np (by omega)]
  constructor
  · rintro ⟨x, rfl, hx⟩
    have hlt : x < 2 ^ np := by
      apply Nat.lt_pow_two_of_testBit
      intro i hi
      cases h : x.testBit i with
      | false => rfl
      | true =>
        have := hx i h
        rw [bs_bit, decide_eq_false (by omega)] at this
        cases this
    refine ⟨by omega, by omega, anyN_f (fun p hp => decide_eq_false ?_)⟩
    rintro ⟨g1, g2⟩
    rw [aBit_n (by have : 2 ^ np ≤ 2 ^ 30 := Nat.pow_le_pow_right (by decide) (by omega); omega) (by omega)] at g1
    split at g1
    · rename_i h
      have := hx p h
      rw [bs_bit, decide_eq_true hp, Bool.true_and, decide_eq_true_iff] at this
      omega
    · cases g1
  · rintro ⟨h1, h2, h3⟩
    obtain ⟨x, rfl⟩ : ∃ x : Nat, z = (x : Int) := ⟨z.toNat, by omega⟩
    refine ⟨x, rfl, fun p hp => ?_⟩
    have hlt : x < 2 ^ np := by omega
    have hpn : p < np := by
      apply Decidable.byContradiction
      intro hc
      rw [Nat.testBit_lt_two_pow (Nat.lt_of_lt_of_le hlt (Nat.pow_le_pow_right (by decide) (by omega)))] at hp
      cases hp
    rw [bs_bit, decide_eq_true hpn, Bool.true_and, decide_eq_true_iff]
    have h4 : ¬ (aAnd (aShr (x : Int) ((p : Nat) : Int)) 1 = 1 ∧ ρ 314 (10 * b + p) = 0) := by
      intro hc
      have := anyN_t (f := fun p => decide (aAnd (aShr (x : Int) ((p : Nat) : Int)) 1 = 1 ∧ ρ 314 (10 * b + p) = 0)) hpn (decide_eq_true hc)
      rw [h3] at this
      cases this
    rw [aBit_n (by have : 2 ^ np ≤ 2 ^ 30 := Nat.pow_le_pow_right (by decide) (by omega); omega) (by omega), if_pos hp] at h4
    have := (hPr p hpn).2.1
    omega
