/-! Draws; people who are other ones. -/
theorem r64 {z : Int} (h1 : -9223372036854775808 ≤ z) (h2 : z < 9223372036854775808) : (Int64.ofInt z).toInt = z := Int64.toInt_ofInt_of_le (by omega) (by omega)
theorem r64n {x : Nat} (h : x < 9223372036854775808) : (Int64.ofInt (x : Int)).toInt = (x : Int) := r64 (by omega) (by omega)
theorem i64b {z : Int64} {x : Nat} (h : z.toBitVec.toNat = x) (hx : x < 9223372036854775808) : z.toInt = (x : Int) := by
  rw [← Int64.toInt_toBitVec, BitVec.toInt_eq_toNat_cond, h, if_pos (by omega)]
theorem i64n {x : Nat} (hx : x < 9223372036854775808) : (Int64.ofInt (x : Int)).toBitVec.toNat = x := by
  have h := r64 (z := (x : Int)) (by omega) (by omega)
  rw [← Int64.toInt_toBitVec, BitVec.toInt_eq_toNat_cond] at h
  have := (Int64.ofInt (x : Int)).toBitVec.isLt
  split at h <;> omega
theorem bMul_of {x y : Int} (h1 : -9223372036854775808 ≤ x * y) (h2 : x * y < 9223372036854775808) : bMul x y = x * y := by
  unfold bMul
  rw [← Int64.ofInt_mul]
  exact r64 h1 h2
theorem bAdd_of {x y : Int} (h1 : -9223372036854775808 ≤ x + y) (h2 : x + y < 9223372036854775808) : bAdd x y = x + y := by
  unfold bAdd
  rw [← Int64.ofInt_add]
  exact r64 h1 h2
theorem bDivq {x y : Nat} (hx : x < 9223372036854775808) (hy : 0 < y) (hy2 : y < 9223372036854775808) : Int64.ofInt (x : Int) / Int64.ofInt (y : Int) = Int64.ofInt ((x / y : Nat) : Int) := by
  apply Int64.toInt_inj.mp
  have ey := r64 (z := (y : Int)) (by omega) (by omega)
  have hd : x / y ≤ x := Nat.div_le_self _ _
  rw [Int64.toInt_div_of_ne_right _ _ (by
    intro h
    rw [h] at ey
    have : (-1 : Int64).toInt = -1 := by decide
    omega), r64 (z := (x : Int)) (by omega) (by omega), ey, r64n (Nat.lt_of_le_of_lt hd hx), Int.tdiv_eq_ediv_of_nonneg (by omega)]
  rfl
theorem bDiv_n {x y : Nat} (hx : x < 9223372036854775808) (hy : 0 < y) (hy2 : y < 9223372036854775808) : bDiv (x : Int) (y : Int) = ((x / y : Nat) : Int) := by
  unfold bDiv
  have hd : x / y ≤ x := Nat.div_le_self _ _
  rw [bDivq hx hy hy2, r64n (Nat.lt_of_le_of_lt hd hx)]
theorem bRem_n {x y : Nat} (hx : x < 9223372036854775808) (hy : 0 < y) (hy2 : y < 9223372036854775808) : bRem (x : Int) (y : Int) = ((x % y : Nat) : Int) := by
  unfold bRem
  have hm : x % y < y := Nat.mod_lt _ hy
  rw [bDivq hx hy hy2, ← Int64.ofInt_mul, ← Int64.ofInt_sub]
  have e : (x : Int) - ((x / y : Nat) : Int) * (y : Int) = ((x % y : Nat) : Int) := by
    have := Nat.div_add_mod x y
    have h2 : ((y * (x / y) + x % y : Nat) : Int) = (x : Int) := by rw [this]
    rw [Int.natCast_add, Int.natCast_mul, Int.mul_comm] at h2
    omega
  rw [e, r64 (by omega) (by omega)]
theorem bAnd_m {x : Nat} (hx : x < 9223372036854775808) : bAnd (x : Int) 2147483647 = ((x % 2147483648 : Nat) : Int) := by
  unfold bAnd
  have e : (Int64.ofInt (x : Int) &&& Int64.ofInt 2147483647).toBitVec.toNat = x % 2147483648 := by
    rw [Int64.toBitVec_and, BitVec.toNat_and, i64n hx]
    have : (Int64.ofInt 2147483647).toBitVec.toNat = 2 ^ 31 - 1 := by decide
    rw [this, Nat.and_two_pow_sub_one_eq_mod]
  exact i64b e (by omega)
theorem bL2i_n {x : Nat} (hx : x < 2147483648) : bL2i (x : Int) = (x : Int) := by
  unfold bL2i
  rw [Int64.toInt32_ofInt]
  exact r32 (by omega) (by omega)
theorem bI2l_n {x : Nat} (hx : x < 2147483648) : bI2l (x : Int) = (x : Int) := by
  unfold bI2l
  rw [Int32.toInt_toInt64]
  exact r32 (by omega) (by omega)
theorem seed_eq {s : Int} (h : 0 ≤ s ∧ s < 2147483648) : bL2i (bAnd (bAdd (bMul 1103515245 (bI2l s)) 12345) 2147483647) = mSeed s ∧ (0 ≤ mSeed s ∧ mSeed s < 2147483648) ∧ aRem (aDiv (mSeed s) 64) 100 = mDrw (mSeed s) := by
  obtain ⟨x, rfl⟩ : ∃ x : Nat, s = (x : Int) := ⟨s.toNat, by omega⟩
  have hx : x < 2147483648 := by omega
  have e1 : bAdd (bMul 1103515245 (x : Int)) 12345 = ((1103515245 * x + 12345 : Nat) : Int) := by
    rw [bMul_of (by omega) (by omega), bAdd_of (by omega) (by omega)]
    omega
  have e2 : mSeed (x : Int) = (((1103515245 * x + 12345) % 2147483648 : Nat) : Int) := by
    unfold mSeed
    rw [e1]
    exact bRem_n (y := 2147483648) (by omega) (by decide) (by decide)
  have hm : (1103515245 * x + 12345) % 2147483648 < 2147483648 := Nat.mod_lt _ (by decide)
  refine ⟨?_, by rw [e2]; omega, ?_⟩
  · rw [bI2l_n hx, e1, bAnd_m (by omega), bL2i_n hm, e2]
  · rw [e2]
    unfold mDrw
    have d1 := bDiv_n (x := (1103515245 * x + 12345) % 2147483648) (y := 64) (by omega) (by decide) (by decide)
    have d2 := aDiv_n (a := (1103515245 * x + 12345) % 2147483648) (d := 64) hm (by decide) (by decide)
    have hq : (1103515245 * x + 12345) % 2147483648 / 64 < 2147483648 := by omega
    have d3 := bRem_n (x := (1103515245 * x + 12345) % 2147483648 / 64) (y := 100) (by omega) (by decide) (by decide)
    have d4 := aRem_n (a := (1103515245 * x + 12345) % 2147483648 / 64) (d := 100) hq (by decide) (by decide)
    show aRem (aDiv _ ((64 : Nat) : Int)) ((100 : Nat) : Int) = bL2i (bRem (bDiv _ ((64 : Nat) : Int)) ((100 : Nat) : Int))
    rw [d1, d2, d3, d4, bL2i_n (by omega)]
/-- one of the people of a layer is another one -/
theorem PT_g {σ τ ρ ρ' : AH} {q v np ns p0 : Nat} (hn : np ≤ 10) (h : PT σ ρ q v np ns) (h1 : ∀ K j, (q ≤ K ∧ K ≤ q + 5) → ¬ (q + 1 ≤ K ∧ j = p0) → τ K j = σ K j) (h2 : ∀ K p, (317 ≤ K ∧ K ≤ 322) → p < 10 → ¬ (p = p0) → ρ' K (10 * v + p) = ρ K (10 * v + p)) (h16 : ρ' 316 v = ρ 316 v) (h22 : ρ' 322 (10 * v + p0) = ρ 322 (10 * v + p0)) (hp : p0 < np → (∃ s : Nat, s < ns ∧ τ (q + 2) p0 = (s : Int) ∧ ρ' 318 (10 * v + p0) = (s : Int)) ∧ τ (q + 3) p0 = ρ' 319 (10 * v + p0) ∧ (∃ s : Nat, s < ns ∧ τ (q + 4) p0 = (s : Int) ∧ ρ' 320 (10 * v + p0) = (s : Int)) ∧ (∃ s : Nat, s < ns ∧ τ (q + 5) p0 = (s : Int) ∧ ρ' 321 (10 * v + p0) = (s : Int)) ∧ (τ (q + 1) p0 = ρ' 317 (10 * v + p0) ∧ 0 ≤ ρ' 317 (10 * v + p0) ∧ ρ' 317 (10 * v + p0) ≤ 99) ∧ (ρ' 319 (10 * v + p0) = -1 ∨ ∃ s : Nat, s < ns ∧ ρ' 319 (10 * v + p0) = (s : Int))) : PT τ ρ' q v np ns := by
  obtain ⟨⟨b1, b2⟩, y, hh, c⟩ := h
  refine ⟨⟨by rw [h1 _ _ (by omega) (by omega)]; exact b1, fun p hp1 => ?_⟩, ?_, ?_, fun p hp1 => ?_⟩
  · by_cases e : p = p0
    · subst e
      obtain ⟨g1, g2, g3, g4, -⟩ := hp hp1
      exact ⟨g1, g2, g3, g4⟩
    · rw [h1 _ _ (by omega) (by omega), h1 _ _ (by omega) (by omega), h1 _ _ (by omega) (by omega), h1 _ _ (by omega) (by omega), h2 318 p (by omega) (by omega) e, h2 319 p (by omega) (by omega) e, h2 320 p (by omega) (by omega) e, h2 321 p (by omega) (by omega) e]
      exact b2 p hp1
  · rw [h1 _ _ (by omega) (by omega), h16]; exact y
  · rw [h1 _ _ (by omega) (by omega), hh]
    refine congrArg (fun x : Nat => (x : Int)) (bs_c (fun p hp1 => ?_))
    show decide _ = decide _
    by_cases e : p = p0
    · subst e; rw [h22]
    · rw [h2 322 p (by omega) (by omega) e]
  · by_cases e : p = p0
    · subst e
      obtain ⟨-, -, -, -, ⟨g5, g6, g7⟩, g8⟩ := hp hp1
      rw [h22]
      exact ⟨g5, g6, g7, g8, (c p hp1).2.2.2.2⟩
    · rw [h1 _ _ (by omega) (by omega), h2 317 p (by omega) (by omega) e, h2 319 p (by omega) (by omega) e, h2 322 p (by omega) (by omega) e]
      exact c p hp1
