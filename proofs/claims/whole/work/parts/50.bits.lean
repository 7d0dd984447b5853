/-! Sets of people as numbers: bs f n is the set of those of the first n for whom f holds. -/
def bs (f : Nat → Bool) : Nat → Nat
  | 0 => 0
  | n + 1 => bs f n + (if f n then 2 ^ n else 0)
def cnt (f : Nat → Bool) : Nat → Nat
  | 0 => 0
  | n + 1 => cnt f n + (if f n then 1 else 0)
theorem bs_lt (f : Nat → Bool) (n : Nat) : bs f n < 2 ^ n := by
  induction n with
  | zero => exact Nat.zero_lt_one
  | succ n ih => rw [bs, Nat.pow_succ]; split <;> omega
theorem bs_c {f g : Nat → Bool} {n : Nat} (h : ∀ p, p < n → f p = g p) : bs f n = bs g n := by
  induction n with
  | zero => rfl
  | succ n ih => rw [bs, bs, ih (fun p hp => h p (by omega)), h n (by omega)]
theorem cnt_c {f g : Nat → Bool} {n : Nat} (h : ∀ p, p < n → f p = g p) : cnt f n = cnt g n := by
  induction n with
  | zero => rfl
  | succ n ih => rw [cnt, cnt, ih (fun p hp => h p (by omega)), h n (by omega)]
theorem cnt_le (f : Nat → Bool) (n : Nat) : cnt f n ≤ n := by
  induction n with
  | zero => exact Nat.le_refl _
  | succ n ih => rw [cnt]; split <;> omega
theorem bs_bit (f : Nat → Bool) (n p : Nat) : (bs f n).testBit p = (decide (p < n) && f p) := by
  induction n with
  | zero => simp [bs]
  | succ n ih =>
    rw [bs]
    have hl := bs_lt f n
    by_cases hf : f n = true
    · rw [if_pos hf, Nat.add_comm]
      rcases Nat.lt_trichotomy p n with l | e | g
      · rw [Nat.testBit_two_pow_add_gt l, ih]; simp [l, show p < n + 1 by omega]
      · subst e; rw [Nat.testBit_two_pow_add_eq, ih]; simp [hf]
      · have h2 : 2 ^ (n + 1) ≤ 2 ^ p := Nat.pow_le_pow_right (by decide) g
        rw [Nat.testBit_lt_two_pow (by rw [Nat.pow_succ] at h2; omega)]
        simp [show ¬ p < n + 1 by omega]
    · rw [if_neg hf, Nat.add_zero, ih]
      by_cases e : p = n
      · subst e; simp [hf]
      · by_cases l : p < n
        · simp [l, show p < n + 1 by omega]
        · simp [l, show ¬ p < n + 1 by omega]
theorem bs_of {x n : Nat} {f : Nat → Bool} (hx : x < 2 ^ n) (h : ∀ p, p < n → x.testBit p = f p) : x = bs f n := by
  apply Nat.eq_of_testBit_eq
  intro i
  rw [bs_bit]
  by_cases l : i < n
  · simp [l, h i l]
  · have h2 : 2 ^ n ≤ 2 ^ i := Nat.pow_le_pow_right (by decide) (by omega)
    rw [Nat.testBit_lt_two_pow (by omega)]
    simp [l]
theorem bs_self {x n : Nat} (hx : x < 2 ^ n) : bs (fun p => x.testBit p) n = x := (bs_of hx (fun _ _ => rfl)).symm
theorem bs_zero (n : Nat) : bs (fun _ => false) n = 0 := by
  induction n with
  | zero => rfl
  | succ n ih => rw [bs, ih]; rfl
theorem bs_one {n q : Nat} (h : q < n) : bs (fun p => decide (p = q)) n = 2 ^ q := by
  symm
  apply bs_of
  · exact Nat.pow_lt_pow_right (by decide) h
  · intro p hp
    rw [Nat.testBit_two_pow]
    by_cases e : q = p <;> simp [e, eq_comm]
theorem bs_le10 {n : Nat} (f : Nat → Bool) (h : n ≤ 10) : bs f n < 1024 := by
  have h2 : 2 ^ n ≤ 2 ^ 10 := Nat.pow_le_pow_right (by decide) h
  have := bs_lt f n
  omega
theorem bs_le14 {n : Nat} (f : Nat → Bool) (h : n ≤ 14) : bs f n < 16384 := by
  have h2 : 2 ^ n ≤ 2 ^ 14 := Nat.pow_le_pow_right (by decide) h
  have := bs_lt f n
  omega
/-- the machine's numbers, below half their room, are numbers -/
theorem i32n {x : Nat} (hx : x < 2147483648) : (Int32.ofInt (x : Int)).toBitVec.toNat = x := by
  have e : (Int32.ofInt (x : Int)).toInt = (x : Int) := r32 (by omega) (by omega)
  have e2 : (Int32.ofInt (x : Int)).toBitVec.toInt = (x : Int) := e
  rw [BitVec.toInt_eq_toNat_cond] at e2
  have := (Int32.ofInt (x : Int)).toBitVec.isLt
  split at e2 <;> omega
theorem i32b {z : Int32} {x : Nat} (h : z.toBitVec.toNat = x) (hx : x < 2147483648) : z.toInt = (x : Int) := by
  have e2 : z.toInt = z.toBitVec.toInt := rfl
  rw [e2, BitVec.toInt_eq_toNat_cond, h]
  rw [if_pos (by omega)]
theorem aAnd_n {x y : Nat} (hx : x < 2147483648) (hy : y < 2147483648) : aAnd (x : Int) (y : Int) = ((x &&& y : Nat) : Int) := by
  unfold aAnd
  apply i32b
  · rw [Int32.toBitVec_and, BitVec.toNat_and, i32n hx, i32n hy]
  · have := Nat.and_le_left (n := x) (m := y); omega
theorem aOr_n {x y : Nat} (hx : x < 2147483648) (hy : y < 2147483648) : aOr (x : Int) (y : Int) = ((x ||| y : Nat) : Int) := by
  unfold aOr
  apply i32b
  · rw [Int32.toBitVec_or, BitVec.toNat_or, i32n hx, i32n hy]
  · exact Nat.or_lt_two_pow (n := 31) hx hy
/-- what is in x and not in y -/
theorem aAndNot_n {x y : Nat} (hx : x < 2147483648) (hy : y < 2147483648) : ∃ z : Nat, aAnd (x : Int) (aXor (y : Int) (-1)) = (z : Int) ∧ z < 2147483648 ∧ ∀ p, z.testBit p = (x.testBit p && !y.testBit p) := by
  refine ⟨x &&& ((Int32.ofInt (aXor (y : Int) (-1))).toBitVec.toNat), ?_, ?_, ?_⟩
  · unfold aAnd
    apply i32b
    · rw [Int32.toBitVec_and, BitVec.toNat_and, i32n hx]
    · have := Nat.and_le_left (n := x) (m := ((Int32.ofInt (aXor (y : Int) (-1))).toBitVec.toNat)); omega
  · have := Nat.and_le_left (n := x) (m := ((Int32.ofInt (aXor (y : Int) (-1))).toBitVec.toNat)); omega
  · intro p
    rw [Nat.testBit_and]
    unfold aXor
    rw [Int32.ofInt_toInt, Int32.toBitVec_xor, BitVec.toNat_xor, Nat.testBit_xor, i32n hy]
    by_cases l : p < 32
    · have h1 : (Int32.ofInt (-1)).toBitVec.toNat.testBit p = true := by
        have : ∀ k : Fin 32, (Int32.ofInt (-1)).toBitVec.toNat.testBit k.val = true := by decide
        exact this ⟨p, l⟩
      rw [h1]
      simp
    · have h2 : 2 ^ 31 ≤ 2 ^ p := Nat.pow_le_pow_right (by decide) (by omega)
      rw [Nat.testBit_lt_two_pow (show x < 2 ^ p by omega)]
      simp
theorem p31 {n x : Nat} (hn : n ≤ 30) (hx : x < 2 ^ n) : x < 2147483648 := by
  have h2 : 2 ^ n ≤ 2 ^ 30 := Nat.pow_le_pow_right (by decide) hn
  omega
theorem bs_and (f g : Nat → Bool) {n : Nat} (hn : n ≤ 30) : aAnd (bs f n : Nat) (bs g n : Nat) = ((bs (fun p => f p && g p) n : Nat) : Int) := by
  rw [aAnd_n (p31 hn (bs_lt f n)) (p31 hn (bs_lt g n))]
  congr 1
  apply bs_of
  · have := Nat.and_le_left (n := bs f n) (m := bs g n); have := bs_lt f n; omega
  · intro p hp
    rw [Nat.testBit_and, bs_bit, bs_bit]
    simp [hp]
theorem bs_or (f g : Nat → Bool) {n : Nat} (hn : n ≤ 30) : aOr (bs f n : Nat) (bs g n : Nat) = ((bs (fun p => f p || g p) n : Nat) : Int) := by
  rw [aOr_n (p31 hn (bs_lt f n)) (p31 hn (bs_lt g n))]
  congr 1
  apply bs_of
  · exact Nat.or_lt_two_pow (bs_lt f n) (bs_lt g n)
  · intro p hp
    rw [Nat.testBit_or, bs_bit, bs_bit]
    simp [hp]
theorem bs_sub (f g : Nat → Bool) {n : Nat} (hn : n ≤ 30) : aAnd (bs f n : Nat) (aXor (bs g n : Nat) (-1)) = ((bs (fun p => f p && !g p) n : Nat) : Int) := by
  obtain ⟨z, h1, h2, h3⟩ := aAndNot_n (p31 hn (bs_lt f n)) (p31 hn (bs_lt g n))
  rw [h1]
  congr 1
  have h4 : z < 2 ^ n := by
    apply Nat.lt_pow_two_of_testBit
    intro i hi
    rw [h3, bs_bit]
    simp [show ¬ i < n by omega]
  apply bs_of h4
  intro p hp
  rw [h3, bs_bit, bs_bit]
  simp [hp]
theorem aAnd_comm (x y : Int) : aAnd x y = aAnd y x := by unfold aAnd; rw [Int32.and_comm]
theorem aOr_comm (x y : Int) : aOr x y = aOr y x := by unfold aOr; rw [Int32.or_comm]
theorem bs_sub' (f g : Nat → Bool) {n : Nat} (hn : n ≤ 30) : aAnd (aXor (bs g n : Nat) (-1)) (bs f n : Nat) = ((bs (fun p => f p && !g p) n : Nat) : Int) := by
  rw [aAnd_comm, bs_sub f g hn]
theorem shl1' (p : Nat) (h : p ≤ 30) : aShl 1 ((p : Nat) : Int) = ((2 ^ p : Nat) : Int) := by
  have : ∀ k : Fin 31, aShl 1 ((k.val : Nat) : Int) = ((2 ^ k.val : Nat) : Int) := by decide
  exact this ⟨p, by omega⟩
theorem bs_shl {n p : Nat} (h : p < n) (hn : n ≤ 30) : aShl 1 ((p : Nat) : Int) = ((bs (fun q => decide (q = p)) n : Nat) : Int) := by
  rw [shl1' p (by omega), bs_one h]
theorem aShr_of {x : Int} (h1 : -2147483648 ≤ x) (h2 : x < 2147483648) {p : Nat} (hp : p ≤ 31) : aShr x (p : Int) = x >>> p := by
  have e1 : ((Int32.ofInt ((p : Nat) : Int) &&& 31).toBitVec.smod 32).toNat = p := by
    have : ∀ k : Fin 32, ((Int32.ofInt ((k.val : Nat) : Int) &&& 31).toBitVec.smod 32).toNat = k.val := by decide
    exact this ⟨p, by omega⟩
  unfold aShr
  show ((Int32.ofInt x >>> (Int32.ofInt ((p : Nat) : Int) &&& 31)).toBitVec).toInt = _
  rw [Int32.toBitVec_shiftRight, BitVec.sshiftRight_eq', BitVec.toInt_sshiftRight]
  show (Int32.ofInt x).toInt >>> ((Int32.ofInt ((p : Nat) : Int) &&& 31).toBitVec.smod 32).toNat = _
  rw [r32 h1 h2, e1]
theorem aShr_n {x p : Nat} (hx : x < 2147483648) (hp : p ≤ 31) : aShr (x : Int) (p : Int) = ((x >>> p : Nat) : Int) := by
  rw [aShr_of (by omega) (by omega) hp]
  rfl
/-- a bit of a set -/
theorem aBit_n {x p : Nat} (hx : x < 2147483648) (hp : p ≤ 31) : aAnd (aShr (x : Int) (p : Int)) 1 = if x.testBit p then 1 else 0 := by
  have hl := Nat.shiftRight_le x p
  rw [aShr_n hx hp]
  have h1 : (1 : Int) = ((1 : Nat) : Int) := rfl
  rw [h1, aAnd_n (by omega) (by decide), Nat.and_one_is_mod, Nat.testBit_eq_decide_div_mod_eq, Nat.shiftRight_eq_div_pow]
  by_cases e : x / 2 ^ p % 2 = 1
  · simp [e]
  · simp [show x / 2 ^ p % 2 = 0 by omega]
theorem bs_bitI (f : Nat → Bool) {n p : Nat} (hn : n ≤ 30) (hp : p < n) : aAnd (aShr ((bs f n : Nat) : Int) (p : Int)) 1 = if f p then 1 else 0 := by
  rw [aBit_n (p31 hn (bs_lt f n)) (by omega), bs_bit]
  simp [hp]
theorem bs_ne (f : Nat → Bool) (n : Nat) : ¬ ((bs f n : Nat) : Int) = 0 ↔ anyN f n = true := by
  induction n with
  | zero => simp [bs, anyN]
  | succ n ih =>
    have hp : 0 < 2 ^ n := Nat.pow_pos (by decide)
    rw [bs, anyN]
    by_cases h : f n = true
    · simp only [h, if_true, Bool.or_true, iff_true]; omega
    · simp only [h, Bool.false_eq_true, if_false, Nat.add_zero, Bool.or_false]; exact ih
theorem orA_bs (f : Nat → Bool) {n : Nat} (hn : n ≤ 30) : orA (fun p => if f p = true then aShl 1 ((p : Nat) : Int) else 0) n = ((bs f n : Nat) : Int) := by
  have key : ∀ m, m ≤ n → orA (fun p => if f p = true then aShl 1 ((p : Nat) : Int) else 0) m = ((bs f m : Nat) : Int) := by
    intro m
    induction m with
    | zero => intro _; rfl
    | succ m ih =>
      intro hm
      have hl := bs_lt f m
      have h31 : bs f m < 2147483648 := p31 (by omega) hl
      rw [orA, ih (by omega), bs]
      by_cases h : f m = true
      · have h2 : 2 ^ m < 2147483648 := by
          have : 2 ^ m ≤ 2 ^ 30 := Nat.pow_le_pow_right (by decide) (by omega)
          omega
        rw [if_pos h, if_pos h, shl1' m (by omega), aOr_n h31 h2]
        congr 1
        rw [Nat.or_comm, Nat.add_comm]
        have h9 := Nat.two_pow_add_eq_or_of_lt hl 1
        rw [Nat.mul_one] at h9
        exact h9.symm
      · rw [if_neg h, if_neg h]
        have h0 : (0 : Int) = ((0 : Nat) : Int) := rfl
        rw [h0, aOr_n h31 (by decide), Nat.or_zero]
        rfl
  exact key n (Nat.le_refl _)
theorem sumA_cnt (f : Nat → Bool) {n : Nat} (hn : n ≤ 1000000) : sumA (fun p => if f p = true then 1 else 0) n = ((cnt f n : Nat) : Int) := by
  have key : ∀ m, m ≤ n → sumA (fun p => if f p = true then 1 else 0) m = ((cnt f m : Nat) : Int) := by
    intro m
    induction m with
    | zero => intro _; rfl
    | succ m ih =>
      intro hm
      have := cnt_le f m
      rw [sumA, ih (by omega), cnt]
      by_cases h : f m = true
      · rw [if_pos h, if_pos h, aAdd_of (by omega) (by omega)]; omega
      · rw [if_neg h, if_neg h, aAdd_of (by omega) (by omega)]; omega
  exact key n (Nat.le_refl _)
/-- what Integer.bitCount reckons -/
def aBC (x : Int) : Int :=
  let i1 := aSub x (aAnd (aUsh x 1) 1431655765)
  let i2 := aAdd (aAnd i1 858993459) (aAnd (aUsh i1 2) 858993459)
  let i3 := aAnd (aAdd i2 (aUsh i2 4)) 252645135
  let i4 := aAdd i3 (aUsh i3 8)
  let i5 := aAdd i4 (aUsh i4 16)
  aAnd i5 63
theorem aBC_n : ∀ x : Nat, x < 1024 → aBC (x : Int) = ((cnt (fun p => x.testBit p) 10 : Nat) : Int) := by decide +kernel
theorem cnt_ext (f : Nat → Bool) {n m : Nat} (h : n ≤ m) (h2 : ∀ p, n ≤ p → p < m → f p = false) : cnt f m = cnt f n := by
  induction m with
  | zero => rw [show n = 0 by omega]
  | succ m ih =>
    by_cases e : n = m + 1
    · rw [e]
    · rw [cnt, h2 m (by omega) (by omega), ih (by omega) (fun p h3 h4 => h2 p h3 (by omega))]
      rfl
theorem bs_count (f : Nat → Bool) {n : Nat} (hn : n ≤ 10) : aBC ((bs f n : Nat) : Int) = ((cnt f n : Nat) : Int) := by
  rw [aBC_n _ (bs_le10 f hn)]
  congr 1
  rw [cnt_ext (fun p => (bs f n).testBit p) hn (fun p h1 h2 => by simp only [bs_bit]; simp [show ¬ p < n by omega])]
  apply cnt_c
  intro p hp
  rw [bs_bit]
  simp [hp]
theorem bs_t {F : Nat → Bool} {n : Nat} (h : F n = true) (hn : n ≤ 29) : aOr ((bs F n : Nat) : Int) (aShl 1 ((n : Nat) : Int)) = ((bs F (n + 1) : Nat) : Int) := by
  have := orA_bs F (n := n + 1) (by omega)
  rw [orA, orA_bs F (by omega), if_pos h] at this
  exact this
theorem bs_z {F : Nat → Bool} {n : Nat} (h : F n = false) (hn : n ≤ 29) : aOr ((bs F n : Nat) : Int) 0 = ((bs F (n + 1) : Nat) : Int) := by
  have := orA_bs F (n := n + 1) (by omega)
  rw [orA, orA_bs F (by omega), if_neg (by rw [h]; decide)] at this
  exact this
theorem bs_f {F : Nat → Bool} {n : Nat} (h : F n = false) : ((bs F n : Nat) : Int) = ((bs F (n + 1) : Nat) : Int) := by
  rw [bs, h]; rfl
theorem cnt_t {F : Nat → Bool} {n : Nat} (h : F n = true) (hn : n ≤ 1000000) : aAdd ((cnt F n : Nat) : Int) 1 = ((cnt F (n + 1) : Nat) : Int) := by
  have := cnt_le F n
  rw [cnt, if_pos h, aAdd_of (by omega) (by omega)]; omega
theorem cnt_z {F : Nat → Bool} {n : Nat} (h : F n = false) (hn : n ≤ 1000000) : aAdd ((cnt F n : Nat) : Int) 0 = ((cnt F (n + 1) : Nat) : Int) := by
  have := cnt_le F n
  rw [cnt, h, aAdd_of (by omega) (by omega)]; simp
theorem cnt_f {F : Nat → Bool} {n : Nat} (h : F n = false) : ((cnt F n : Nat) : Int) = ((cnt F (n + 1) : Nat) : Int) := by
  rw [cnt, h]; rfl
theorem ite1_t {c : Prop} [Decidable c] (h : (if c then (1 : Int) else 0) = 1) : c := by
  by_cases e : c
  · exact e
  · rw [if_neg e] at h; cases h
theorem ite1_f {c : Prop} [Decidable c] (h : ¬ (if c then (1 : Int) else 0) = 1) : ¬ c := by
  intro e
  rw [if_pos e] at h
  exact h rfl
