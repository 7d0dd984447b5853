/-! Names: five bits a letter in the class, eight in the reference. -/
theorem bCmp_n {x y : Nat} (hx : x < 9223372036854775808) (hy : y < 9223372036854775808) : bCmp (x : Int) (y : Int) = if y < x then 1 else if x = y then 0 else -1 := by
  unfold bCmp lg_cmp
  have ex := r64n hx
  have ey := r64n hy
  by_cases h1 : y < x
  · rw [if_pos h1, if_pos (show Int64.ofInt (x : Int) > Int64.ofInt (y : Int) from Int64.lt_iff_toInt_lt.mpr (by omega))]; rfl
  · rw [if_neg h1, if_neg (show ¬ (Int64.ofInt (x : Int) > Int64.ofInt (y : Int)) from fun h => by have := Int64.lt_iff_toInt_lt.mp h; omega)]
    by_cases h2 : x = y
    · subst h2; rw [if_pos rfl, if_pos rfl]; rfl
    · rw [if_neg h2, if_neg (fun h => by rw [h] at ex; omega)]; rfl
theorem bShr_n {x p : Nat} (hx : x < 9223372036854775808) (hp : p ≤ 63) : bShr (x : Int) (p : Int) = ((x >>> p : Nat) : Int) := by
  have e1 : (((Int32.ofInt ((p : Nat) : Int)).toInt64 &&& 63).toBitVec.smod 64).toNat = p := by
    have : ∀ k : Fin 64, (((Int32.ofInt ((k.val : Nat) : Int)).toInt64 &&& 63).toBitVec.smod 64).toNat = k.val := by decide
    exact this ⟨p, by omega⟩
  unfold bShr
  show ((Int64.ofInt (x : Int) >>> ((Int32.ofInt ((p : Nat) : Int)).toInt64 &&& 63)).toBitVec).toInt = _
  rw [Int64.toBitVec_shiftRight, BitVec.sshiftRight_eq', BitVec.toInt_sshiftRight]
  show (Int64.ofInt (x : Int)).toInt >>> (((Int32.ofInt ((p : Nat) : Int)).toInt64 &&& 63).toBitVec.smod 64).toNat = _
  rw [r64n hx, e1]
  rfl
theorem bAnd_255 {x : Nat} (hx : x < 9223372036854775808) : bAnd (x : Int) 255 = ((x % 256 : Nat) : Int) := by
  unfold bAnd
  have e : (Int64.ofInt (x : Int) &&& Int64.ofInt 255).toBitVec.toNat = x % 256 := by
    rw [Int64.toBitVec_and, BitVec.toNat_and, i64n hx]
    have : (Int64.ofInt 255).toBitVec.toNat = 2 ^ 8 - 1 := by decide
    rw [this, Nat.and_two_pow_sub_one_eq_mod]
  exact i64b e (by omega)
theorem e8_lt {f : Nat → Nat} : ∀ {n : Nat}, (∀ i, i < n → 1 ≤ f i ∧ f i ≤ 26) → e8 f n < 256 ^ n
  | 0, _ => by simp [e8]
  | n + 1, h => by
    have := e8_lt (n := n) (fun i hi => h i (by omega))
    have := h n (by omega)
    rw [e8, Nat.pow_succ]
    omega
theorem e8_pos {f : Nat → Nat} {n : Nat} : 0 < e8 f (n + 1) := by rw [e8]; omega
theorem e8_lt6 {f : Nat → Nat} {n : Nat} (hn : n ≤ 6) (h : ∀ i, i < n → 1 ≤ f i ∧ f i ≤ 26) : e8 f n < 281474976710656 := by
  have h1 := e8_lt h
  have h2 : 256 ^ n ≤ 256 ^ 6 := Nat.pow_le_pow_right (by decide) hn
  omega
theorem e8_shr {f : Nat → Nat} {n : Nat} (h : f n ≤ 26) : e8 f (n + 1) >>> 8 = e8 f n := by
  rw [Nat.shiftRight_eq_div_pow, e8]; omega
theorem e8_shrs {f : Nat → Nat} : ∀ {n k : Nat}, (∀ i, i < n → 1 ≤ f i ∧ f i ≤ 26) → k < n → e8 f n >>> (8 * (n - 1 - k)) = e8 f (k + 1)
  | 0, k, _, h => by omega
  | n + 1, k, h, hk => by
    by_cases e : k = n
    · subst e; rw [show 8 * (k + 1 - 1 - k) = 0 by omega]; rfl
    · rw [show 8 * (n + 1 - 1 - k) = 8 + 8 * (n - 1 - k) by omega, Nat.shiftRight_add, e8_shr (h n (by omega)).2]
      exact e8_shrs (fun i hi => h i (by omega)) (by omega)
theorem e5_lt {f : Nat → Nat} : ∀ {n : Nat}, (∀ i, i < n → 1 ≤ f i ∧ f i ≤ 26) → e5 f n < 32 ^ n
  | 0, _ => by simp [e5]
  | n + 1, h => by
    have h1 := e5_lt (n := n) (fun i hi => h i (by omega))
    have h2 := h n (by omega)
    have h3 : f n * 32 ^ n ≤ 26 * 32 ^ n := Nat.mul_le_mul_right _ h2.2
    rw [e5, Nat.pow_succ]
    omega
theorem e5_lt6 {f : Nat → Nat} {n : Nat} (hn : n ≤ 6) (h : ∀ i, i < n → 1 ≤ f i ∧ f i ≤ 26) : e5 f n < 1073741824 := by
  have h1 := e5_lt h
  have h2 : 32 ^ n ≤ 32 ^ 6 := Nat.pow_le_pow_right (by decide) hn
  omega
theorem e5_get {f : Nat → Nat} : ∀ {n : Nat} (k : Nat), (∀ i, i < n → 1 ≤ f i ∧ f i ≤ 26) → e5 f n / 32 ^ k % 32 = if k < n then f k else 0
  | 0, k, _ => by simp [e5]
  | n + 1, k, h => by
    have h1 := e5_lt (n := n) (fun i hi => h i (by omega))
    have h2 := h n (by omega)
    rw [e5]
    by_cases e : k < n
    · rw [if_pos (by omega)]
      have ih := e5_get (n := n) k (fun i hi => h i (by omega))
      rw [if_pos e] at ih
      have e2 : f n * 32 ^ n = (f n * 32 ^ (n - k - 1)) * 32 * 32 ^ k := by
        rw [Nat.mul_assoc, Nat.mul_assoc, Nat.mul_comm 32 (32 ^ k), ← Nat.pow_succ, ← Nat.pow_add]
        congr 2; omega
      rw [e2, Nat.add_mul_div_right _ _ (Nat.pow_pos (by decide)), Nat.add_mul_mod_self_right]
      exact ih
    · by_cases e2 : k = n
      · subst e2
        rw [if_pos (by omega), Nat.add_mul_div_right _ _ (Nat.pow_pos (by decide)), Nat.div_eq_of_lt h1]
        omega
      · rw [if_neg (by omega)]
        have h3 := e5_lt h
        rw [e5] at h3
        have h4 : 32 ^ (n + 1) ≤ 32 ^ k := Nat.pow_le_pow_right (by decide) (by omega)
        rw [Nat.div_eq_of_lt (by omega)]
theorem e5_inj {f g : Nat → Nat} {n m : Nat} (hf : ∀ i, i < n → 1 ≤ f i ∧ f i ≤ 26) (hg : ∀ i, i < m → 1 ≤ g i ∧ g i ≤ 26) (h : e5 f n = e5 g m) : n = m ∧ ∀ i, i < n → f i = g i := by
  have key : ∀ k, (if k < n then f k else 0) = (if k < m then g k else 0) := fun k => by rw [← e5_get k hf, ← e5_get k hg, h]
  have hnm : n = m := by
    rcases Nat.lt_trichotomy n m with c | c | c
    · have := key n; rw [if_neg (by omega), if_pos c] at this; have := hg n c; omega
    · exact c
    · have := key m; rw [if_pos c, if_neg (by omega)] at this; have := hf m c; omega
  refine ⟨hnm, fun i hi => ?_⟩
  have := key i
  rw [if_pos hi, if_pos (by omega)] at this
  exact this
theorem e8_inj {f g : Nat → Nat} : ∀ {n m : Nat}, (∀ i, i < n → 1 ≤ f i ∧ f i ≤ 26) → (∀ i, i < m → 1 ≤ g i ∧ g i ≤ 26) → e8 f n = e8 g m → n = m ∧ ∀ i, i < n → f i = g i
  | 0, 0, _, _, _ => ⟨rfl, fun i hi => by omega⟩
  | 0, m + 1, _, _, h => by have := e8_pos (f := g) (n := m); simp only [e8] at h; simp only [e8] at this; omega
  | n + 1, 0, _, _, h => by have := e8_pos (f := f) (n := n); simp only [e8] at h; simp only [e8] at this; omega
  | n + 1, m + 1, hf, hg, h => by
    have a := hf n (by omega)
    have b := hg m (by omega)
    rw [e8, e8] at h
    obtain ⟨h1, h2⟩ := e8_inj (n := n) (m := m) (fun i hi => hf i (by omega)) (fun i hi => hg i (by omega)) (by omega)
    subst h1
    refine ⟨rfl, fun i hi => ?_⟩
    by_cases e : i = n
    · subst e; omega
    · exact h2 i (by omega)
theorem e5_c {f g : Nat → Nat} : ∀ {n : Nat}, (∀ i, i < n → f i = g i) → e5 f n = e5 g n
  | 0, _ => rfl
  | n + 1, h => by rw [e5, e5, e5_c (n := n) (fun i hi => h i (by omega)), h n (by omega)]
theorem e8_c {f g : Nat → Nat} : ∀ {n : Nat}, (∀ i, i < n → f i = g i) → e8 f n = e8 g n
  | 0, _ => rfl
  | n + 1, h => by rw [e8, e8, e8_c (n := n) (fun i hi => h i (by omega)), h n (by omega)]
theorem nT_eq {x w x' w' : Int} (h : nT x w) (h' : nT x' w') : x = x' ↔ w = w' := by
  obtain ⟨n, f, hn, hf, rfl, rfl⟩ := h
  obtain ⟨m, g, hm, hg, rfl, rfl⟩ := h'
  constructor
  · intro e
    obtain ⟨rfl, h2⟩ := e5_inj hf hg (by omega)
    rw [e8_c h2]
  · intro e
    obtain ⟨rfl, h2⟩ := e8_inj hf hg (by omega)
    rw [e5_c h2]
/-- a letter of a name -/
def ltV (f : Nat → Nat) (n k : Nat) : Int := if k < n then ((f k : Nat) : Int) else 0
theorem lt5 {f : Nat → Nat} {n k : Nat} (hn : n ≤ 6) (h : ∀ i, i < n → 1 ≤ f i ∧ f i ≤ 26) (hk : k < 6) : aAnd (aShr ((e5 f n : Nat) : Int) ((5 * k : Nat) : Int)) 31 = ltV f n k := by
  have h1 := e5_lt6 hn h
  have hl := Nat.shiftRight_le (e5 f n) (5 * k)
  rw [aShr_n (by omega) (by omega)]
  have e : aAnd (((e5 f n >>> (5 * k) : Nat)) : Int) ((31 : Nat) : Int) = (((e5 f n >>> (5 * k)) &&& 31 : Nat) : Int) := aAnd_n (by omega) (by omega)
  have e3 : (e5 f n >>> (5 * k)) &&& 31 = e5 f n / 32 ^ k % 32 := by
    rw [show (31 : Nat) = 2 ^ 5 - 1 by decide, Nat.and_two_pow_sub_one_eq_mod, Nat.shiftRight_eq_div_pow, Nat.pow_mul]
  refine e.trans ?_
  rw [e3, e5_get k h]
  unfold ltV
  split <;> rfl
theorem lt8 {f : Nat → Nat} {n k : Nat} (hn : n ≤ 6) (h : ∀ i, i < n → 1 ≤ f i ∧ f i ≤ 26) (hk : k < n) : aAdd (aSub (bL2i (bAnd (bShr ((e8 f n : Nat) : Int) ((8 * (n - 1 - k) : Nat) : Int)) 255)) 97) 1 = ltV f n k := by
  have h1 := e8_lt6 hn h
  have hl := Nat.shiftRight_le (e8 f n) (8 * (n - 1 - k))
  have hb := h k hk
  rw [bShr_n (by omega) (by omega), bAnd_255 (by omega), e8_shrs h hk, e8]
  have e : (e8 f k * 256 + (f k + 96)) % 256 = f k + 96 := by omega
  rw [e, bL2i_n (by omega), aSub_of (by omega) (by omega), aAdd_of (by omega) (by omega)]
  unfold ltV
  rw [if_pos hk]
  omega
