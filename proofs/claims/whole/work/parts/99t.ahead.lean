/-! The reference's next sign is the class's next token. -/
theorem bShl_8 {x : Nat} (h : x * 256 < 9223372036854775808) : bShl (x : Int) 8 = ((x * 256 : Nat) : Int) := by
  have hx : x < 9223372036854775808 := by omega
  have e1 : (((Int32.ofInt 8).toInt64 &&& 63).toBitVec.smod 64).toNat = 8 := by decide
  unfold bShl
  apply i64b _ h
  rw [Int64.toBitVec_shiftLeft, BitVec.shiftLeft_eq', e1, BitVec.toNat_shiftLeft, i64n hx, Nat.shiftLeft_eq, Nat.mod_eq_of_lt (by omega)]
theorem bOr_n {x y : Nat} (hx : x < 9223372036854775808) (hy : y < 9223372036854775808) : bOr (x : Int) (y : Int) = ((x ||| y : Nat) : Int) := by
  unfold bOr
  apply i64b
  · rw [Int64.toBitVec_or, BitVec.toNat_or, i64n hx, i64n hy]
  · exact Nat.or_lt_two_pow (n := 63) hx hy
theorem w8_s {x : Nat} {c : Int} (hc : 0 ≤ c ∧ c < 256) (h : x * 256 + 256 ≤ 9223372036854775808) : bOr (bShl (x : Int) 8) (bI2l c) = ((x * 256 + c.toNat : Nat) : Int) := by
  obtain ⟨y, rfl⟩ : ∃ y : Nat, c = (y : Int) := ⟨c.toNat, by omega⟩
  rw [bShl_8 (by omega), bI2l_n (by omega), bOr_n (by omega) (by omega)]
  congr 1
  rw [Nat.mul_comm, show (256 : Nat) = 2 ^ 8 by decide, ← Nat.two_pow_add_eq_or_of_lt (by omega), Int.toNat_natCast]
theorem e8_b {f : Nat → Nat} : ∀ {n : Nat}, (∀ i, i < n + 1 → 1 ≤ f i ∧ f i ≤ 26) → e8 f (n + 1) < 123 * 256 ^ n
  | 0, h => by have := h 0 (by omega); simp only [e8]; omega
  | n + 1, h => by
    have i1 := e8_b (n := n) (fun i hi => h i (by omega))
    have i2 := h (n + 1) (by omega)
    rw [e8, Nat.pow_succ]
    omega
theorem e8_b7 {f : Nat → Nat} {m : Nat} (hm : m ≤ 7) (h : ∀ i, i < m → 1 ≤ f i ∧ f i ≤ 26) : e8 f m * 256 + 256 ≤ 9223372036854775808 := by
  cases m with
  | zero => simp only [e8]; omega
  | succ m =>
    have h1 := e8_b h
    have h2 : 256 ^ m ≤ 256 ^ 6 := Nat.pow_le_pow_right (by decide) (by omega)
    omega
theorem scL_ev {f : Nat → Int} {N a n : Nat} (hl : ∀ i, i < n → mLet (f (a + i))) (hz : a + n ≤ N) (he : a + n < N → ¬ mLet (f (a + n))) : ∀ (d m : Nat) (lx : Int), m + d = n → scL f (N - (a + m)) (a + m, m, lx, ((e8 (lgF f a) (min m 8) : Nat) : Int)) = (a + n, n, (if lx = -1 ∧ m ≤ 6 ∧ 6 < n then ((a + 6 : Nat) : Int) else lx), ((e8 (lgF f a) (min n 8) : Nat) : Int))
  | 0, m, lx, h => by
    have e : m = n := by omega
    subst e
    rw [if_neg (by omega)]
    cases hx : N - (a + m) with
    | zero => rfl
    | succ x => rw [scL, if_neg (he (by omega))]
  | d + 1, m, lx, h => by
    obtain ⟨x, hx⟩ : ∃ x, N - (a + m) = x + 1 := ⟨N - (a + m) - 1, by omega⟩
    have hm := hl m (by omega)
    rw [hx, scL, if_pos hm]
    have hx2 : x = N - (a + (m + 1)) := by omega
    have ih := scL_ev hl hz he d (m + 1) (if m = 6 ∧ lx = -1 then ((a + m : Nat) : Int) else lx) (by omega)
    rw [← hx2] at ih
    have e1 : (if m < 8 then bOr (bShl ((e8 (lgF f a) (min m 8) : Nat) : Int) 8) (bI2l (f (a + m))) else ((e8 (lgF f a) (min m 8) : Nat) : Int)) = ((e8 (lgF f a) (min (m + 1) 8) : Nat) : Int) := by
      by_cases e : m < 8
      · have hb := e8_lt8 (f := lgF f a) (n := m + 1) (by omega) (lgb (fun i hi => hl i (by omega)))
        unfold mLet at hm
        have hlg : lgF f a m = (f (a + m)).toNat - 96 := rfl
        rw [if_pos e, Nat.min_eq_left (by omega), Nat.min_eq_left (by omega), w8_s (by omega) (e8_b7 (by omega) (lgb (fun i hi => hl i (by omega)))), e8]
        congr 1
        omega
      · rw [if_neg e, Nat.min_eq_right (by omega), Nat.min_eq_right (by omega)]
    show scL f x (a + (m + 1), m + 1, _, _) = _
    rw [e1, ih]
    congr 3
    by_cases g : m = 6 ∧ lx = -1
    · rw [if_pos g, if_neg (by omega), if_pos (by omega), g.1]
    · rw [if_neg g]
      by_cases g2 : lx = -1 ∧ m + 1 ≤ 6 ∧ 6 < n
      · rw [if_pos g2, if_pos (by omega)]
      · rw [if_neg g2, if_neg (by omega)]
theorem scD_ev {f : Nat → Int} {N a n : Nat} (hl : ∀ i, i < n → mDig (f (a + i))) (hz : a + n ≤ N) (he : a + n < N → ¬ mDig (f (a + n))) : ∀ (d m : Nat) (lx : Int), m + d = n → scD f (N - (a + m)) (a + m, m, lx, ((nuF f a (min m 4) : Nat) : Int)) = (a + n, n, (if lx = -1 ∧ m ≤ 4 ∧ 4 < n then ((a + 4 : Nat) : Int) else lx), ((nuF f a (min n 4) : Nat) : Int))
  | 0, m, lx, h => by
    have e : m = n := by omega
    subst e
    rw [if_neg (by omega)]
    cases hx : N - (a + m) with
    | zero => rfl
    | succ x => rw [scD, if_neg (he (by omega))]
  | d + 1, m, lx, h => by
    obtain ⟨x, hx⟩ : ∃ x, N - (a + m) = x + 1 := ⟨N - (a + m) - 1, by omega⟩
    have hm := hl m (by omega)
    rw [hx, scD, if_pos hm]
    have hx2 : x = N - (a + (m + 1)) := by omega
    have ih := scD_ev hl hz he d (m + 1) (if m = 4 ∧ lx = -1 then ((a + m : Nat) : Int) else lx) (by omega)
    rw [← hx2] at ih
    have e1 : (if m < 4 then aSub (aAdd (aMul 10 ((nuF f a (min m 4) : Nat) : Int)) (f (a + m))) 48 else ((nuF f a (min m 4) : Nat) : Int)) = ((nuF f a (min (m + 1) 4) : Nat) : Int) := by
      by_cases e : m < 4
      · rw [if_pos e, Nat.min_eq_left (by omega), Nat.min_eq_left (by omega)]
        exact (nu_s e (fun i hi => hl i (by omega)) hm).2
      · rw [if_neg e, Nat.min_eq_right (by omega), Nat.min_eq_right (by omega)]
    show scD f x (a + (m + 1), m + 1, _, _) = _
    rw [e1, ih]
    congr 3
    by_cases g : m = 4 ∧ lx = -1
    · rw [if_pos g, if_neg (by omega), if_pos (by omega), g.1]
    · rw [if_neg g]
      by_cases g2 : lx = -1 ∧ m + 1 ≤ 4 ∧ 4 < n
      · rw [if_pos g2, if_pos (by omega)]
      · rw [if_neg g2, if_neg (by omega)]
/-- the reference stands at a token -/
def LX (k : Int) (s : Nat) (v : Int) (p' : Nat) (ρ : AH) : Prop := ρ 295 4 = (s : Int) ∧
  (((k = 0 ∧ 0 ≤ ρ 295 5) ∧ ρ 295 3 = 0 ∧ ρ 295 12 = -1)
  ∨ ((1 ≤ k ∧ k ≤ 13) ∧ ρ 295 3 = 1 ∧ ρ 295 12 = -1 ∧ ρ 295 7 = OWi k ∧ ρ 295 5 = (p' : Int))
  ∨ (k = 14 ∧ ρ 295 3 = 1 ∧ ρ 295 12 = -1 ∧ nT v (ρ 295 7) ∧ (∀ j, j < 13 → ρ 295 7 ≠ OWl.getD j 0) ∧ ρ 295 5 = (p' : Int))
  ∨ (k = 15 ∧ ρ 295 3 = 2 ∧ ρ 295 12 = -1 ∧ ρ 295 6 = v ∧ 0 ≤ v ∧ v ≤ 9999 ∧ ρ 295 5 = (p' : Int))
  ∨ (k = 16 ∧ ρ 295 3 = 3 ∧ ρ 295 12 = -1 ∧ ρ 295 6 = 59 ∧ ρ 295 5 = (p' : Int))
  ∨ (k = 17 ∧ (0 ≤ v ∧ v ≤ 6 ∧ 0 ≤ ρ 295 5 ∧ ¬ ρ 295 3 = 0) ∧ (ρ 295 12 = (s : Int) + v ∨ (v = 0 ∧ ρ 295 12 = -1 ∧ ρ 295 3 = 3 ∧ ρ 295 6 ≠ 59))))
def RFA (ρ ρ' : AH) : Prop := ∀ K j, ¬ (K = 295 ∧ ((3 ≤ j ∧ j ≤ 7) ∨ j = 12)) → ρ' K j = ρ K j
/-- the heap behind a word or a number -/
def hAH (ρ : AH) (a e : Nat) (g lx w v : Int) : AH := up2 (hp3 (up2 (up2 (up2 ρ 295 4 ((a : Nat) : Int)) 295 5 ((a + 1 : Nat) : Int)) 295 3 g) lx w v) 295 5 ((e : Nat) : Int)
theorem hAH_v (ρ : AH) (a e : Nat) (g lx w v : Int) : hAH ρ a e g lx w v 295 4 = (a : Int) ∧ hAH ρ a e g lx w v 295 3 = g ∧ hAH ρ a e g lx w v 295 12 = lx ∧ hAH ρ a e g lx w v 295 7 = w ∧ hAH ρ a e g lx w v 295 6 = v ∧ hAH ρ a e g lx w v 295 5 = (e : Int) ∧ RFA ρ (hAH ρ a e g lx w v) := by
  unfold hAH
  refine ⟨?_, ?_, ?_, ?_, ?_, up2_hit _ _ _ _, fun K j h => ?_⟩
  · rw [up2_nq _ (by omega), hp3_fr _ _ _ _ _ _ (by omega), up2_nq _ (by omega), up2_nq _ (by omega), up2_hit]
  · rw [up2_nq _ (by omega), hp3_fr _ _ _ _ _ _ (by omega), up2_hit]
  · rw [up2_nq _ (by omega), hp3_l]
  · rw [up2_nq _ (by omega), hp3_w]
  · rw [up2_nq _ (by omega), hp3_v]
  · rw [up2_nq _ (by omega), hp3_fr _ _ _ _ _ _ (by omega), up2_nq _ (by omega), up2_nq _ (by omega), up2_nq _ (by omega)]
theorem hAH_12 (ρ : AH) (a e : Nat) (g lx w v x : Int) : up2 (hAH ρ a e g lx w v) 295 12 x = hAH ρ a e g x w v := by
  funext K j
  by_cases h : K = 295 ∧ j = 12
  · rw [h.1, h.2, up2_hit, (hAH_v ρ a e g x w v).2.2.1]
  · rw [up2_nq _ h]
    unfold hAH
    by_cases h2 : K = 295 ∧ j = 5
    · rw [h2.1, h2.2, up2_hit, up2_hit]
    · rw [up2_nq _ h2, up2_nq _ h2]
      unfold hp3
      rw [if_neg h, if_neg h]
theorem aheadL (X : AX) (N p a n : Nat) (ρ : AH) (h2 : ρ 295 2 = (N : Int)) (hN : N ≤ 1600) (h5 : ρ 295 5 = (p : Int)) (hs : SKP (ρ 296) N p a) (hw : WRD (ρ 296) N a n) : TT X 8 (0, [(2, 295), (9, 0), (9, 0), (9, 0), (9, 0), (9, 0)], [], ρ) (fun r ρ' => r = none ∧ ρ' = hAH ρ a (a + n) 1 (if 0 < a ∧ An (ρ 296 (a - 1)) then (a : Int) else if 6 < n ∧ ¬ (n ≤ 8 ∧ mOwn ((e8 (lgF (ρ 296) a) (min n 8) : Nat) : Int)) then ((a + 6 : Nat) : Int) else -1) ((e8 (lgF (ρ 296) a) (min n 8) : Nat) : Int) 0) := by
  obtain ⟨w1, w2, w3, w4⟩ := hw
  have hl0 := w3 0 w1
  rw [Nat.add_zero] at hl0
  have t := t_aheadL X N p a ρ h2 hN h5 (by have := hs.1; have := hs.2.1; omega) (skipF_eq (N - p) p (by have := hs.1; have := hs.2.1; omega) hs) (by omega) hl0
  refine t.mono (fun r ρ' hr => ⟨hr.1, ?_⟩)
  rw [hr.2]
  unfold mAhL
  have ev := scL_ev w3 w2 w4 n 0 (mLx ρ a) (by omega)
  rw [Nat.add_zero] at ev
  have ev2 : scL (fun k => ρ 296 k) (N - a) (a, 0, mLx ρ a, 0) = _ := ev
  rw [ev2]
  dsimp only
  by_cases c1 : 0 < a ∧ An (ρ 296 (a - 1))
  · have e0 : mLx ρ a = (a : Int) := if_pos c1
    rw [e0, if_neg (show ¬ ((a : Int) = -1 ∧ 0 ≤ 6 ∧ 6 < n) by omega), if_neg (fun q => by have := q.2.1; omega), if_pos c1]
    rfl
  · have e0 : mLx ρ a = -1 := if_neg c1
    rw [e0, if_neg c1]
    by_cases c2 : 6 < n
    · have e9 : (if (-1 : Int) = -1 ∧ 0 ≤ 6 ∧ 6 < n then ((a + 6 : Nat) : Int) else -1) = ((a + 6 : Nat) : Int) := if_pos ⟨rfl, by omega, c2⟩
      rw [e9]
      by_cases c3 : n ≤ 8 ∧ mOwn ((e8 (lgF (ρ 296) a) (min n 8) : Nat) : Int)
      · rw [if_pos ⟨c3.1, rfl, c3.2⟩, if_neg (fun q => q.2 c3)]
        exact hAH_12 ρ a (a + n) 1 _ _ 0 (-1)
      · rw [if_neg (fun q => c3 ⟨q.1, q.2.2⟩), if_pos ⟨c2, c3⟩]
        rfl
    · have e9 : (if (-1 : Int) = -1 ∧ 0 ≤ 6 ∧ 6 < n then ((a + 6 : Nat) : Int) else -1) = -1 := if_neg (fun q => c2 q.2.2)
      rw [e9, if_neg (fun q => by have := q.2.1; omega), if_neg (fun q => c2 q.1)]
      rfl
theorem aheadD (X : AX) (N p a n : Nat) (ρ : AH) (h2 : ρ 295 2 = (N : Int)) (hN : N ≤ 1600) (h5 : ρ 295 5 = (p : Int)) (hs : SKP (ρ 296) N p a) (w1 : 1 ≤ n) (w2 : a + n ≤ N) (w3 : ∀ i, i < n → mDig (ρ 296 (a + i))) (w4 : a + n < N → ¬ mDig (ρ 296 (a + n))) : TT X 8 (0, [(2, 295), (9, 0), (9, 0), (9, 0), (9, 0), (9, 0)], [], ρ) (fun r ρ' => r = none ∧ ρ' = hAH ρ a (a + n) 2 (if 0 < a ∧ An (ρ 296 (a - 1)) then (a : Int) else if 4 < n then ((a + 4 : Nat) : Int) else -1) 0 ((nuF (ρ 296) a (min n 4) : Nat) : Int)) := by
  have hl0 := w3 0 w1
  rw [Nat.add_zero] at hl0
  have t := t_aheadD X N p a ρ h2 hN h5 (by have := hs.1; have := hs.2.1; omega) (skipF_eq (N - p) p (by have := hs.1; have := hs.2.1; omega) hs) (by omega) hl0
  refine t.mono (fun r ρ' hr => ⟨hr.1, ?_⟩)
  rw [hr.2]
  unfold mAhD
  have ev := scD_ev w3 w2 w4 n 0 (mLx ρ a) (by omega)
  rw [Nat.add_zero] at ev
  have ev2 : scD (fun k => ρ 296 k) (N - a) (a, 0, mLx ρ a, 0) = _ := ev
  rw [ev2]
  dsimp only
  by_cases c1 : 0 < a ∧ An (ρ 296 (a - 1))
  · have e0 : mLx ρ a = (a : Int) := if_pos c1
    rw [e0, if_neg (show ¬ ((a : Int) = -1 ∧ 0 ≤ 4 ∧ 4 < n) by omega), if_pos c1]
    rfl
  · have e0 : mLx ρ a = -1 := if_neg c1
    rw [e0, if_neg c1]
    by_cases c2 : 4 < n
    · rw [if_pos ⟨rfl, by omega, c2⟩, if_pos c2]; rfl
    · rw [if_neg (fun q => c2 q.2.2), if_neg c2]; rfl
theorem ahead_tok (X : AX) {N p s p' : Nat} {k v : Int} {ρ : AH} (h : TOK (ρ 296) N p k s v p') (h2 : ρ 295 2 = (N : Int)) (hN : N ≤ 1600) (h5 : ρ 295 5 = (p : Int)) : TT X 8 (0, [(2, 295), (9, 0), (9, 0), (9, 0), (9, 0), (9, 0)], [], ρ) (fun r ρ' => r = none ∧ LX k s v p' ρ' ∧ RFA ρ ρ') := by
  obtain ⟨hs, ht⟩ := h
  have hsk := skipF_eq (N - p) p (by have := hs.1; have := hs.2.1; omega) hs
  have hp : p ≤ N := by have := hs.1; have := hs.2.1; omega
  have hsign : ∀ (hz : s < N) (g1 : ¬ mLet (ρ 296 s)) (g2 : ¬ mDig (ρ 296 s)), TT X 8 (0, [(2, 295), (9, 0), (9, 0), (9, 0), (9, 0), (9, 0)], [], ρ) (fun r ρ' => r = none ∧ (ρ' 295 4 = (s : Int) ∧ ρ' 295 3 = 3 ∧ ρ' 295 12 = -1 ∧ ρ' 295 6 = ρ 296 s ∧ ρ' 295 5 = ((s + 1 : Nat) : Int)) ∧ RFA ρ ρ') := by
    intro hz g1 g2
    refine (t_aheadS X N p s ρ h2 hN h5 hp hsk hz g1 g2).mono (fun r ρ' hr => ⟨hr.1, ?_⟩)
    rw [hr.2]
    refine ⟨⟨?_, ?_, ?_, up2_hit _ _ _ _, ?_⟩, fun K j hK => ?_⟩
    · rw [up2_nq _ (by omega), up2_nq _ (by omega), up2_nq _ (by omega), up2_nq _ (by omega), up2_nq _ (by omega), up2_nq _ (by omega), up2_nq _ (by omega), up2_nq _ (by omega), up2_hit]
    · rw [up2_nq _ (by omega), up2_nq _ (by omega), up2_hit]
    · rw [up2_nq _ (by omega), up2_nq _ (by omega), up2_nq _ (by omega), up2_nq _ (by omega), up2_nq _ (by omega), up2_hit]
    · rw [up2_nq _ (by omega), up2_hit]
    · rw [up2_nq _ (by omega), up2_nq _ (by omega), up2_nq _ (by omega), up2_nq _ (by omega), up2_nq _ (by omega), up2_nq _ (by omega), up2_nq _ (by omega), up2_nq _ (by omega), up2_nq _ (by omega)]
  rcases ht with ⟨t1, rfl⟩ | ⟨t1, rfl, t2, t3⟩ | ⟨t1, rfl, rfl, t2, t3, t4⟩ | ⟨t1, rfl, rfl, t2, t3, t4⟩ | ⟨t0, n, hw, t5⟩ | ⟨t0, n, d1, d2, d3, t5⟩
  · refine (t_ahead0 X N p s ρ h2 hN h5 hp hsk (by omega)).mono (fun r ρ' hr => ⟨hr.1, ?_⟩)
    rw [hr.2]
    refine ⟨⟨?_, Or.inl ⟨⟨rfl, ?_⟩, ?_, up2_hit _ _ _ _⟩⟩, fun K j hK => ?_⟩
    · rw [up2_nq _ (by omega), up2_nq _ (by omega), up2_nq _ (by omega), up2_hit]
    · rw [up2_nq _ (by omega), up2_nq _ (by omega), up2_hit]; omega
    · rw [up2_nq _ (by omega), up2_hit]
    · rw [up2_nq _ (by omega), up2_nq _ (by omega), up2_nq _ (by omega), up2_nq _ (by omega)]
  · refine (hsign t1 (by rw [t2]; decide) (by rw [t2]; decide)).mono (fun r ρ' hr => ⟨hr.1, ⟨hr.2.1.1, ?_⟩, hr.2.2⟩)
    obtain ⟨-, ⟨q1, q2, q3, q4, q5⟩, -⟩ := hr
    exact Or.inr (Or.inr (Or.inr (Or.inr (Or.inl ⟨rfl, q2, q3, q4.trans t2, by rw [q5, t3]⟩))))
  · refine (hsign t1 t3 t4).mono (fun r ρ' hr => ⟨hr.1, ⟨hr.2.1.1, ?_⟩, hr.2.2⟩)
    obtain ⟨-, ⟨q1, q2, q3, q4, q5⟩, -⟩ := hr
    exact Or.inr (Or.inr (Or.inr (Or.inr (Or.inr ⟨rfl, by omega, Or.inr ⟨rfl, q3, q2, by rw [q4]; exact t2⟩⟩))))
  · rcases t2 with g | g
    · obtain ⟨n, n1, n2, n3⟩ := run_ex mLet (ρ 296) N (N - s) s (by omega)
      have hn1 : 1 ≤ n := by
        by_cases e : n = 0
        · subst e; exact absurd g (n3 (by omega))
        · omega
      refine (aheadL X N p s n ρ h2 hN h5 hs ⟨hn1, n1, n2, n3⟩).mono (fun r ρ' hr => ⟨hr.1, ?_⟩)
      rw [hr.2, if_pos ⟨t3, t4⟩]
      obtain ⟨q1, q2, q3, q4, q5, q6, q7⟩ := hAH_v ρ s (s + n) 1 (s : Int) ((e8 (lgF (ρ 296) s) (min n 8) : Nat) : Int) 0
      exact ⟨⟨q1, Or.inr (Or.inr (Or.inr (Or.inr (Or.inr ⟨rfl, by rw [q6, q2]; omega, Or.inl (by rw [q3]; omega)⟩))))⟩, q7⟩
    · obtain ⟨n, n1, n2, n3⟩ := run_ex mDig (ρ 296) N (N - s) s (by omega)
      have hn1 : 1 ≤ n := by
        by_cases e : n = 0
        · subst e; exact absurd g (n3 (by omega))
        · omega
      refine (aheadD X N p s n ρ h2 hN h5 hs hn1 n1 n2 n3).mono (fun r ρ' hr => ⟨hr.1, ?_⟩)
      rw [hr.2, if_pos ⟨t3, t4⟩]
      obtain ⟨q1, q2, q3, q4, q5, q6, q7⟩ := hAH_v ρ s (s + n) 2 (s : Int) 0 ((nuF (ρ 296) s (min n 4) : Nat) : Int)
      exact ⟨⟨q1, Or.inr (Or.inr (Or.inr (Or.inr (Or.inr ⟨rfl, by rw [q6, q2]; omega, Or.inl (by rw [q3]; omega)⟩))))⟩, q7⟩
  · refine (aheadL X N p s n ρ h2 hN h5 hs hw).mono (fun r ρ' hr => ⟨hr.1, ?_⟩)
    rw [hr.2, if_neg t0]
    have hok := own_k hw.2.2.1
    have hlg := lgb hw.2.2.1
    rcases t5 with ⟨k1, k2, k3, k4⟩ | ⟨k1, k2, rfl, k3, k4⟩ | ⟨k1, k2, rfl, rfl⟩
    · have hok2 : ((e8 (lgF (ρ 296) s) n : Nat) : Int) = OWi k := by
        rcases hok with ⟨g, -⟩ | ⟨-, -, g⟩
        · omega
        · rw [g, k3]
      have hbig : ((e8 (lgF (ρ 296) s) n : Nat) : Int) < 72057594037927936 := by
        rw [hok2]
        have : ∀ j : Nat, j < 13 → OWl.getD j 0 < 72057594037927936 := by decide
        unfold OWi
        exact this _ (by omega)
      have hn8 : n ≤ 7 := by
        refine Decidable.byContradiction (fun hc => ?_)
        have h1 : ∀ q, q < n → 256 ^ q ≤ e8 (lgF (ρ 296) s) (q + 1) := by
          intro q
          induction q with
          | zero => intro _; have := hlg 0 hw.1; simp only [e8]; omega
          | succ q ih =>
            intro hq
            have := ih (by omega)
            rw [e8, Nat.pow_succ]
            omega
        have h3 := h1 (n - 1) (by have := hw.1; omega)
        rw [show n - 1 + 1 = n by omega] at h3
        have h4 : 256 ^ 7 ≤ 256 ^ (n - 1) := Nat.pow_le_pow_right (by decide) (by omega)
        omega
      have hmo : mOwn ((e8 (lgF (ρ 296) s) n : Nat) : Int) := (mOwn_iff (by omega)).mpr ⟨k.toNat - 1, by omega, hok2⟩
      rw [Nat.min_eq_left (by omega), if_neg (fun q => q.2 ⟨by omega, hmo⟩)]
      obtain ⟨q1, q2, q3, q4, q5, q6, q7⟩ := hAH_v ρ s (s + n) 1 (-1) ((e8 (lgF (ρ 296) s) n : Nat) : Int) 0
      exact ⟨⟨q1, Or.inr (Or.inl ⟨⟨k1, k2⟩, q2, q3, by rw [q4]; exact hok2, by rw [q6, k4]⟩)⟩, q7⟩
    · have hne : ∀ j, j < 13 → ((e8 (lgF (ρ 296) s) n : Nat) : Int) ≠ OWl.getD j 0 := by
        rcases hok with ⟨-, g⟩ | ⟨g, -⟩
        · exact g
        · omega
      rw [Nat.min_eq_left (by omega), if_neg (fun q => by have := q.1; omega)]
      obtain ⟨q1, q2, q3, q4, q5, q6, q7⟩ := hAH_v ρ s (s + n) 1 (-1) ((e8 (lgF (ρ 296) s) n : Nat) : Int) 0
      refine ⟨⟨q1, Or.inr (Or.inr (Or.inl ⟨rfl, q2, q3, ?_, by rw [q4]; exact hne, by rw [q6, k4]⟩))⟩, q7⟩
      rw [q4, k3]
      exact ⟨n, lgF (ρ 296) s, ⟨hw.1, k2⟩, hlg, rfl, rfl⟩
    · have hne : ∀ j, j < 13 → ((e8 (lgF (ρ 296) s) n : Nat) : Int) ≠ OWl.getD j 0 := by
        rcases hok with ⟨-, g⟩ | ⟨g, -⟩
        · exact g
        · omega
      have hno : ¬ (n ≤ 8 ∧ mOwn ((e8 (lgF (ρ 296) s) (min n 8) : Nat) : Int)) := by
        rintro ⟨g1, g2⟩
        rw [Nat.min_eq_left g1] at g2
        obtain ⟨j, j1, j2⟩ := (mOwn_iff (e8_lt8 g1 hlg)).mp g2
        exact hne j j1 j2
      rw [if_pos ⟨k2, hno⟩]
      obtain ⟨q1, q2, q3, q4, q5, q6, q7⟩ := hAH_v ρ s (s + n) 1 ((s + 6 : Nat) : Int) ((e8 (lgF (ρ 296) s) (min n 8) : Nat) : Int) 0
      exact ⟨⟨q1, Or.inr (Or.inr (Or.inr (Or.inr (Or.inr ⟨rfl, by rw [q6, q2]; omega, Or.inl (by rw [q3]; omega)⟩))))⟩, q7⟩
  · rcases t5 with ⟨k1, k2, rfl, k3, k4⟩ | ⟨k1, rfl, rfl⟩
    · refine (aheadD X N p s n ρ h2 hN h5 hs d1 d2 d3 k2).mono (fun r ρ' hr => ⟨hr.1, ?_⟩)
      rw [hr.2, if_neg t0, if_neg (by omega), Nat.min_eq_left k1]
      obtain ⟨q1, q2, q3, q4, q5, q6, q7⟩ := hAH_v ρ s (s + n) 2 (-1) 0 ((nuF (ρ 296) s n : Nat) : Int)
      have hb := nu_lt d3
      have hb2 : 10 ^ n ≤ 10 ^ 4 := Nat.pow_le_pow_right (by decide) k1
      exact ⟨⟨q1, Or.inr (Or.inr (Or.inr (Or.inl ⟨rfl, q2, q3, by rw [q5, k3], by omega, by omega, by rw [q6, k4]⟩)))⟩, q7⟩
    · obtain ⟨m, n1, n2, n3⟩ := run_ex mDig (ρ 296) N (N - s) s (by omega)
      have hm : 5 ≤ m := by
        refine Decidable.byContradiction (fun hc => ?_)
        exact absurd (d3 m (by omega)) (n3 (by omega))
      refine (aheadD X N p s m ρ h2 hN h5 hs (by omega) n1 n2 n3).mono (fun r ρ' hr => ⟨hr.1, ?_⟩)
      rw [hr.2, if_neg t0, if_pos (by omega)]
      obtain ⟨q1, q2, q3, q4, q5, q6, q7⟩ := hAH_v ρ s (s + m) 2 ((s + 4 : Nat) : Int) 0 ((nuF (ρ 296) s (min m 4) : Nat) : Int)
      exact ⟨⟨q1, Or.inr (Or.inr (Or.inr (Or.inr (Or.inr ⟨rfl, by rw [q6, q2]; omega, Or.inl (by rw [q3]; omega)⟩))))⟩, q7⟩
