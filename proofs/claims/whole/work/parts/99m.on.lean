/-! on: what an image must be. -/
abbrev pOK (a0 a1 a2 a3 a4 a5 ns : Nat) (pr : Int) : Prop := a0 ≤ 99 ∧ (1 ≤ a1 ∧ a1 ≤ ns) ∧ a2 ≤ ns ∧ a2 ≠ a1 ∧ a3 < ns ∧ a4 < ns ∧ (a5 = 0 ∨ (0 < pr ∧ a5 ≤ 1))
/-- the six bytes of one -/
def B6 (f : Nat → Int) (a0 a1 a2 a3 a4 a5 k : Nat) : Prop := (f k = (a0 : Int) ∧ f (k + 1) = (a1 : Int) ∧ f (k + 2) = (a2 : Int) ∧ f (k + 3) = (a3 : Int) ∧ f (k + 4) = (a4 : Int) ∧ f (k + 5) = (a5 : Int)) ∧ (a0 ≤ 255 ∧ a1 ≤ 255 ∧ a2 ≤ 255 ∧ a3 ≤ 255 ∧ a4 ≤ 255 ∧ a5 ≤ 255)
theorem B6_ex {f : Nat → Int} (k : Nat) (h : ∀ i, i < 6 → 0 ≤ f (k + i) ∧ f (k + i) ≤ 255) : ∃ a0 a1 a2 a3 a4 a5 : Nat, B6 f a0 a1 a2 a3 a4 a5 k := by
  have h0 := h 0 (by decide)
  have h1 := h 1 (by decide)
  have h2 := h 2 (by decide)
  have h3 := h 3 (by decide)
  have h4 := h 4 (by decide)
  have h5 := h 5 (by decide)
  rw [Nat.add_zero] at h0
  refine ⟨(f k).toNat, (f (k + 1)).toNat, (f (k + 2)).toNat, (f (k + 3)).toNat, (f (k + 4)).toNat, (f (k + 5)).toNat, ⟨?_, ?_, ?_, ?_, ?_, ?_⟩, ?_, ?_, ?_, ?_, ?_, ?_⟩ <;> omega
theorem B6_c {f g : Nat → Int} {a0 a1 a2 a3 a4 a5 k : Nat} (h : B6 f a0 a1 a2 a3 a4 a5 k) (e : ∀ i, i < 6 → g (k + i) = f (k + i)) : B6 g a0 a1 a2 a3 a4 a5 k := by
  have e0 := e 0 (by decide)
  rw [Nat.add_zero] at e0
  refine ⟨⟨?_, ?_, ?_, ?_, ?_, ?_⟩, h.2⟩
  · rw [e0]; exact h.1.1
  · rw [e 1 (by decide)]; exact h.1.2.1
  · rw [e 2 (by decide)]; exact h.1.2.2.1
  · rw [e 3 (by decide)]; exact h.1.2.2.2.1
  · rw [e 4 (by decide)]; exact h.1.2.2.2.2.1
  · rw [e 5 (by decide)]; exact h.1.2.2.2.2.2
theorem pOK_iff {ρ : AH} {b ns p a0 a1 a2 a3 a4 a5 : Nat} (h : B6 (ρ 296) a0 a1 a2 a3 a4 a5 (2 + (6 * p))) : mPOn ρ b ns p ↔ pOK a0 a1 a2 a3 a4 a5 ns (ρ 314 (10 * b + p)) := by
  obtain ⟨⟨e0, e1, e2, e3, e4, e5⟩, b0, b1, b2, b3, b4, b5⟩ := h
  unfold mPOn pOK
  rw [e0, e1, e2, e3, e4, e5, aSub_of (by omega) (by omega)]
  omega
theorem yr_eq {a b : Nat} (ha : a ≤ 255) (hb : b ≤ 255) : aOr (aShl (a : Int) 8) (b : Int) = ((256 * a + b : Nat) : Int) ∧ aAdd (aMul (a : Int) 256) (b : Int) = ((256 * a + b : Nat) : Int) := by
  have e1 : ∀ x : Nat, x < 256 → aShl (x : Int) 8 = ((2 ^ 8 * x : Nat) : Int) := by decide +kernel
  constructor
  · rw [e1 a (by omega), aOr_n (by omega) (by omega), ← Nat.two_pow_add_eq_or_of_lt (i := 8) (by omega)]
  · rw [aMul_of (by omega) (by omega), aAdd_of (by omega) (by omega)]; omega
theorem and01 {a b : Prop} [Decidable a] [Decidable b] [Decidable (a ∧ b)] : aAnd (if a then 1 else 0) (if b then 1 else 0) = if a ∧ b then 1 else 0 := by
  by_cases h : a <;> by_cases h2 : b <;> simp [h, h2] <;> decide
/-- what is taken of an image, of the first n -/
def TK (σ τ : AH) (f : Nat → Int) (y : Int) (n : Nat) : Prop := (∀ K j, ¬ (36 ≤ K ∧ K ≤ 41) → τ K j = σ K j) ∧ (τ 36 0 = σ 36 0 ∧ τ 36 1 = y ∧ τ 36 2 = ((bs (fun q => decide (f (2 + (6 * q) + 5) = 1)) n : Nat) : Int)) ∧ (∀ q, q < n → τ 37 q = f (2 + (6 * q)) ∧ τ 38 q = aSub (f (2 + (6 * q) + 1)) 1 ∧ τ 39 q = aSub (f (2 + (6 * q) + 2)) 1 ∧ τ 40 q = f (2 + (6 * q) + 3) ∧ τ 41 q = f (2 + (6 * q) + 4))
theorem TK_s {σ τ : AH} {f : Nat → Int} {y : Int} {n : Nat} (h : TK σ τ f y n) (hn : n < 10) (h5 : f (2 + (6 * n) + 5) = 0 ∨ f (2 + (6 * n) + 5) = 1) : TK σ (up2 (up2 (up2 (up2 (up2 (up2 τ 37 n (f (2 + (6 * n)))) 38 n (aSub (f ((2 + (6 * n)) + 1)) 1)) 39 n (aSub (f ((2 + (6 * n)) + 2)) 1)) 40 n (f ((2 + (6 * n)) + 3))) 41 n (f ((2 + (6 * n)) + 4))) 36 2 (aOr ((bs (fun q => decide (f (2 + (6 * q) + 5) = 1)) n : Nat) : Int) (aShl (f ((2 + (6 * n)) + 5)) ((n : Nat) : Int)))) f y (n + 1) := by
  obtain ⟨h1, ⟨h2, h3, h4⟩, h6⟩ := h
  refine ⟨fun K j hK => ?_, ⟨?_, ?_, ?_⟩, fun q hq => ?_⟩
  · rw [up2_nq _ (by omega), up2_nq _ (by omega), up2_nq _ (by omega), up2_nq _ (by omega), up2_nq _ (by omega), up2_nq _ (by omega)]; exact h1 K j hK
  · rw [up2_nq _ (by omega), up2_nq _ (by omega), up2_nq _ (by omega), up2_nq _ (by omega), up2_nq _ (by omega), up2_nq _ (by omega)]; exact h2
  · rw [up2_nq _ (by omega), up2_nq _ (by omega), up2_nq _ (by omega), up2_nq _ (by omega), up2_nq _ (by omega), up2_nq _ (by omega)]; exact h3
  · rw [up2_hit]
    rcases h5 with e | e
    · rw [e, show aShl 0 ((n : Nat) : Int) = 0 from (by have : ∀ k : Nat, k < 10 → aShl 0 ((k : Nat) : Int) = 0 := (by decide +kernel); exact this n hn)]
      exact bs_z (decide_eq_false (by rw [e]; decide)) (by omega)
    · rw [e]
      exact bs_t (decide_eq_true e) (by omega)
  · by_cases e : q = n
    · subst e
      refine ⟨?_, ?_, ?_, ?_, ?_⟩
      · rw [up2_nq _ (by omega), up2_nq _ (by omega), up2_nq _ (by omega), up2_nq _ (by omega), up2_nq _ (by omega), up2_hit]
      · rw [up2_nq _ (by omega), up2_nq _ (by omega), up2_nq _ (by omega), up2_nq _ (by omega), up2_hit]
      · rw [up2_nq _ (by omega), up2_nq _ (by omega), up2_nq _ (by omega), up2_hit]
      · rw [up2_nq _ (by omega), up2_nq _ (by omega), up2_hit]
      · rw [up2_nq _ (by omega), up2_hit]
    · have h7 := h6 q (by omega)
      refine ⟨?_, ?_, ?_, ?_, ?_⟩
      · rw [up2_nq _ (by omega), up2_nq _ (by omega), up2_nq _ (by omega), up2_nq _ (by omega), up2_nq _ (by omega), up2_nq _ (by omega)]; exact h7.1
      · rw [up2_nq _ (by omega), up2_nq _ (by omega), up2_nq _ (by omega), up2_nq _ (by omega), up2_nq _ (by omega), up2_nq _ (by omega)]; exact h7.2.1
      · rw [up2_nq _ (by omega), up2_nq _ (by omega), up2_nq _ (by omega), up2_nq _ (by omega), up2_nq _ (by omega), up2_nq _ (by omega)]; exact h7.2.2.1
      · rw [up2_nq _ (by omega), up2_nq _ (by omega), up2_nq _ (by omega), up2_nq _ (by omega), up2_nq _ (by omega), up2_nq _ (by omega)]; exact h7.2.2.2.1
      · rw [up2_nq _ (by omega), up2_nq _ (by omega), up2_nq _ (by omega), up2_nq _ (by omega), up2_nq _ (by omega), up2_nq _ (by omega)]; exact h7.2.2.2.2
theorem mOnP_p (ρ : AH) : ∀ n : Nat, (∀ q, q < n → mOnP ρ n 317 q = ρ 296 (2 + (6 * q)) ∧ mOnP ρ n 318 q = aSub (ρ 296 (2 + (6 * q) + 1)) 1 ∧ mOnP ρ n 319 q = aSub (ρ 296 (2 + (6 * q) + 2)) 1 ∧ mOnP ρ n 320 q = ρ 296 (2 + (6 * q) + 3) ∧ mOnP ρ n 321 q = ρ 296 (2 + (6 * q) + 4) ∧ mOnP ρ n 322 q = ρ 296 (2 + (6 * q) + 5)) ∧ (∀ K j, ¬ (317 ≤ K ∧ K ≤ 322 ∧ j < n) → mOnP ρ n K j = ρ K j)
  | 0 => ⟨fun q hq => by omega, fun K j _ => rfl⟩
  | n + 1 => by
    obtain ⟨h1, h2⟩ := mOnP_p ρ n
    refine ⟨fun q hq => ?_, fun K j hK => ?_⟩
    · rw [mOnP]
      by_cases e : q = n
      · subst e
        refine ⟨?_, ?_, ?_, ?_, ?_, ?_⟩
        · rw [up2_nq _ (by omega), up2_nq _ (by omega), up2_nq _ (by omega), up2_nq _ (by omega), up2_nq _ (by omega), up2_hit]
        · rw [up2_nq _ (by omega), up2_nq _ (by omega), up2_nq _ (by omega), up2_nq _ (by omega), up2_hit]
        · rw [up2_nq _ (by omega), up2_nq _ (by omega), up2_nq _ (by omega), up2_hit]
        · rw [up2_nq _ (by omega), up2_nq _ (by omega), up2_hit]
        · rw [up2_nq _ (by omega), up2_hit]
        · rw [up2_hit]
      · have h7 := h1 q (by omega)
        refine ⟨?_, ?_, ?_, ?_, ?_, ?_⟩
        · rw [up2_nq _ (by omega), up2_nq _ (by omega), up2_nq _ (by omega), up2_nq _ (by omega), up2_nq _ (by omega), up2_nq _ (by omega)]; exact h7.1
        · rw [up2_nq _ (by omega), up2_nq _ (by omega), up2_nq _ (by omega), up2_nq _ (by omega), up2_nq _ (by omega), up2_nq _ (by omega)]; exact h7.2.1
        · rw [up2_nq _ (by omega), up2_nq _ (by omega), up2_nq _ (by omega), up2_nq _ (by omega), up2_nq _ (by omega), up2_nq _ (by omega)]; exact h7.2.2.1
        · rw [up2_nq _ (by omega), up2_nq _ (by omega), up2_nq _ (by omega), up2_nq _ (by omega), up2_nq _ (by omega), up2_nq _ (by omega)]; exact h7.2.2.2.1
        · rw [up2_nq _ (by omega), up2_nq _ (by omega), up2_nq _ (by omega), up2_nq _ (by omega), up2_nq _ (by omega), up2_nq _ (by omega)]; exact h7.2.2.2.2.1
        · rw [up2_nq _ (by omega), up2_nq _ (by omega), up2_nq _ (by omega), up2_nq _ (by omega), up2_nq _ (by omega), up2_nq _ (by omega)]; exact h7.2.2.2.2.2
    · rw [mOnP, up2_nq _ (by omega), up2_nq _ (by omega), up2_nq _ (by omega), up2_nq _ (by omega), up2_nq _ (by omega), up2_nq _ (by omega)]; exact h2 K j (by omega)
/-- the acts are forgotten -/
theorem IV_w0 {σ ρ : AH} {l b np nt ns : Nat} {L : Nat → Nat} {C : Nat → Nat → Nat} {w tp u tl oc : Nat} (h : IV σ ρ l b np nt ns L C w tp u tl oc) : IV (up2 (up2 σ 48 0 0) 289 0 0) (up2 ρ 295 42 0) l b np nt ns L C 0 tp u tl oc := by
  obtain ⟨⟨hl, i1, i2⟩, hL, hN, hP, hF, ⟨hA1, hA2, hA3⟩, ⟨t1, t2, t3, t4⟩, ⟨o1, o2, o3, o4⟩, ⟨m1, m2, m3⟩, hH⟩ := h
  have np2 := hL.2.2.1.1
  have f : ∀ K j, ¬ (K = 48 ∧ j = 0) → ¬ (K = 289 ∧ j = 0) → up2 (up2 σ 48 0 0) 289 0 0 K j = σ K j := fun K j a c => by rw [up2_nq _ c, up2_nq _ a]
  have g : ∀ K j, ¬ (K = 295 ∧ j = 42) → up2 ρ 295 42 0 K j = ρ K j := fun K j a => up2_nq _ a
  refine ⟨⟨hl, ?_, ?_⟩, LT_mv hl hL (fun K j hK => f K j (by omega) (by omega)) (fun K j hK => g K j (by omega)) (g _ _ (by omega)), NT_mv hN (fun K j hK => f K j (by omega) (by omega)) (fun K j hK => g K j (by omega)), ?_, ?_, ⟨⟨?_, ?_, ?_, ?_⟩, ⟨by omega, hA2.2⟩, ?_⟩, ⟨?_, ?_, t3, ?_⟩, ⟨?_, ?_, o3, ?_⟩, ⟨?_, ?_, ?_⟩, ?_⟩
  · rw [f _ _ (by omega) (by omega)]; exact i1
  · rw [f _ _ (by omega) (by omega)]; exact i2
  · exact PT_mv hP np2 (fun K j hK => f K j (by omega) (by omega)) (g _ _ (by omega)) (fun K p hK hp => g _ _ (by omega))
  · unfold FL; rw [g _ _ (by omega), g _ _ (by omega), g _ _ (by omega)]; exact hF
  · rw [up2_nq _ (by omega), up2_hit]; rfl
  · rw [f _ _ (by omega) (by omega)]; exact hA1.2.1
  · rw [up2_hit]; rfl
  · rw [g _ _ (by omega)]; exact hA1.2.2.2
  · intro k hk; omega
  · rw [f _ _ (by omega) (by omega)]; exact t1
  · rw [g _ _ (by omega)]; exact t2
  · intro j hj; rw [f _ _ (by omega) (by omega), g _ _ (by omega)]; exact t4 j hj
  · rw [f _ _ (by omega) (by omega)]; exact o1
  · rw [g _ _ (by omega)]; exact o2
  · intro j hj; rw [f _ _ (by omega) (by omega), g _ _ (by omega)]; exact o4 j hj
  · rw [f _ _ (by omega) (by omega), g _ _ (by omega)]; exact m1
  · rw [f _ _ (by omega) (by omega), f _ _ (by omega) (by omega), g _ _ (by omega), g _ _ (by omega)]; exact m2
  · intro j hj; rw [f _ _ (by omega) (by omega), g _ _ (by omega)]; exact m3 j hj
  · exact Or.inl (by rw [up2_hit])
theorem on_end {σ υ ρ : AH} {l b np nt ns : Nat} {L : Nat → Nat} {C : Nat → Nat → Nat} {w tp u tl oc : Nat} (h : IV σ ρ l b np nt ns L C w tp u tl oc) (htl : tl = 3 + 6 * np) {y : Nat} (hy : y ≤ 9999) (hy2 : aOr (aShl (ρ 296 0) 8) (ρ 296 1) = (y : Int)) (hall : ∀ p, p < np → mPOn ρ b ns p) (hT : TK σ υ (ρ 296) (y : Int) np) : IV (up2 (up2 (up2 υ 48 0 0) 289 0 0) 1 1 0) (up2 (mOnP (up2 (up2 ρ 295 1 0) 316 0 (aOr (aShl (ρ 296 0) 8) (ρ 296 1))) np) 295 42 0) l b np nt ns L C 0 tp u 0 oc := by
  have hI := IV_w0 (IV_end h 0 (by omega))
  have np2 := h.2.1.2.2.1.1
  have hPT := h.2.2.2.1
  have hTp := h.2.2.2.2.2.2.1
  obtain ⟨P1, P2⟩ := mOnP_p (up2 (up2 ρ 295 1 0) 316 0 (aOr (aShl (ρ 296 0) 8) (ρ 296 1))) np
  have T6 : ∀ j, (up2 (up2 ρ 295 1 0) 316 0 (aOr (aShl (ρ 296 0) 8) (ρ 296 1))) 296 j = ρ 296 j := fun j => by rw [up2_far _ _ _ _ (by decide), up2_far _ _ _ _ (by decide)]
  have c2 := h.2.1.2.2.1.2.2.1
  refine IV_n hI (fun K j hK hj => ?_) (by rw [up2_hit]) ⟨fun K j hK => ?_, fun j hj => ?_, fun j hj => ?_, fun K j hK hj => ?_⟩ ?_ ?_
  · by_cases e : K = 1 ∧ j = 1
    · rw [e.1, e.2, up2_hit, up2_nq _ (by omega), up2_nq _ (by omega), up2_hit]; rfl
    · rw [up2_nq _ e]
      by_cases e2 : K = 289 ∧ j = 0
      · rw [e2.1, e2.2, up2_hit, up2_hit]
      · rw [up2_nq _ e2, up2_nq _ e2]
        by_cases e3 : K = 48 ∧ j = 0
        · rw [e3.1, e3.2, up2_hit, up2_hit]
        · rw [up2_nq _ e3, up2_nq _ e3, up2_nq _ e]; exact hT.1 K j (by omega)
  · rw [up2_nq _ (by omega), P2 K j (by omega), up2_nq _ (by omega), up2_nq _ (by omega), up2_nq _ (by omega), up2_nq _ (by omega)]
  · by_cases e : j = 42
    · subst e; rw [up2_hit, up2_hit]
    · rw [up2_nq _ (by omega), P2 _ j (by omega), up2_far _ _ _ _ (show 295 ≠ 316 by decide)]
      exact (up2_nq (up2 ρ 295 1 ((0 : Nat) : Int)) (k := 295) (k' := 295) (j := 42) (j' := j) (x := 0) (by omega)).symm
  · rw [up2_nq _ (by omega), P2 _ j (by omega), up2_nq _ (by omega), up2_nq _ (by omega), up2_nq _ (by omega), up2_nq _ (by omega)]
  · rw [up2_nq _ (by omega), P2 K j (by omega), up2_nq _ (by omega), up2_nq _ (by omega), up2_nq _ (by omega), up2_nq _ (by omega)]
  · have cS : ∀ K j, (36 ≤ K ∧ K ≤ 41) → (up2 (up2 (up2 υ 48 0 0) 289 0 0) 1 1 0) K j = υ K j := fun K j hK => by rw [up2_nq _ (by omega), up2_nq _ (by omega), up2_nq _ (by omega)]
    have cR : ∀ K j, (316 ≤ K ∧ K ≤ 322) → (up2 (mOnP (up2 (up2 ρ 295 1 0) 316 0 (aOr (aShl (ρ 296 0) 8) (ρ 296 1))) np) 295 42 0) K j = mOnP (up2 (up2 ρ 295 1 0) 316 0 (aOr (aShl (ρ 296 0) 8) (ρ 296 1))) np K j := fun K j hK => up2_nq _ (by omega)
    obtain ⟨K1, ⟨K2, K3, K4⟩, K5⟩ := hT
    have bytes : ∀ p, p < np → ∃ a0 a1 a2 a3 a4 a5 : Nat, B6 (ρ 296) a0 a1 a2 a3 a4 a5 (2 + (6 * p)) := fun p hp => B6_ex _ (fun i hi => (hTp.2.2.2 (2 + (6 * p) + i) (by omega)).2)
    refine ⟨⟨?_, fun p hp => ?_⟩, ⟨?_, ?_, ?_⟩, ?_, fun p hp => ?_⟩
    · rw [cS _ _ (by omega), K2]; exact hPT.1.1
    · obtain ⟨a0, a1, a2, a3, a4, a5, hB⟩ := bytes p hp
      have hk := (pOK_iff hB).mp (hall p hp)
      unfold pOK at hk
      obtain ⟨⟨q0, q1, q2, q3, q4, q5⟩, q6⟩ := hB
      obtain ⟨k0, k1, k2, k3, k4⟩ := K5 p hp
      obtain ⟨m0, m1, m2, m3, m4, m5⟩ := P1 p hp
      simp only [T6] at m0 m1 m2 m3 m4 m5
      rw [cS _ _ (by omega), cS _ _ (by omega), cS _ _ (by omega), cS _ _ (by omega), cR _ _ (by omega), cR _ _ (by omega), cR _ _ (by omega), cR _ _ (by omega), show 10 * 0 + p = p by omega, k1, k2, k3, k4, m1, m2, m3, m4, q1, q2, q3, q4, aSub_of (by omega) (by omega)]
      exact ⟨⟨a1 - 1, by omega, by omega, by omega⟩, rfl, ⟨a3, by omega, rfl, rfl⟩, ⟨a4, by omega, rfl, rfl⟩⟩
    · rw [cS _ _ (by omega), cR _ _ (by omega), P2 _ _ (by omega), up2_hit, K3, hy2]
    · rw [cR _ _ (by omega), P2 _ _ (by omega), up2_hit, hy2]; omega
    · rw [cR _ _ (by omega), P2 _ _ (by omega), up2_hit, hy2]; omega
    · rw [cS _ _ (by omega), K4]
      refine congrArg (fun x : Nat => (x : Int)) (bs_c (fun p hp => ?_))
      obtain ⟨m0, m1, m2, m3, m4, m5⟩ := P1 p hp
      simp only [T6] at m5
      show _ = decide _
      rw [cR _ _ (by omega), show 10 * 0 + p = p by omega, m5]
    · obtain ⟨a0, a1, a2, a3, a4, a5, hB⟩ := bytes p hp
      have hk := (pOK_iff hB).mp (hall p hp)
      unfold pOK at hk
      obtain ⟨⟨q0, q1, q2, q3, q4, q5⟩, q6⟩ := hB
      obtain ⟨k0, k1, k2, k3, k4⟩ := K5 p hp
      obtain ⟨m0, m1, m2, m3, m4, m5⟩ := P1 p hp
      simp only [T6] at m0 m1 m2 m3 m4 m5
      rw [cS _ _ (by omega), cR _ _ (by omega), cR _ _ (by omega), cR _ _ (by omega), show 10 * 0 + p = p by omega, k0, m0, m2, m5, q0, q2, q5, aSub_of (by omega) (by omega)]
      refine ⟨rfl, by omega, by omega, ?_, by omega⟩
      by_cases e : a2 = 0
      · left; omega
      · right; exact ⟨a2 - 1, by omega, by omega⟩
  · rw [up2_nq _ (by omega), up2_nq _ (by omega), up2_nq _ (by omega), hT.1 _ _ (by omega), up2_nq _ (by omega), P2 _ _ (by omega), up2_nq _ (by omega), up2_nq _ (by omega)]
    exact h.2.2.2.2.2.2.2.2.1.1
