/-! The image. -/
def IM (σ τ R0 : AH) (n : Nat) : Prop := (∀ K j, K ≠ 294 → τ K j = σ K j) ∧ (∀ j : Nat, j < 2 + 6 * n → τ 294 j = mImP R0 n 338 j)
theorem im_step {σ τ R0 : AH} {n : Nat} {a0 a1 a2 a3 a4 a5 : Int} (h : IM σ τ R0 n) (h0 : a0 = aAnd (R0 317 n) 255) (h1 : a1 = aAnd (aAdd (R0 318 n) 1) 255) (h2 : a2 = aAnd (aAdd (R0 319 n) 1) 255) (h3 : a3 = aAnd (R0 320 n) 255) (h4 : a4 = aAnd (R0 321 n) 255) (h5 : a5 = aAnd (R0 322 n) 255) : IM σ (up2 (up2 (up2 (up2 (up2 (up2 τ 294 (2 + 6 * n) a0) 294 (2 + 6 * n + 1) a1) 294 (2 + 6 * n + 2) a2) 294 (2 + 6 * n + 3) a3) 294 (2 + 6 * n + 4) a4) 294 (2 + 6 * n + 5) a5) R0 (n + 1) := by
  obtain ⟨g0, g1, g2, g3, g4, g5⟩ := im_new R0 n
  refine ⟨fun K j hK => ?_, fun j hj => ?_⟩
  · rw [up2_nq _ (by omega), up2_nq _ (by omega), up2_nq _ (by omega), up2_nq _ (by omega), up2_nq _ (by omega), up2_nq _ (by omega)]; exact h.1 K j hK
  · by_cases e : j < 2 + 6 * n
    · rw [up2_nq _ (by omega), up2_nq _ (by omega), up2_nq _ (by omega), up2_nq _ (by omega), up2_nq _ (by omega), up2_nq _ (by omega), im_old _ _ _ e]; exact h.2 j e
    · have : j = 2 + 6 * n ∨ j = 2 + 6 * n + 1 ∨ j = 2 + 6 * n + 2 ∨ j = 2 + 6 * n + 3 ∨ j = 2 + 6 * n + 4 ∨ j = 2 + 6 * n + 5 := by omega
      rcases this with rfl | rfl | rfl | rfl | rfl | rfl
      · rw [up2_nq _ (by omega), up2_nq _ (by omega), up2_nq _ (by omega), up2_nq _ (by omega), up2_nq _ (by omega), up2_hit, g0, h0]
      · rw [up2_nq _ (by omega), up2_nq _ (by omega), up2_nq _ (by omega), up2_nq _ (by omega), up2_hit, g1, h1]
      · rw [up2_nq _ (by omega), up2_nq _ (by omega), up2_nq _ (by omega), up2_hit, g2, h2]
      · rw [up2_nq _ (by omega), up2_nq _ (by omega), up2_hit, g3, h3]
      · rw [up2_nq _ (by omega), up2_hit, g4, h4]
      · rw [up2_hit, g5, h5]
abbrev imR (ρ : AH) : AH := mWr (mWr (up2 ρ 295 64 0) (aShr (ρ 316 0) 8) 0) (ρ 316 0) (0 + 1)
theorem imR_fr (ρ : AH) (c j : Nat) (h : c ≠ 338 ∧ c ≠ 295) : imR ρ c j = ρ c j := by
  show mWr _ _ _ c j = _
  rw [mWr_fr _ _ _ _ _ (by omega), mWr_fr _ _ _ _ _ (by omega), up2_nq _ (by omega)]
theorem im_vals {σ ρ : AH} {np ns : Nat} (hPT : PT σ ρ 36 0 np ns) (hns : ns ≤ 14) {n : Nat} (hn : n < np) : σ 37 n = aAnd (imR ρ 317 n) 255 ∧ aAdd (σ 38 n) 1 = aAnd (aAdd (imR ρ 318 n) 1) 255 ∧ aAdd (σ 39 n) 1 = aAnd (aAdd (imR ρ 319 n) 1) 255 ∧ σ 40 n = aAnd (imR ρ 320 n) 255 ∧ σ 41 n = aAnd (imR ρ 321 n) 255 ∧ (if zH ρ 0 n = true then (1 : Int) else 0) = aAnd (imR ρ 322 n) 255 := by
  obtain ⟨⟨-, b2⟩, -, -, c⟩ := hPT
  obtain ⟨⟨s1, q1, q2, q3⟩, q4, ⟨s2, q5, q6, q7⟩, ⟨s3, q8, q9, q10⟩⟩ := b2 n hn
  obtain ⟨r1, r2, r3, r4, r5⟩ := c n hn
  have ez : 10 * 0 + n = n := by omega
  rw [ez] at q3 q4 q7 q10 r1 r2 r3 r4 r5
  rw [imR_fr _ _ _ (by decide), imR_fr _ _ _ (by decide), imR_fr _ _ _ (by decide), imR_fr _ _ _ (by decide), imR_fr _ _ _ (by decide), imR_fr _ _ _ (by decide)]
  have q2' : σ 38 n = (s1 : Int) := q2
  have q4' : σ 39 n = ρ 319 n := q4
  have q6' : σ 40 n = (s2 : Int) := q6
  have q9' : σ 41 n = (s3 : Int) := q9
  have r1' : σ 37 n = ρ 317 n := r1
  refine ⟨?_, ?_, ?_, ?_, ?_, ?_⟩
  · rw [r1', and255 (by omega)]
  · rw [q2', q3, aAdd_of (by omega) (by omega), and255 (by omega)]
  · have : -1 ≤ ρ 319 n ∧ ρ 319 n < 14 := by
      rcases r4 with r | ⟨s, r6, r⟩ <;> omega
    rw [q4', aAdd_of (by omega) (by omega), and255 (by omega)]
  · rw [q6', q7, and255 (by omega)]
  · rw [q9', q10, and255 (by omega)]
  · show (if decide (ρ 322 (10 * 0 + n) = 1) = true then (1 : Int) else 0) = _
    rw [ez]
    rcases r5 with r | r <;> rw [r] <;> decide
