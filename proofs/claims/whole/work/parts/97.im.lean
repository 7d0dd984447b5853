/-! What an image holds. -/
theorem and255n : ∀ x : Nat, x < 256 → aAnd (x : Int) 255 = (x : Int) := by decide +kernel
theorem and255 {v : Int} (h : 0 ≤ v ∧ v ≤ 255) : aAnd v 255 = v := by
  have := and255n v.toNat (by omega)
  rw [show ((v.toNat : Nat) : Int) = v by omega] at this
  exact this
theorem mWr_8 (σ : AH) (v : Int) (oc j : Nat) : mWr σ v oc 338 j = if j = oc then aAnd v 255 else σ 338 j := by
  unfold mWr
  rw [up2_nq _ (by omega)]
  by_cases e : j = oc
  · subst e; rw [up2_hit, if_pos rfl]
  · rw [up2_nq _ (by omega), if_neg e]
theorem im_old (σ : AH) (n j : Nat) (h : j < 2 + 6 * n) : mImP σ (n + 1) 338 j = mImP σ n 338 j := by
  rw [mImP, mWr_8, if_neg (by omega), mWr_8, if_neg (by omega), mWr_8, if_neg (by omega), mWr_8, if_neg (by omega), mWr_8, if_neg (by omega), mWr_8, if_neg (by omega)]
theorem im_new (σ : AH) (n : Nat) : mImP σ (n + 1) 338 (2 + 6 * n) = aAnd (σ 317 n) 255 ∧ mImP σ (n + 1) 338 (2 + 6 * n + 1) = aAnd (aAdd (σ 318 n) 1) 255 ∧ mImP σ (n + 1) 338 (2 + 6 * n + 2) = aAnd (aAdd (σ 319 n) 1) 255 ∧ mImP σ (n + 1) 338 (2 + 6 * n + 3) = aAnd (σ 320 n) 255 ∧ mImP σ (n + 1) 338 (2 + 6 * n + 4) = aAnd (σ 321 n) 255 ∧ mImP σ (n + 1) 338 (2 + 6 * n + 5) = aAnd (σ 322 n) 255 := by
  refine ⟨?_, ?_, ?_, ?_, ?_, ?_⟩
  · rw [mImP, mWr_8, if_neg (by omega), mWr_8, if_neg (by omega), mWr_8, if_neg (by omega), mWr_8, if_neg (by omega), mWr_8, if_neg (by omega), mWr_8, if_pos rfl]
  · rw [mImP, mWr_8, if_neg (by omega), mWr_8, if_neg (by omega), mWr_8, if_neg (by omega), mWr_8, if_neg (by omega), mWr_8, if_pos rfl]
  · rw [mImP, mWr_8, if_neg (by omega), mWr_8, if_neg (by omega), mWr_8, if_neg (by omega), mWr_8, if_pos (by omega)]
  · rw [mImP, mWr_8, if_neg (by omega), mWr_8, if_neg (by omega), mWr_8, if_pos (by omega)]
  · rw [mImP, mWr_8, if_neg (by omega), mWr_8, if_pos (by omega)]
  · rw [mImP, mWr_8, if_pos (by omega)]
