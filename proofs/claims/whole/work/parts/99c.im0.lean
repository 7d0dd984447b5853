/-! The check's bounds, and the image's beginning. -/
theorem sumI_c {f g : Nat → Int} : ∀ n : Nat, (∀ k, k < n → f k = g k) → sumI f n = sumI g n
  | 0, _ => rfl
  | n + 1, h => by rw [sumI, sumI, sumI_c n (fun k hk => h k (by omega)), h n (by omega)]
theorem sumI_b {f : Nat → Int} : ∀ n : Nat, (∀ k, k < n → 0 ≤ f k ∧ f k ≤ 255) → ∃ x : Nat, sumI f n = (x : Int) ∧ x < 249
  | 0, _ => ⟨67, rfl, by decide⟩
  | n + 1, h => by
    obtain ⟨x, e, hx⟩ := sumI_b n (fun k hk => h k (by omega))
    have hb := h n (by omega)
    have e2 : f n = (((f n).toNat : Nat) : Int) := by omega
    have e3 : aAdd (aMul 5 (x : Int)) (f n) = ((5 * x + (f n).toNat : Nat) : Int) := by
      rw [aMul_of (by omega) (by omega), aAdd_of (by omega) (by omega)]; omega
    refine ⟨(5 * x + (f n).toNat) % 249, ?_, Nat.mod_lt _ (by decide)⟩
    rw [sumI, e, e3]
    exact aRem_n (d := 249) (by omega) (by decide) (by decide)
theorem yr_8a : ∀ a : Nat, a < 40 → ∀ r : Nat, r < 256 → aAnd (aShr ((256 * a + r : Nat) : Int) 8) 255 = aShr ((256 * a + r : Nat) : Int) 8 := by decide +kernel
theorem yr_8 (y : Nat) (h : y < 10000) : aAnd (aShr (y : Int) 8) 255 = aShr (y : Int) 8 := by
  have := yr_8a (y / 256) (by omega) (y % 256) (Nat.mod_lt _ (by decide))
  rw [show 256 * (y / 256) + y % 256 = y by omega] at this
  exact this
theorem im_0 {σ ρ : AH} (hy : 0 ≤ ρ 316 0 ∧ ρ 316 0 ≤ 9999) : IM σ (up2 (up2 σ 294 0 (aShr (ρ 316 0) 8)) 294 1 (aAnd (ρ 316 0) 255)) (imR ρ) 0 := by
  refine ⟨fun K j hK => ?_, fun j hj => ?_⟩
  · rw [up2_nq _ (by omega), up2_nq _ (by omega)]
  · have e : mImP (imR ρ) 0 338 j = imR ρ 338 j := rfl
    have hyr := yr_8 (ρ 316 0).toNat (by omega)
    rw [show (((ρ 316 0).toNat : Nat) : Int) = ρ 316 0 by omega] at hyr
    rw [e]
    show _ = mWr _ _ _ 338 j
    rw [mWr_8, mWr_8]
    have : j = 0 ∨ j = 1 := by omega
    rcases this with rfl | rfl
    · rw [up2_nq _ (by omega), up2_hit, if_neg (by decide), if_pos rfl, hyr]
    · rw [up2_hit, if_pos (by decide)]
