/-! image: the whole. -/
theorem and255_b (x : Int) : 0 ≤ aAnd x 255 ∧ aAnd x 255 ≤ 255 := by
  have e : aAnd x 255 = ((Int32.ofInt x).toBitVec &&& (255#32)).toInt := rfl
  have h : ((Int32.ofInt x).toBitVec &&& (255#32)).toNat ≤ 255 := by
    rw [BitVec.toNat_and]; exact Nat.and_le_right
  rw [e, BitVec.toInt_eq_toNat_of_lt (by omega)]
  omega
theorem im_b (ρ : AH) : ∀ n j : Nat, j < 2 + 6 * n → 0 ≤ mImP (imR ρ) n 338 j ∧ mImP (imR ρ) n 338 j ≤ 255
  | 0, j, h => by
    show 0 ≤ mWr _ _ _ 338 j ∧ mWr _ _ _ 338 j ≤ 255
    rw [mWr_8, mWr_8]
    have : j = 0 ∨ j = 1 := by omega
    rcases this with rfl | rfl
    · rw [if_neg (by decide), if_pos rfl]; exact and255_b _
    · rw [if_pos (by decide)]; exact and255_b _
  | n + 1, j, h => by
    by_cases e : j < 2 + 6 * n
    · rw [im_old _ _ _ e]; exact im_b ρ n j e
    · obtain ⟨g0, g1, g2, g3, g4, g5⟩ := im_new (imR ρ) n
      have : j = 2 + 6 * n ∨ j = 2 + 6 * n + 1 ∨ j = 2 + 6 * n + 2 ∨ j = 2 + 6 * n + 3 ∨ j = 2 + 6 * n + 4 ∨ j = 2 + 6 * n + 5 := by omega
      rcases this with rfl | rfl | rfl | rfl | rfl | rfl
      · rw [g0]; exact and255_b _
      · rw [g1]; exact and255_b _
      · rw [g2]; exact and255_b _
      · rw [g3]; exact and255_b _
      · rw [g4]; exact and255_b _
      · rw [g5]; exact and255_b _
theorem im_end {σ τ ρ : AH} {l b np nt ns : Nat} {L : Nat → Nat} {C : Nat → Nat → Nat} {w tp u tl oc : Nat} (h : IV σ ρ l b np nt ns L C w tp u tl oc) (hI : IM σ τ (imR ρ) np) : IV (up2 (up2 τ 294 (2 + 6 * np) (sumI (τ 294) (2 + 6 * np))) 0 10 ((2 + 6 * np + 1 : Nat) : Int)) (mWr (mImP (imR ρ) np) (sumI (fun k => (mImP (imR ρ) np) 338 k) (2 + 6 * np)) (2 + 6 * np)) l b np nt ns L C w tp u tl (2 + 6 * np + 1) := by
  have np2 := h.2.1.2.2.1.1
  have e1 : sumI (τ 294) (2 + 6 * np) = sumI (fun k => (mImP (imR ρ) np) 338 k) (2 + 6 * np) := sumI_c _ (fun k hk => hI.2 k hk)
  obtain ⟨x, e2, hx⟩ := sumI_b (f := fun k => (mImP (imR ρ) np) 338 k) (2 + 6 * np) (fun k hk => im_b ρ np k hk)
  refine IV_o h (fun K j hK hj => ?_) (fun K j hK hj => ?_) ⟨up2_hit _ _ _ _, mWr_o _ _ _, by omega, fun j hj => ?_⟩
  · rw [up2_nq _ hj, up2_nq _ (by omega)]; exact hI.1 K j hK
  · rw [mWr_fr _ _ _ _ _ (by omega), mImP_fr _ _ _ _ (by omega)]
    show mWr _ _ _ K j = _
    rw [mWr_fr _ _ _ _ _ (by omega), mWr_fr _ _ _ _ _ (by omega), up2_nq _ hj]
  · rw [up2_nq _ (by omega), mWr_8, e1, e2]
    by_cases e : j = 2 + 6 * np
    · subst e; rw [up2_hit, if_pos rfl, and255 (by omega)]
    · rw [up2_nq _ (by omega), if_neg e]; exact hI.2 j (by omega)
