/-! The invariant behind an image. -/
theorem IV_o {σ τ ρ ρ' : AH} {l b np nt ns : Nat} {L : Nat → Nat} {C : Nat → Nat → Nat} {w tp u tl oc oc' : Nat} (h : IV σ ρ l b np nt ns L C w tp u tl oc) (f : ∀ K j, K ≠ 294 → ¬ (K = 0 ∧ j = 10) → τ K j = σ K j) (g : ∀ K j, K ≠ 338 → ¬ (K = 295 ∧ j = 64) → ρ' K j = ρ K j) (ho : IVo τ ρ' oc') : IV τ ρ' l b np nt ns L C w tp u tl oc' := by
  obtain ⟨⟨hl, i1, i2⟩, hL, hN, hP, hF, ⟨hA1, hA2, hA3⟩, ⟨t1, t2, t3, t4⟩, -, ⟨m1, m2, m3⟩, hH⟩ := h
  have np2 := hL.2.2.1.1
  refine ⟨⟨hl, ?_, ?_⟩, LT_mv hl hL (fun K i hK => f K i (by omega) (by omega)) (fun K i hK => g K i (by omega) (by omega)) (g _ _ (by decide) (by decide)), NT_mv hN (fun K i hK => f K i (by omega) (by omega)) (fun K i hK => g K i (by omega) (by omega)), ?_, ?_, ⟨?_, hA2, ?_⟩, ⟨?_, ?_, t3, ?_⟩, ho, ⟨?_, ?_, ?_⟩, ?_⟩
  · rw [f _ _ (by decide) (by decide)]; exact i1
  · rw [f _ _ (by decide) (by decide)]; exact i2
  · exact PT_mv hP np2 (fun K j hK => f K j (by omega) (by omega)) (g _ _ (by decide) (by decide)) (fun K p hK hp => g _ _ (by omega) (by omega))
  · unfold FL; rw [g _ _ (by decide) (by decide), g _ _ (by decide) (by decide), g _ _ (by decide) (by decide)]; exact hF
  · rw [f _ _ (by decide) (by decide), f _ _ (by decide) (by decide), g _ _ (by decide) (by decide), g _ _ (by decide) (by decide)]; exact hA1
  · intro k hk
    have e1 : (tp + 20 - w + k) % 20 < 20 := Nat.mod_lt _ (by decide)
    exact PT_mv (hA3 k hk) np2 (fun K j hK => f K j (by omega) (by omega)) (g _ _ (by decide) (by omega)) (fun K p hK hp => g _ _ (by omega) (by omega))
  · rw [f _ _ (by decide) (by decide)]; exact t1
  · rw [g _ _ (by decide) (by decide)]; exact t2
  · intro i hi; rw [f _ _ (by decide) (by omega), g _ _ (by decide) (by omega)]; exact t4 i hi
  · rw [f _ _ (by decide) (by decide), g _ _ (by decide) (by decide)]; exact m1
  · rw [f _ _ (by decide) (by decide), f _ _ (by decide) (by decide), g _ _ (by decide) (by decide), g _ _ (by decide) (by decide)]; exact m2
  · intro i hi; rw [f _ _ (by decide) (by omega), g _ _ (by decide) (by omega)]; exact m3 i hi
  · unfold HKo
    rw [f 289 0 (by decide) (by decide)]
    rcases hH with h0 | ⟨h0, hK⟩
    · exact Or.inl h0
    · exact Or.inr ⟨h0, HK_mv hl np2 hK (fun K j hK => f K j (by omega) (by omega))⟩
