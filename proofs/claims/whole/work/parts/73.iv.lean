/-! What holds stays: refusals, acts, other people. -/
def EX (σ ρ : AH) : Prop := ∃ l b np nt ns L C w tp u tl oc, IV σ ρ l b np nt ns L C w tp u tl oc
theorem IV_ref {σ ρ : AH} {l b np nt ns : Nat} {L : Nat → Nat} {C : Nat → Nat → Nat} {w tp u tl oc : Nat} (h : IV σ ρ l b np nt ns L C w tp u tl oc) (j : Nat) (hj : j < 6) : IV (up2 σ 293 j (aAdd (σ 293 j) 1)) (up2 ρ 315 j (aAdd (ρ 315 j) 1)) l b np nt ns L C w tp u tl oc := by
  obtain ⟨⟨hl, i1, i2⟩, hL, hN, hP, hF, ⟨hA1, hA2, hA3⟩, ⟨t1, t2, t3, t4⟩, ⟨o1, o2, o3, o4⟩, ⟨m1, m2, m3⟩, hH⟩ := h
  have np2 := hL.2.2.1.1
  have f : ∀ K i, K ≠ 293 → up2 σ 293 j (aAdd (σ 293 j) 1) K i = σ K i := fun K i hK => up2_far _ _ _ _ hK
  have g : ∀ K i, K ≠ 315 → up2 ρ 315 j (aAdd (ρ 315 j) 1) K i = ρ K i := fun K i hK => up2_far _ _ _ _ hK
  refine ⟨⟨hl, ?_, ?_⟩, LT_mv hl hL (fun K i hK => f K i (by omega)) (fun K i hK => g K i (by omega)) (g _ _ (by decide)), NT_mv hN (fun K i hK => f K i (by omega)) (fun K i hK => g K i (by omega)), ?_, ?_, ⟨?_, hA2, ?_⟩, ⟨?_, ?_, t3, ?_⟩, ⟨?_, ?_, o3, ?_⟩, ⟨?_, ?_, ?_⟩, ?_⟩
  · rw [f _ _ (by decide)]; exact i1
  · rw [f _ _ (by decide)]; exact i2
  · exact PT_mv hP np2 (fun K j hK => f K j (by omega)) (g _ _ (by decide)) (fun K p hK hp => g _ _ (by omega))
  · unfold FL; rw [g _ _ (by decide), g _ _ (by decide), g _ _ (by decide)]; exact hF
  · rw [f _ _ (by decide), f _ _ (by decide), g _ _ (by decide), g _ _ (by decide)]; exact hA1
  · intro k hk
    have e1 : (tp + 20 - w + k) % 20 < 20 := Nat.mod_lt _ (by decide)
    exact PT_mv (hA3 k hk) np2 (fun K j hK => f K j (by omega)) (g _ _ (by decide)) (fun K p hK hp => g _ _ (by omega))
  · rw [f _ _ (by decide)]; exact t1
  · rw [g _ _ (by decide)]; exact t2
  · intro i hi; rw [f _ _ (by decide), g _ _ (by decide)]; exact t4 i hi
  · rw [f _ _ (by decide)]; exact o1
  · rw [g _ _ (by decide)]; exact o2
  · intro i hi; rw [f _ _ (by decide), g _ _ (by decide)]; exact o4 i hi
  · rw [f _ _ (by decide), g _ _ (by decide)]; exact m1
  · rw [f _ _ (by decide), f _ _ (by decide), g _ _ (by decide), g _ _ (by decide)]; exact m2
  · intro i hi
    by_cases e : i = j
    · subst e; rw [up2_hit, up2_hit, m3 i hi]
    · rw [up2_by _ _ _ e, up2_by _ _ _ e]; exact m3 i hi
  · unfold HKo
    rw [f 289 0 (by decide)]
    rcases hH with h0 | ⟨h0, hK⟩
    · exact Or.inl h0
    · exact Or.inr ⟨h0, HK_mv hl np2 hK (fun K j hK => f K j (by omega))⟩
/-- the reference's cells but for people now, people tried, and the seed -/
def RN (ρ ρ' : AH) : Prop := (∀ K j, ((295 < K ∧ K < 316) ∨ 337 < K) → ρ' K j = ρ K j) ∧ (∀ j, j ≠ 46 ∧ j ≠ 43 → ρ' 295 j = ρ 295 j) ∧ (∀ j, 1 < j → ρ' 316 j = ρ 316 j) ∧ (∀ K j, (316 < K ∧ K < 323) → 20 ≤ j → ρ' K j = ρ K j)
theorem IV_n {σ τ ρ ρ' : AH} {l b np nt ns : Nat} {L : Nat → Nat} {C : Nat → Nat → Nat} {w tp u tl oc : Nat} (h : IV σ ρ l b np nt ns L C w tp u tl oc) (h1 : ∀ K j, (K < 36 ∨ (47 < K ∧ K < 198) ∨ 254 < K) → ¬ (K = 0 ∧ j = 11) → τ K j = σ K j) (h0 : σ 289 0 = 0) (h2 : RN ρ ρ') (hP' : PT τ ρ' 36 0 np ns) (hs : τ 0 11 = ρ' 295 43 ∧ 0 ≤ ρ' 295 43 ∧ ρ' 295 43 < 2147483648) : IV τ ρ' l b np nt ns L C w tp u tl oc := by
  obtain ⟨⟨hl, i1, i2⟩, hL, hN, hP, hF, ⟨hA1, hA2, hA3⟩, ⟨t1, t2, t3, t4⟩, ⟨o1, o2, o3, o4⟩, ⟨m1, m2, m3⟩, hH⟩ := h
  have np2 := hL.2.2.1.1
  have fL : ∀ K j, (l ≤ K ∧ K ≤ l + 22) → τ K j = σ K j := fun K j hK => h1 K j (by omega) (by omega)
  have fR : ∀ K j, (296 < K ∧ K < 315) → ρ' K j = ρ K j := fun K j hK => h2.1 K j (by omega)
  refine ⟨⟨hl, ?_, ?_⟩, LT_mv hl hL fL fR (h2.2.1 13 (by decide)), NT_mv hN fL fR, hP', ?_, ⟨?_, hA2, ?_⟩, ⟨?_, ?_, t3, ?_⟩, ⟨?_, ?_, o3, ?_⟩, ⟨hs, ?_, ?_⟩, ?_⟩
  · rw [h1 _ _ (by omega) (by omega)]; exact i1
  · rw [h1 _ _ (by omega) (by omega)]; exact i2
  · unfold FL; rw [h2.2.1 44 (by decide), h2.2.1 45 (by decide), h2.2.1 57 (by decide)]; exact hF
  · rw [h1 48 0 (by omega) (by omega), h1 48 2 (by omega) (by omega), h2.2.1 42 (by decide), h2.2.1 41 (by decide)]; exact hA1
  · intro k hk
    have e1 : (tp + 20 - w + k) % 20 < 20 := Nat.mod_lt _ (by decide)
    exact PT_mv (hA3 k hk) np2 (fun K j hK => h1 K j (by omega) (by omega)) (h2.2.2.1 _ (by omega)) (fun K p hK hp => h2.2.2.2 K _ (by omega) (by omega))
  · rw [h1 _ _ (by omega) (by omega)]; exact t1
  · rw [h2.2.1 _ (by decide)]; exact t2
  · intro j hj; rw [h1 _ _ (by omega) (by omega), h2.1 _ _ (by omega)]; exact t4 j hj
  · rw [h1 _ _ (by omega) (by omega)]; exact o1
  · rw [h2.2.1 _ (by decide)]; exact o2
  · intro j hj; rw [h1 _ _ (by omega) (by omega), h2.1 _ _ (by omega)]; exact o4 j hj
  · rw [h1 _ _ (by omega) (by omega), h1 _ _ (by omega) (by omega), h2.2.1 10 (by decide), h2.2.1 11 (by decide)]; exact m2
  · intro j hj; rw [h1 _ _ (by omega) (by omega), h2.1 _ _ (by omega)]; exact m3 j hj
  · left; rw [h1 289 0 (by omega) (by omega)]; exact h0
theorem mKeep_f (ρ : AH) (u w : Nat) (hw : w ≤ 20) : (∀ j, j ≠ 41 ∧ j ≠ 42 → mKeep ρ u w 295 j = ρ 295 j) ∧ mKeep ρ u w 295 42 = ((if w = 20 then 20 else w + 1 : Nat) : Int) ∧ (mKeep ρ u w 295 41 = if w = 20 then (((u + 1) % 20 : Nat) : Int) else ρ 295 41) ∧ (∀ K j, 316 ≤ K ∧ K ≤ 322 → mKeep ρ u w K j = cpN ρ (2 + (u + w) % 20) 0 10 K j) := by
  unfold mKeep
  by_cases e : w = 20
  · subst e
    simp only [if_true]
    refine ⟨fun j hj => ?_, ?_, ?_, fun K j hK => ?_⟩
    · rw [up2_nq _ (by omega), cpN_fr _ _ _ _ _ _ (by omega), up2_nq _ (by omega), up2_nq _ (by omega)]
    · rw [up2_hit]; rfl
    · rw [up2_nq _ (by omega), cpN_fr _ _ _ _ _ _ (by omega), up2_nq _ (by omega), up2_hit]
    · rw [up2_nq _ (by omega), show 2 + ((u + 1) % 20 + 19) % 20 = 2 + (u + 20) % 20 by omega]
      unfold cpN
      rw [up2_nq _ (by omega), up2_nq _ (by omega), up2_nq _ (by omega), up2_nq _ (by omega), up2_nq _ (by omega), up2_nq _ (by omega)]
  · simp only [if_neg e]
    refine ⟨fun j hj => ?_, ?_, ?_, fun K j hK => ?_⟩
    · rw [up2_nq _ (by omega), cpN_fr _ _ _ _ _ _ (by omega)]
    · rw [up2_hit]
    · rw [up2_nq _ (by omega), cpN_fr _ _ _ _ _ _ (by omega)]
    · rw [up2_nq _ (by omega)]
abbrev nW (w : Nat) : Nat := if w = 20 then 20 else w + 1
abbrev nU (u w : Nat) : Nat := if w = 20 then (u + 1) % 20 else u
theorem IV_keep {σ τ υ ρ : AH} {l b np nt ns : Nat} {L : Nat → Nat} {C : Nat → Nat → Nat} {w tp u tl oc : Nat} (h : IV σ ρ l b np nt ns L C w tp u tl oc) (hc : CP σ υ (50 + 6 * tp) 36) (hτ : τ = up2 (up2 (up2 υ 48 2 (((tp + 1) % 20 : Nat) : Int)) 48 0 ((if w = 20 then 20 else w + 1 : Nat) : Int)) 289 0 0) : IV τ (mKeep ρ u w) l b np nt ns L C (nW w) ((tp + 1) % 20) (nU u w) tl oc := by
  obtain ⟨⟨hl, i1, i2⟩, hL, hN, hP, hF, ⟨⟨s1, s2, s3, s4⟩, ⟨hw, htp, hu⟩, hA3⟩, ⟨t1, t2, t3, t4⟩, ⟨o1, o2, o3, o4⟩, ⟨m1, m2, m3⟩, hH⟩ := h
  have np2 := hL.2.2.1.1
  obtain ⟨k1, k2, k3, k4⟩ := mKeep_f ρ u w hw
  have kf : ∀ K j, (K ≠ 295 ∧ (K < 316 ∨ 322 < K)) → mKeep ρ u w K j = ρ K j := fun K j hK => mKeep_fr _ _ _ _ _ hK
  have f : ∀ K j, (K < 48 ∨ 169 < K) → K ≠ 289 → τ K j = σ K j := by
    intro K j hK h9
    rw [hτ, up2_nq _ (by omega), up2_nq _ (by omega), up2_nq _ (by omega), hc.1 K j (by omega)]
  have f2 : ∀ K j, 49 < K → K ≤ 169 → τ K j = υ K j := by
    intro K j hK h9
    rw [hτ, up2_nq _ (by omega), up2_nq _ (by omega), up2_nq _ (by omega)]
  have fL : ∀ K j, (l ≤ K ∧ K ≤ l + 22) → τ K j = σ K j := fun K j hK => f K j (by omega) (by omega)
  have cl := cpN_l ρ (2 + (u + w) % 20) 0
  have co := cpN_o ρ (2 + (u + w) % 20) 0
  refine ⟨⟨hl, ?_, ?_⟩, LT_mv hl hL fL (fun K j hK => kf K j (by omega)) (k1 13 (by decide)), NT_mv hN fL (fun K j hK => kf K j (by omega)), ?_, ?_, ⟨⟨?_, ?_, ?_, ?_⟩, ⟨?_, ?_, ?_⟩, ?_⟩, ⟨?_, ?_, t3, ?_⟩, ⟨?_, ?_, o3, ?_⟩, ⟨?_, ?_, ?_⟩, ?_⟩
  · rw [f _ _ (by omega) (by omega)]; exact i1
  · rw [f _ _ (by omega) (by omega)]; exact i2
  · refine PT_mv hP np2 (fun K j hK => f K j (by omega) (by omega)) ?_ (fun K p hK hp => ?_)
    · rw [k4 _ _ (by omega), co.1 _ (by omega)]
    · rw [k4 _ _ (by omega), co.2 _ _ (by omega) (by omega)]
  · unfold FL; rw [k1 44 (by decide), k1 45 (by decide), k1 57 (by decide)]; exact hF
  · rw [hτ, up2_nq _ (by omega), up2_hit]
  · rw [hτ, up2_nq _ (by omega), up2_nq _ (by omega), up2_hit]
  · exact k2
  · rw [k3]
    unfold nU
    split
    · rfl
    · exact s4
  · unfold nW; split <;> omega
  · omega
  · unfold nU; split <;> omega
  · intro k hk
    unfold nW at hk ⊢
    unfold nU
    by_cases hnew : k + 1 = (if w = 20 then 20 else w + 1)
    · have e1 : ((tp + 1) % 20 + 20 - (if w = 20 then 20 else w + 1) + k) % 20 = tp := by split at hnew <;> (rename_i e; simp only [e, if_true, if_false]; omega)
      have e2 : 2 + ((if w = 20 then (u + 1) % 20 else u) + k) % 20 = 2 + (u + w) % 20 := by split at hnew <;> (rename_i e; simp only [e, if_true, if_false]; omega)
      rw [e1, e2]
      refine PT_cq np2 hP (fun j hj => ?_) (fun i j a1 a2 a3 => ?_) ?_ (fun K p hK hp => ?_)
      · rw [f2 _ _ (by omega) (by omega)]; exact hc.2.1 j hj
      · rw [f2 _ _ (by omega) (by omega)]; exact hc.2.2 i j a1 a2 a3
      · rw [k4 _ _ (by omega)]; exact cl.1
      · rw [k4 _ _ (by omega)]; exact cl.2 K p hK hp
    · have key : ∃ k', k' < w ∧ ((tp + 1) % 20 + 20 - (if w = 20 then 20 else w + 1) + k) % 20 = (tp + 20 - w + k') % 20 ∧ ((if w = 20 then (u + 1) % 20 else u) + k) % 20 = (u + k') % 20 ∧ (tp + 20 - w + k') % 20 ≠ tp ∧ (u + k') % 20 ≠ (u + w) % 20 := by
        by_cases e : w = 20
        · subst e
          simp only [if_true] at hk hnew ⊢
          exact ⟨k + 1, by omega, by omega, by omega, by omega, by omega⟩
        · simp only [if_neg e] at hk hnew ⊢
          exact ⟨k, by omega, by omega, by omega, by omega, by omega⟩
      obtain ⟨k', h1, h2, h3, h4, h5⟩ := key
      rw [h2, h3]
      have e1 : (tp + 20 - w + k') % 20 < 20 := Nat.mod_lt _ (by decide)
      refine PT_mv (hA3 k' h1) np2 (fun K j hK => ?_) ?_ (fun K p hK hp => ?_)
      · rw [f2 _ _ (by omega) (by omega)]; exact hc.1 K j (by omega)
      · rw [k4 _ _ (by omega)]; exact co.1 _ (by omega)
      · rw [k4 _ _ (by omega)]; exact co.2 _ _ (by omega) (by omega)
  · rw [f _ _ (by omega) (by omega)]; exact t1
  · rw [k1 _ (by decide)]; exact t2
  · intro j hj; rw [f _ _ (by omega) (by omega), kf _ _ (by omega)]; exact t4 j hj
  · rw [f _ _ (by omega) (by omega)]; exact o1
  · rw [k1 _ (by decide)]; exact o2
  · intro j hj; rw [f _ _ (by omega) (by omega), kf _ _ (by omega)]; exact o4 j hj
  · rw [f _ _ (by omega) (by omega), k1 43 (by decide)]; exact m1
  · rw [f _ _ (by omega) (by omega), f _ _ (by omega) (by omega), k1 10 (by decide), k1 11 (by decide)]; exact m2
  · intro j hj; rw [f _ _ (by omega) (by omega), kf _ _ (by omega)]; exact m3 j hj
  · left; rw [hτ, up2_hit]
theorem IV_seed {σ ρ : AH} {l b np nt ns : Nat} {L : Nat → Nat} {C : Nat → Nat → Nat} {w tp u tl oc : Nat} (h : IV σ ρ l b np nt ns L C w tp u tl oc) (z : Int) (hz : 0 ≤ z ∧ z < 2147483648) : IV (up2 σ 0 11 z) (up2 ρ 295 43 z) l b np nt ns L C w tp u tl oc := by
  obtain ⟨⟨hl, i1, i2⟩, hL, hN, hP, hF, ⟨hA1, hA2, hA3⟩, ⟨t1, t2, t3, t4⟩, ⟨o1, o2, o3, o4⟩, ⟨m1, m2, m3⟩, hH⟩ := h
  have np2 := hL.2.2.1.1
  have f : ∀ K i, (K ≠ 0 ∨ i ≠ 11) → up2 σ 0 11 z K i = σ K i := fun K i hK => up2_nq _ (by omega)
  have g : ∀ K i, (K ≠ 295 ∨ i ≠ 43) → up2 ρ 295 43 z K i = ρ K i := fun K i hK => up2_nq _ (by omega)
  refine ⟨⟨hl, ?_, ?_⟩, LT_mv hl hL (fun K i hK => f K i (by omega)) (fun K i hK => g K i (by omega)) (g _ _ (by decide)), NT_mv hN (fun K i hK => f K i (by omega)) (fun K i hK => g K i (by omega)), ?_, ?_, ⟨?_, hA2, ?_⟩, ⟨?_, ?_, t3, ?_⟩, ⟨?_, ?_, o3, ?_⟩, ⟨?_, ?_, ?_⟩, ?_⟩
  · rw [f _ _ (by decide)]; exact i1
  · rw [f _ _ (by decide)]; exact i2
  · exact PT_mv hP np2 (fun K j hK => f K j (by omega)) (g _ _ (by decide)) (fun K p hK hp => g _ _ (by omega))
  · unfold FL; rw [g _ _ (by decide), g _ _ (by decide), g _ _ (by decide)]; exact hF
  · rw [f _ _ (by decide), f _ _ (by decide), g _ _ (by decide), g _ _ (by decide)]; exact hA1
  · intro k hk
    have e1 : (tp + 20 - w + k) % 20 < 20 := Nat.mod_lt _ (by decide)
    exact PT_mv (hA3 k hk) np2 (fun K j hK => f K j (by omega)) (g _ _ (by omega)) (fun K p hK hp => g _ _ (by omega))
  · rw [f _ _ (by decide)]; exact t1
  · rw [g _ _ (by decide)]; exact t2
  · intro i hi; rw [f _ _ (by omega), g _ _ (by omega)]; exact t4 i hi
  · rw [f _ _ (by decide)]; exact o1
  · rw [g _ _ (by decide)]; exact o2
  · intro i hi; rw [f _ _ (by omega), g _ _ (by omega)]; exact o4 i hi
  · rw [up2_hit, up2_hit]; exact ⟨rfl, hz⟩
  · rw [f _ _ (by decide), f _ _ (by decide), g _ _ (by decide), g _ _ (by decide)]; exact m2
  · intro i hi; rw [f _ _ (by omega), g _ _ (by omega)]; exact m3 i hi
  · unfold HKo
    rw [f 289 0 (by decide)]
    rcases hH with h0 | ⟨h0, hK⟩
    · exact Or.inl h0
    · exact Or.inr ⟨h0, HK_mv hl np2 hK (fun K j hK => f K j (by omega))⟩
