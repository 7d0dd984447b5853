/-! The tape; what is read by number. -/
def cPut (σ : AH) (v : Int) (tp : Nat) : AH := (up2 (up2 (up2 (up2 (up2 (up2 (up2 (up2 σ 2 (tp) (aAnd (aShr v 24) 255)) 1 1 ((tp + 1 : Nat) : Int)) 2 (tp + 1) (aAnd (aShr v 16) 255)) 1 1 ((tp + 1 + 1 : Nat) : Int)) 2 (tp + 1 + 1) (aAnd (aShr v 8) 255)) 1 1 ((tp + 1 + 1 + 1 : Nat) : Int)) 2 (tp + 1 + 1 + 1) (aAnd (aShr v 0) 255)) 1 1 ((tp + 1 + 1 + 1 + 1 : Nat) : Int))
theorem aByte (z : Int) : 0 ≤ aAnd z 255 ∧ aAnd z 255 ≤ 255 := by
  have h : (aAnd z 255) = ((aAnd z 255).toNat : Int) ∧ (aAnd z 255).toNat ≤ 255 := by
    unfold aAnd
    have e : (Int32.ofInt z &&& Int32.ofInt 255).toBitVec.toNat ≤ 255 := by
      rw [Int32.toBitVec_and, BitVec.toNat_and]
      have : (Int32.ofInt 255).toBitVec.toNat = 255 := by decide
      rw [this]
      exact Nat.and_le_right
    have := i32b (z := Int32.ofInt z &&& Int32.ofInt 255) rfl (by omega)
    rw [this]
    omega
  omega
/-- nothing but the tape is another one -/
theorem IV_tape {σ τ ρ ρ' : AH} {l b np nt ns : Nat} {L : Nat → Nat} {C : Nat → Nat → Nat} {w tp u tl tl' oc : Nat} (h : IV σ ρ l b np nt ns L C w tp u tl oc) (h1 : ∀ K j, K ≠ 1 ∧ K ≠ 2 → τ K j = σ K j) (h2 : ∀ K j, K ≠ 296 → (K ≠ 295 ∨ j ≠ 1) → ρ' K j = ρ K j) (hT : IVt τ ρ' tl') : IV τ ρ' l b np nt ns L C w tp u tl' oc := by
  obtain ⟨⟨hl, i1, i2⟩, hL, hN, hP, hF, ⟨hA1, hA2, hA3⟩, -, ⟨o1, o2, o3, o4⟩, ⟨m1, m2, m3⟩, hH⟩ := h
  have np2 := hL.2.2.1.1
  have fL : ∀ K j, (l ≤ K ∧ K ≤ l + 22) → τ K j = σ K j := fun K j hK => h1 K j (by omega)
  have g : ∀ K j, (296 < K ∧ K < 315) → ρ' K j = ρ K j := fun K j hK => h2 K j (by omega) (by omega)
  have g5 : ∀ j, j ≠ 1 → ρ' 295 j = ρ 295 j := fun j hj => h2 _ _ (by decide) (Or.inr hj)
  refine ⟨⟨hl, ?_, ?_⟩, LT_mv hl hL fL g (g5 13 (by decide)), NT_mv hN fL g, ?_, ?_, ⟨?_, hA2, ?_⟩, hT, ⟨?_, ?_, o3, ?_⟩, ⟨?_, ?_, ?_⟩, ?_⟩
  · rw [h1 _ _ (by decide)]; exact i1
  · rw [h1 _ _ (by decide)]; exact i2
  · exact PT_mv hP np2 (fun K j hK => h1 K j (by omega)) (h2 _ _ (by omega) (by omega)) (fun K p hK hp => h2 _ _ (by omega) (by omega))
  · unfold FL; rw [g5 44 (by decide), g5 45 (by decide), g5 57 (by decide)]; exact hF
  · rw [h1 48 0 (by decide), h1 48 2 (by decide), g5 42 (by decide), g5 41 (by decide)]; exact hA1
  · intro k hk
    have e1 : (tp + 20 - w + k) % 20 < 20 := Nat.mod_lt _ (by decide)
    exact PT_mv (hA3 k hk) np2 (fun K j hK => h1 K j (by omega)) (h2 _ _ (by omega) (by omega)) (fun K p hK hp => h2 _ _ (by omega) (by omega))
  · rw [h1 _ _ (by decide)]; exact o1
  · rw [g5 _ (by decide)]; exact o2
  · intro j hj; rw [h1 _ _ (by decide), h2 _ _ (by omega) (by omega)]; exact o4 j hj
  · rw [h1 _ _ (by decide), g5 43 (by decide)]; exact m1
  · rw [h1 _ _ (by decide), h1 _ _ (by decide), g5 10 (by decide), g5 11 (by decide)]; exact m2
  · intro j hj; rw [h1 _ _ (by decide), h2 _ _ (by omega) (by omega)]; exact m3 j hj
  · unfold HKo
    rw [h1 289 0 (by decide)]
    rcases hH with h0 | ⟨h0, hK⟩
    · exact Or.inl h0
    · exact Or.inr ⟨h0, HK_mv hl np2 hK (fun K j hK => h1 K j (by omega))⟩
theorem IV_end {σ ρ : AH} {l b np nt ns : Nat} {L : Nat → Nat} {C : Nat → Nat → Nat} {w tp u tl oc : Nat} (h : IV σ ρ l b np nt ns L C w tp u tl oc) (n : Nat) (hn : n ≤ tl) : IV (up2 σ 1 1 (n : Int)) (up2 ρ 295 1 (n : Int)) l b np nt ns L C w tp u n oc := by
  obtain ⟨t1, t2, t3, t4⟩ := id h.2.2.2.2.2.2.1
  refine IV_tape h (fun K j hK => up2_far _ _ _ _ (by omega)) (fun K j h1 h2 => up2_nq _ (by omega)) ⟨up2_hit _ _ _ _, up2_hit _ _ _ _, by omega, fun j hj => ?_⟩
  rw [up2_far _ _ _ _ (by decide), up2_far _ _ _ _ (by decide)]
  exact t4 j (by omega)
theorem IV_put {σ ρ : AH} {l b np nt ns : Nat} {L : Nat → Nat} {C : Nat → Nat → Nat} {w tp u tl oc : Nat} (h : IV σ ρ l b np nt ns L C w tp u tl oc) (v : Int) (hn : tl + 4 ≤ 1600) : IV (cPut σ v tl) (mPut ρ v tl) l b np nt ns L C w tp u (tl + 4) oc := by
  obtain ⟨t1, t2, t3, t4⟩ := id h.2.2.2.2.2.2.1
  refine IV_tape h (fun K j hK => ?_) (fun K j h1 h2 => mPut_fr _ _ _ _ _ ⟨h1, h2⟩) ⟨?_, ?_, hn, fun j hj => ?_⟩
  · unfold cPut
    rw [up2_nq _ (by omega), up2_nq _ (by omega), up2_nq _ (by omega), up2_nq _ (by omega), up2_nq _ (by omega), up2_nq _ (by omega), up2_nq _ (by omega), up2_nq _ (by omega)]
  · unfold cPut; rw [up2_hit]
  · unfold mPut; rw [up2_hit]
  · unfold cPut mPut
    rw [up2_nq _ (by omega), up2_nq (k' := 296) _ (by omega)]
    by_cases e3 : j = tl + 1 + 1 + 1
    · subst e3; rw [up2_hit, up2_hit]; exact ⟨rfl, aByte _⟩
    · rw [up2_nq _ (by omega), up2_nq _ (by omega), up2_nq (k' := 296) _ (by omega), up2_nq (k' := 296) _ (by omega)]
      by_cases e2 : j = tl + 1 + 1
      · subst e2; rw [up2_hit, up2_hit]; exact ⟨rfl, aByte _⟩
      · rw [up2_nq _ (by omega), up2_nq _ (by omega), up2_nq (k' := 296) _ (by omega), up2_nq (k' := 296) _ (by omega)]
        by_cases e1 : j = tl + 1
        · subst e1; rw [up2_hit, up2_hit]; exact ⟨rfl, aByte _⟩
        · rw [up2_nq _ (by omega), up2_nq _ (by omega), up2_nq (k' := 296) _ (by omega), up2_nq (k' := 296) _ (by omega)]
          by_cases e0 : j = tl
          · subst e0; rw [up2_hit, up2_hit]; exact ⟨rfl, aByte _⟩
          · rw [up2_nq _ (by omega), up2_nq (k' := 296) _ (by omega)]; exact t4 j (by omega)
theorem v_append (X : AX) (v : Int) (tp : Nat) (ht : tp + 4 ≤ 1600) (σ : AH) (htp : σ 1 1 = (tp : Int))  : TT X 168 (0, [(2, 1), (0, v), (9, 0)], [], σ) (fun r σ' => r = none ∧ σ' = cPut σ v tp) := by
  refine TT.steps (cd := cd168) 6 (c' := (6, [(2, 1), (0, v), (0, 24)], [(0, (σ 1 1))], σ)) rfl rfl ?_
  refine TT.top0 (z := ((tp : Nat) : Int)) htp ?_
  refine TT.steps (cd := cd168) 2 (c' := ((if decide (1600 ≤ ((tp : Nat) : Int)) = true then 26 else 8), [(2, 1), (0, v), (0, 24)], [], σ)) rfl rfl ?_
  refine TT.br (p := 1600 ≤ ((tp : Nat) : Int)) (fun h1 => absurd h1 (show ¬ (1600 ≤ ((tp : Nat) : Int)) by omega)) (fun h1 => ?_)
  refine TT.steps (cd := cd168) 4 (c' := (12, [(2, 1), (0, v), (0, 24)], [(0, (σ 1 1)), (2, 2)], σ)) rfl rfl ?_
  refine TT.top0 (z := ((tp : Nat) : Int)) htp ?_
  refine TT.steps (cd := cd168) 5 (c' := (17, [(2, 1), (0, v), (0, 24)], [(0, (aAnd (aShr v 24) 255)), (0, ((tp : Nat) : Int)), (2, 2)], σ)) rfl rfl ?_
  refine TT.astN (cd := cd168) (2) (tp) rfl rfl rfl rfl (show tp < 1600 by omega) ?_
  refine TT.steps (cd := cd168) 3 (c' := (21, [(2, 1), (0, v), (0, 24)], [(0, ((up2 σ 2 tp (aAnd (aShr v 24) 255)) 1 1)), (2, 1)], (up2 σ 2 tp (aAnd (aShr v 24) 255)))) rfl rfl ?_
  refine TT.top0 (z := ((tp : Nat) : Int)) ((up2_far (k := 2) (k' := 1) _ _ _ _ (by decide)).trans htp) ?_
  refine TT.steps (cd := cd168) 2 (c' := (23, [(2, 1), (0, v), (0, 24)], [(0, (aAdd ((tp : Nat) : Int) 1)), (2, 1)], (up2 σ 2 tp (aAnd (aShr v 24) 255)))) rfl rfl ?_
  refine TT.top0 (z := ((tp + 1 : Nat) : Int)) (aAdd_n (a := tp) (b := 1) (by omega)) ?_
  refine TT.steps (cd := cd168) 1 (c' := (24, [(2, 1), (0, v), (0, 24)], [], (up2 (up2 σ 2 tp (aAnd (aShr v 24) 255)) 1 1 ((tp + 1 : Nat) : Int)))) rfl rfl ?_
  refine TT.inc (cd := cd168) 16 rfl rfl rfl rfl (fun h => absurd h.2 (show ¬ (0 = 1) by decide)) (by decide) (ls' := [(2, 1), (0, v), (0, 16)]) rfl ?_
  refine TT.steps (cd := cd168) 5 (c' := (6, [(2, 1), (0, v), (0, 16)], [(0, ((up2 (up2 σ 2 tp (aAnd (aShr v 24) 255)) 1 1 ((tp + 1 : Nat) : Int)) 1 1))], (up2 (up2 σ 2 tp (aAnd (aShr v 24) 255)) 1 1 ((tp + 1 : Nat) : Int)))) rfl rfl ?_
  refine TT.top0 (z := ((tp + 1 : Nat) : Int)) (up2_hit _ _ _ _) ?_
  refine TT.steps (cd := cd168) 2 (c' := ((if decide (1600 ≤ ((tp + 1 : Nat) : Int)) = true then 26 else 8), [(2, 1), (0, v), (0, 16)], [], (up2 (up2 σ 2 tp (aAnd (aShr v 24) 255)) 1 1 ((tp + 1 : Nat) : Int)))) rfl rfl ?_
  refine TT.br (p := 1600 ≤ ((tp + 1 : Nat) : Int)) (fun h2 => absurd h2 (show ¬ (1600 ≤ ((tp + 1 : Nat) : Int)) by omega)) (fun h2 => ?_)
  refine TT.steps (cd := cd168) 4 (c' := (12, [(2, 1), (0, v), (0, 16)], [(0, ((up2 (up2 σ 2 tp (aAnd (aShr v 24) 255)) 1 1 ((tp + 1 : Nat) : Int)) 1 1)), (2, 2)], (up2 (up2 σ 2 tp (aAnd (aShr v 24) 255)) 1 1 ((tp + 1 : Nat) : Int)))) rfl rfl ?_
  refine TT.top0 (z := ((tp + 1 : Nat) : Int)) (up2_hit _ _ _ _) ?_
  refine TT.steps (cd := cd168) 5 (c' := (17, [(2, 1), (0, v), (0, 16)], [(0, (aAnd (aShr v 16) 255)), (0, ((tp + 1 : Nat) : Int)), (2, 2)], (up2 (up2 σ 2 tp (aAnd (aShr v 24) 255)) 1 1 ((tp + 1 : Nat) : Int)))) rfl rfl ?_
  refine TT.astN (cd := cd168) (2) (tp + 1) rfl rfl rfl rfl (show tp + 1 < 1600 by omega) ?_
  refine TT.steps (cd := cd168) 3 (c' := (21, [(2, 1), (0, v), (0, 16)], [(0, ((up2 (up2 (up2 σ 2 tp (aAnd (aShr v 24) 255)) 1 1 ((tp + 1 : Nat) : Int)) 2 (tp + 1) (aAnd (aShr v 16) 255)) 1 1)), (2, 1)], (up2 (up2 (up2 σ 2 tp (aAnd (aShr v 24) 255)) 1 1 ((tp + 1 : Nat) : Int)) 2 (tp + 1) (aAnd (aShr v 16) 255)))) rfl rfl ?_
  refine TT.top0 (z := ((tp + 1 : Nat) : Int)) ((up2_far (k := 2) (k' := 1) _ _ _ _ (by decide)).trans (up2_hit _ _ _ _)) ?_
  refine TT.steps (cd := cd168) 2 (c' := (23, [(2, 1), (0, v), (0, 16)], [(0, (aAdd ((tp + 1 : Nat) : Int) 1)), (2, 1)], (up2 (up2 (up2 σ 2 tp (aAnd (aShr v 24) 255)) 1 1 ((tp + 1 : Nat) : Int)) 2 (tp + 1) (aAnd (aShr v 16) 255)))) rfl rfl ?_
  refine TT.top0 (z := (((tp + 1) + 1 : Nat) : Int)) (aAdd_n (a := tp + 1) (b := 1) (by omega)) ?_
  refine TT.steps (cd := cd168) 1 (c' := (24, [(2, 1), (0, v), (0, 16)], [], (up2 (up2 (up2 (up2 σ 2 tp (aAnd (aShr v 24) 255)) 1 1 ((tp + 1 : Nat) : Int)) 2 (tp + 1) (aAnd (aShr v 16) 255)) 1 1 (((tp + 1) + 1 : Nat) : Int)))) rfl rfl ?_
  refine TT.inc (cd := cd168) 8 rfl rfl rfl rfl (fun h => absurd h.2 (show ¬ (0 = 1) by decide)) (by decide) (ls' := [(2, 1), (0, v), (0, 8)]) rfl ?_
  refine TT.steps (cd := cd168) 5 (c' := (6, [(2, 1), (0, v), (0, 8)], [(0, ((up2 (up2 (up2 (up2 σ 2 tp (aAnd (aShr v 24) 255)) 1 1 ((tp + 1 : Nat) : Int)) 2 (tp + 1) (aAnd (aShr v 16) 255)) 1 1 (((tp + 1) + 1 : Nat) : Int)) 1 1))], (up2 (up2 (up2 (up2 σ 2 tp (aAnd (aShr v 24) 255)) 1 1 ((tp + 1 : Nat) : Int)) 2 (tp + 1) (aAnd (aShr v 16) 255)) 1 1 (((tp + 1) + 1 : Nat) : Int)))) rfl rfl ?_
  refine TT.top0 (z := (((tp + 1) + 1 : Nat) : Int)) (up2_hit _ _ _ _) ?_
  refine TT.steps (cd := cd168) 2 (c' := ((if decide (1600 ≤ (((tp + 1) + 1 : Nat) : Int)) = true then 26 else 8), [(2, 1), (0, v), (0, 8)], [], (up2 (up2 (up2 (up2 σ 2 tp (aAnd (aShr v 24) 255)) 1 1 ((tp + 1 : Nat) : Int)) 2 (tp + 1) (aAnd (aShr v 16) 255)) 1 1 (((tp + 1) + 1 : Nat) : Int)))) rfl rfl ?_
  refine TT.br (p := 1600 ≤ (((tp + 1) + 1 : Nat) : Int)) (fun h3 => absurd h3 (show ¬ (1600 ≤ (((tp + 1) + 1 : Nat) : Int)) by omega)) (fun h3 => ?_)
  refine TT.steps (cd := cd168) 4 (c' := (12, [(2, 1), (0, v), (0, 8)], [(0, ((up2 (up2 (up2 (up2 σ 2 tp (aAnd (aShr v 24) 255)) 1 1 ((tp + 1 : Nat) : Int)) 2 (tp + 1) (aAnd (aShr v 16) 255)) 1 1 (((tp + 1) + 1 : Nat) : Int)) 1 1)), (2, 2)], (up2 (up2 (up2 (up2 σ 2 tp (aAnd (aShr v 24) 255)) 1 1 ((tp + 1 : Nat) : Int)) 2 (tp + 1) (aAnd (aShr v 16) 255)) 1 1 (((tp + 1) + 1 : Nat) : Int)))) rfl rfl ?_
  refine TT.top0 (z := (((tp + 1) + 1 : Nat) : Int)) (up2_hit _ _ _ _) ?_
  refine TT.steps (cd := cd168) 5 (c' := (17, [(2, 1), (0, v), (0, 8)], [(0, (aAnd (aShr v 8) 255)), (0, (((tp + 1) + 1 : Nat) : Int)), (2, 2)], (up2 (up2 (up2 (up2 σ 2 tp (aAnd (aShr v 24) 255)) 1 1 ((tp + 1 : Nat) : Int)) 2 (tp + 1) (aAnd (aShr v 16) 255)) 1 1 (((tp + 1) + 1 : Nat) : Int)))) rfl rfl ?_
  refine TT.astN (cd := cd168) (2) ((tp + 1) + 1) rfl rfl rfl rfl (show (tp + 1) + 1 < 1600 by omega) ?_
  refine TT.steps (cd := cd168) 3 (c' := (21, [(2, 1), (0, v), (0, 8)], [(0, ((up2 (up2 (up2 (up2 (up2 σ 2 tp (aAnd (aShr v 24) 255)) 1 1 ((tp + 1 : Nat) : Int)) 2 (tp + 1) (aAnd (aShr v 16) 255)) 1 1 (((tp + 1) + 1 : Nat) : Int)) 2 ((tp + 1) + 1) (aAnd (aShr v 8) 255)) 1 1)), (2, 1)], (up2 (up2 (up2 (up2 (up2 σ 2 tp (aAnd (aShr v 24) 255)) 1 1 ((tp + 1 : Nat) : Int)) 2 (tp + 1) (aAnd (aShr v 16) 255)) 1 1 (((tp + 1) + 1 : Nat) : Int)) 2 ((tp + 1) + 1) (aAnd (aShr v 8) 255)))) rfl rfl ?_
  refine TT.top0 (z := (((tp + 1) + 1 : Nat) : Int)) ((up2_far (k := 2) (k' := 1) _ _ _ _ (by decide)).trans (up2_hit _ _ _ _)) ?_
  refine TT.steps (cd := cd168) 2 (c' := (23, [(2, 1), (0, v), (0, 8)], [(0, (aAdd (((tp + 1) + 1 : Nat) : Int) 1)), (2, 1)], (up2 (up2 (up2 (up2 (up2 σ 2 tp (aAnd (aShr v 24) 255)) 1 1 ((tp + 1 : Nat) : Int)) 2 (tp + 1) (aAnd (aShr v 16) 255)) 1 1 (((tp + 1) + 1 : Nat) : Int)) 2 ((tp + 1) + 1) (aAnd (aShr v 8) 255)))) rfl rfl ?_
  refine TT.top0 (z := ((((tp + 1) + 1) + 1 : Nat) : Int)) (aAdd_n (a := (tp + 1) + 1) (b := 1) (by omega)) ?_
  refine TT.steps (cd := cd168) 1 (c' := (24, [(2, 1), (0, v), (0, 8)], [], (up2 (up2 (up2 (up2 (up2 (up2 σ 2 tp (aAnd (aShr v 24) 255)) 1 1 ((tp + 1 : Nat) : Int)) 2 (tp + 1) (aAnd (aShr v 16) 255)) 1 1 (((tp + 1) + 1 : Nat) : Int)) 2 ((tp + 1) + 1) (aAnd (aShr v 8) 255)) 1 1 ((((tp + 1) + 1) + 1 : Nat) : Int)))) rfl rfl ?_
  refine TT.inc (cd := cd168) 0 rfl rfl rfl rfl (fun h => absurd h.2 (show ¬ (0 = 1) by decide)) (by decide) (ls' := [(2, 1), (0, v), (0, 0)]) rfl ?_
  refine TT.steps (cd := cd168) 5 (c' := (6, [(2, 1), (0, v), (0, 0)], [(0, ((up2 (up2 (up2 (up2 (up2 (up2 σ 2 tp (aAnd (aShr v 24) 255)) 1 1 ((tp + 1 : Nat) : Int)) 2 (tp + 1) (aAnd (aShr v 16) 255)) 1 1 (((tp + 1) + 1 : Nat) : Int)) 2 ((tp + 1) + 1) (aAnd (aShr v 8) 255)) 1 1 ((((tp + 1) + 1) + 1 : Nat) : Int)) 1 1))], (up2 (up2 (up2 (up2 (up2 (up2 σ 2 tp (aAnd (aShr v 24) 255)) 1 1 ((tp + 1 : Nat) : Int)) 2 (tp + 1) (aAnd (aShr v 16) 255)) 1 1 (((tp + 1) + 1 : Nat) : Int)) 2 ((tp + 1) + 1) (aAnd (aShr v 8) 255)) 1 1 ((((tp + 1) + 1) + 1 : Nat) : Int)))) rfl rfl ?_
  refine TT.top0 (z := ((((tp + 1) + 1) + 1 : Nat) : Int)) (up2_hit _ _ _ _) ?_
  refine TT.steps (cd := cd168) 2 (c' := ((if decide (1600 ≤ ((((tp + 1) + 1) + 1 : Nat) : Int)) = true then 26 else 8), [(2, 1), (0, v), (0, 0)], [], (up2 (up2 (up2 (up2 (up2 (up2 σ 2 tp (aAnd (aShr v 24) 255)) 1 1 ((tp + 1 : Nat) : Int)) 2 (tp + 1) (aAnd (aShr v 16) 255)) 1 1 (((tp + 1) + 1 : Nat) : Int)) 2 ((tp + 1) + 1) (aAnd (aShr v 8) 255)) 1 1 ((((tp + 1) + 1) + 1 : Nat) : Int)))) rfl rfl ?_
  refine TT.br (p := 1600 ≤ ((((tp + 1) + 1) + 1 : Nat) : Int)) (fun h4 => absurd h4 (show ¬ (1600 ≤ ((((tp + 1) + 1) + 1 : Nat) : Int)) by omega)) (fun h4 => ?_)
  refine TT.steps (cd := cd168) 4 (c' := (12, [(2, 1), (0, v), (0, 0)], [(0, ((up2 (up2 (up2 (up2 (up2 (up2 σ 2 tp (aAnd (aShr v 24) 255)) 1 1 ((tp + 1 : Nat) : Int)) 2 (tp + 1) (aAnd (aShr v 16) 255)) 1 1 (((tp + 1) + 1 : Nat) : Int)) 2 ((tp + 1) + 1) (aAnd (aShr v 8) 255)) 1 1 ((((tp + 1) + 1) + 1 : Nat) : Int)) 1 1)), (2, 2)], (up2 (up2 (up2 (up2 (up2 (up2 σ 2 tp (aAnd (aShr v 24) 255)) 1 1 ((tp + 1 : Nat) : Int)) 2 (tp + 1) (aAnd (aShr v 16) 255)) 1 1 (((tp + 1) + 1 : Nat) : Int)) 2 ((tp + 1) + 1) (aAnd (aShr v 8) 255)) 1 1 ((((tp + 1) + 1) + 1 : Nat) : Int)))) rfl rfl ?_
  refine TT.top0 (z := ((((tp + 1) + 1) + 1 : Nat) : Int)) (up2_hit _ _ _ _) ?_
  refine TT.steps (cd := cd168) 5 (c' := (17, [(2, 1), (0, v), (0, 0)], [(0, (aAnd (aShr v 0) 255)), (0, ((((tp + 1) + 1) + 1 : Nat) : Int)), (2, 2)], (up2 (up2 (up2 (up2 (up2 (up2 σ 2 tp (aAnd (aShr v 24) 255)) 1 1 ((tp + 1 : Nat) : Int)) 2 (tp + 1) (aAnd (aShr v 16) 255)) 1 1 (((tp + 1) + 1 : Nat) : Int)) 2 ((tp + 1) + 1) (aAnd (aShr v 8) 255)) 1 1 ((((tp + 1) + 1) + 1 : Nat) : Int)))) rfl rfl ?_
  refine TT.astN (cd := cd168) (2) (((tp + 1) + 1) + 1) rfl rfl rfl rfl (show ((tp + 1) + 1) + 1 < 1600 by omega) ?_
  refine TT.steps (cd := cd168) 3 (c' := (21, [(2, 1), (0, v), (0, 0)], [(0, ((up2 (up2 (up2 (up2 (up2 (up2 (up2 σ 2 tp (aAnd (aShr v 24) 255)) 1 1 ((tp + 1 : Nat) : Int)) 2 (tp + 1) (aAnd (aShr v 16) 255)) 1 1 (((tp + 1) + 1 : Nat) : Int)) 2 ((tp + 1) + 1) (aAnd (aShr v 8) 255)) 1 1 ((((tp + 1) + 1) + 1 : Nat) : Int)) 2 (((tp + 1) + 1) + 1) (aAnd (aShr v 0) 255)) 1 1)), (2, 1)], (up2 (up2 (up2 (up2 (up2 (up2 (up2 σ 2 tp (aAnd (aShr v 24) 255)) 1 1 ((tp + 1 : Nat) : Int)) 2 (tp + 1) (aAnd (aShr v 16) 255)) 1 1 (((tp + 1) + 1 : Nat) : Int)) 2 ((tp + 1) + 1) (aAnd (aShr v 8) 255)) 1 1 ((((tp + 1) + 1) + 1 : Nat) : Int)) 2 (((tp + 1) + 1) + 1) (aAnd (aShr v 0) 255)))) rfl rfl ?_
  refine TT.top0 (z := ((((tp + 1) + 1) + 1 : Nat) : Int)) ((up2_far (k := 2) (k' := 1) _ _ _ _ (by decide)).trans (up2_hit _ _ _ _)) ?_
  refine TT.steps (cd := cd168) 2 (c' := (23, [(2, 1), (0, v), (0, 0)], [(0, (aAdd ((((tp + 1) + 1) + 1 : Nat) : Int) 1)), (2, 1)], (up2 (up2 (up2 (up2 (up2 (up2 (up2 σ 2 tp (aAnd (aShr v 24) 255)) 1 1 ((tp + 1 : Nat) : Int)) 2 (tp + 1) (aAnd (aShr v 16) 255)) 1 1 (((tp + 1) + 1 : Nat) : Int)) 2 ((tp + 1) + 1) (aAnd (aShr v 8) 255)) 1 1 ((((tp + 1) + 1) + 1 : Nat) : Int)) 2 (((tp + 1) + 1) + 1) (aAnd (aShr v 0) 255)))) rfl rfl ?_
  refine TT.top0 (z := (((((tp + 1) + 1) + 1) + 1 : Nat) : Int)) (aAdd_n (a := ((tp + 1) + 1) + 1) (b := 1) (by omega)) ?_
  refine TT.steps (cd := cd168) 1 (c' := (24, [(2, 1), (0, v), (0, 0)], [], (up2 (up2 (up2 (up2 (up2 (up2 (up2 (up2 σ 2 tp (aAnd (aShr v 24) 255)) 1 1 ((tp + 1 : Nat) : Int)) 2 (tp + 1) (aAnd (aShr v 16) 255)) 1 1 (((tp + 1) + 1 : Nat) : Int)) 2 ((tp + 1) + 1) (aAnd (aShr v 8) 255)) 1 1 ((((tp + 1) + 1) + 1 : Nat) : Int)) 2 (((tp + 1) + 1) + 1) (aAnd (aShr v 0) 255)) 1 1 (((((tp + 1) + 1) + 1) + 1 : Nat) : Int)))) rfl rfl ?_
  refine TT.inc (cd := cd168) (-8) rfl rfl rfl rfl (fun h => absurd h.2 (show ¬ (0 = 1) by decide)) (by decide) (ls' := [(2, 1), (0, v), (0, -8)]) rfl ?_
  refine TT.steps (cd := cd168) 3 (c' := (26, [(2, 1), (0, v), (0, -8)], [], (up2 (up2 (up2 (up2 (up2 (up2 (up2 (up2 σ 2 tp (aAnd (aShr v 24) 255)) 1 1 ((tp + 1 : Nat) : Int)) 2 (tp + 1) (aAnd (aShr v 16) 255)) 1 1 (((tp + 1) + 1 : Nat) : Int)) 2 ((tp + 1) + 1) (aAnd (aShr v 8) 255)) 1 1 ((((tp + 1) + 1) + 1 : Nat) : Int)) 2 (((tp + 1) + 1) + 1) (aAnd (aShr v 0) 255)) 1 1 (((((tp + 1) + 1) + 1) + 1 : Nat) : Int)))) rfl rfl ?_
  exact TT.ret (cd := cd168) rfl rfl rfl rfl (⟨rfl, rfl⟩)
theorem K_feed0 (X : AX) {l : Nat} {σ ρ : AH} {b np nt ns : Nat} {L : Nat → Nat} {C : Nat → Nat → Nat} {w tp u tl oc : Nat} (h : IV σ ρ l b np nt ns L C w tp u tl oc) (a b0 c d e : Int) (ht : 1600 < tl + 20)  : TT X 181 (0, [(2, 0), (0, a), (0, b0), (0, c), (0, d), (0, e)], [], σ) (fun r σ' => r = some (0, -1) ∧ EX σ' (up2 ρ 315 0 (aAdd (ρ 315 0) 1)) ∧ (∀ K j, (295 ≤ K ∨ K = 30 ∨ K = 192) → σ' K j = σ K j)) := by
  obtain ⟨⟨hl, h05, h33⟩, hL, hN, hPT, hF, hA, hTp, hO, hM, hH⟩ := id h
  obtain ⟨⟨a1, a2, a3, a4⟩, ⟨b1, b2, b3, b4, b5⟩, ⟨c1, c2, c3, c4, c5⟩, hTr, hCa, hAf, hPr, hDi⟩ := id hL
  obtain ⟨hPb, ⟨y1, y2, y3⟩, hhi, hPp⟩ := id hPT
  obtain ⟨t1, t2, t3, t4⟩ := id hTp
  refine TT.steps (cd := cd181) 3 (c' := (3, [(2, 0), (0, a), (0, b0), (0, c), (0, d), (0, e)], [(0, (σ 1 1))], σ)) rfl rfl ?_
  refine TT.top0 (z := ((tl : Nat) : Int)) t1 ?_
  refine TT.steps (cd := cd181) 2 (c' := (5, [(2, 0), (0, a), (0, b0), (0, c), (0, d), (0, e)], [(0, (aAdd ((tl : Nat) : Int) 20))], σ)) rfl rfl ?_
  refine TT.top0 (z := ((tl + 20 : Nat) : Int)) (aAdd_n (a := tl) (b := 20) (by omega)) ?_
  refine TT.steps (cd := cd181) 2 (c' := ((if decide (((tl + 20 : Nat) : Int) ≤ 1600) = true then 11 else 7), [(2, 0), (0, a), (0, b0), (0, c), (0, d), (0, e)], [], σ)) rfl rfl ?_
  refine TT.br (p := ((tl + 20 : Nat) : Int) ≤ 1600) (fun h1 => absurd h1 (show ¬ (((tl + 20 : Nat) : Int) ≤ 1600) by omega)) (fun h1 => ?_)
  refine TT.steps (cd := cd181) 2 (c' := (9, [(2, 0), (0, a), (0, b0), (0, c), (0, d), (0, e)], [(0, 0), (2, 0)], σ)) rfl rfl ?_
  refine TT.call (cd := cd181) rfl rfl rfl (by decide) rfl (w_refuse X 0 (by decide) σ) (fun r2 σ2 hq => ?_)
  rw [hq.1, hq.2]
  exact TT.ret (cd := cd181) rfl rfl rfl rfl (⟨rfl, ⟨_, _, _, _, _, _, _, _, _, _, _, _, IV_ref h 0 (by decide)⟩, fun K j hK => up2_far _ _ _ _ (by omega)⟩)
theorem cPut_1 (σ : AH) (v : Int) (tp : Nat) : cPut σ v tp 1 1 = ((tp + 4 : Nat) : Int) := by unfold cPut; rw [up2_hit]
theorem cPut_fr (σ : AH) (v : Int) (tp K j : Nat) (h : 2 < K) : cPut σ v tp K j = σ K j := by
  unfold cPut
  rw [up2_nq _ (by omega), up2_nq _ (by omega), up2_nq _ (by omega), up2_nq _ (by omega), up2_nq _ (by omega), up2_nq _ (by omega), up2_nq _ (by omega), up2_nq _ (by omega)]
theorem K_feed1 (X : AX) {l : Nat} {σ ρ : AH} {b np nt ns : Nat} {L : Nat → Nat} {C : Nat → Nat → Nat} {w tp u tl oc : Nat} (h : IV σ ρ l b np nt ns L C w tp u tl oc) (a b0 c d e : Int) (ht : tl + 20 ≤ 1600)  : TT X 181 (0, [(2, 0), (0, a), (0, b0), (0, c), (0, d), (0, e)], [], σ) (fun r σ' => r = some (0, ((tl + 20 : Nat) : Int)) ∧ EX σ' (mPut (mPut (mPut (mPut (mPut ρ a tl) b0 (tl + 4)) c (tl + 8)) d (tl + 12)) e (tl + 16)) ∧ (∀ K j, (295 ≤ K ∨ K = 30 ∨ K = 192) → σ' K j = σ K j)) := by
  obtain ⟨⟨hl, h05, h33⟩, hL, hN, hPT, hF, hA, hTp, hO, hM, hH⟩ := id h
  obtain ⟨⟨a1, a2, a3, a4⟩, ⟨b1, b2, b3, b4, b5⟩, ⟨c1, c2, c3, c4, c5⟩, hTr, hCa, hAf, hPr, hDi⟩ := id hL
  obtain ⟨hPb, ⟨y1, y2, y3⟩, hhi, hPp⟩ := id hPT
  obtain ⟨t1, t2, t3, t4⟩ := id hTp
  refine TT.steps (cd := cd181) 3 (c' := (3, [(2, 0), (0, a), (0, b0), (0, c), (0, d), (0, e)], [(0, (σ 1 1))], σ)) rfl rfl ?_
  refine TT.top0 (z := ((tl : Nat) : Int)) t1 ?_
  refine TT.steps (cd := cd181) 2 (c' := (5, [(2, 0), (0, a), (0, b0), (0, c), (0, d), (0, e)], [(0, (aAdd ((tl : Nat) : Int) 20))], σ)) rfl rfl ?_
  refine TT.top0 (z := ((tl + 20 : Nat) : Int)) (aAdd_n (a := tl) (b := 20) (by omega)) ?_
  refine TT.steps (cd := cd181) 2 (c' := ((if decide (((tl + 20 : Nat) : Int) ≤ 1600) = true then 11 else 7), [(2, 0), (0, a), (0, b0), (0, c), (0, d), (0, e)], [], σ)) rfl rfl ?_
  refine TT.br (p := ((tl + 20 : Nat) : Int) ≤ 1600) (fun h1 => ?_) (fun h1 => absurd (show ((tl + 20 : Nat) : Int) ≤ 1600 by omega) h1)
  refine TT.steps (cd := cd181) 3 (c' := (14, [(2, 0), (0, a), (0, b0), (0, c), (0, d), (0, e)], [(0, a), (2, 1)], σ)) rfl rfl ?_
  refine TT.call (cd := cd181) rfl rfl rfl (by decide) rfl (v_append X a (tl) (by omega) σ t1) (fun r2 σ2 hq => ?_)
  rw [hq.1, hq.2]
  refine TT.steps (cd := cd181) 3 (c' := (18, [(2, 0), (0, a), (0, b0), (0, c), (0, d), (0, e)], [(0, b0), (2, 1)], (cPut σ a (tl)))) rfl rfl ?_
  refine TT.call (cd := cd181) rfl rfl rfl (by decide) rfl (v_append X b0 (tl + 4) (by omega) (cPut σ a (tl)) (cPut_1 _ _ _)) (fun r3 σ3 hq => ?_)
  rw [hq.1, hq.2]
  refine TT.steps (cd := cd181) 3 (c' := (22, [(2, 0), (0, a), (0, b0), (0, c), (0, d), (0, e)], [(0, c), (2, 1)], (cPut (cPut σ a (tl)) b0 (tl + 4)))) rfl rfl ?_
  refine TT.call (cd := cd181) rfl rfl rfl (by decide) rfl (v_append X c (tl + 8) (by omega) (cPut (cPut σ a (tl)) b0 (tl + 4)) (cPut_1 _ _ _)) (fun r4 σ4 hq => ?_)
  rw [hq.1, hq.2]
  refine TT.steps (cd := cd181) 3 (c' := (26, [(2, 0), (0, a), (0, b0), (0, c), (0, d), (0, e)], [(0, d), (2, 1)], (cPut (cPut (cPut σ a (tl)) b0 (tl + 4)) c (tl + 8)))) rfl rfl ?_
  refine TT.call (cd := cd181) rfl rfl rfl (by decide) rfl (v_append X d (tl + 12) (by omega) (cPut (cPut (cPut σ a (tl)) b0 (tl + 4)) c (tl + 8)) (cPut_1 _ _ _)) (fun r5 σ5 hq => ?_)
  rw [hq.1, hq.2]
  refine TT.steps (cd := cd181) 3 (c' := (30, [(2, 0), (0, a), (0, b0), (0, c), (0, d), (0, e)], [(0, e), (2, 1)], (cPut (cPut (cPut (cPut σ a (tl)) b0 (tl + 4)) c (tl + 8)) d (tl + 12)))) rfl rfl ?_
  refine TT.call (cd := cd181) rfl rfl rfl (by decide) rfl (v_append X e (tl + 16) (by omega) (cPut (cPut (cPut (cPut σ a (tl)) b0 (tl + 4)) c (tl + 8)) d (tl + 12)) (cPut_1 _ _ _)) (fun r6 σ6 hq => ?_)
  rw [hq.1, hq.2]
  refine TT.steps (cd := cd181) 3 (c' := (34, [(2, 0), (0, a), (0, b0), (0, c), (0, d), (0, e)], [(0, ((cPut (cPut (cPut (cPut (cPut σ a (tl)) b0 (tl + 4)) c (tl + 8)) d (tl + 12)) e (tl + 16)) 1 1))], (cPut (cPut (cPut (cPut (cPut σ a (tl)) b0 (tl + 4)) c (tl + 8)) d (tl + 12)) e (tl + 16)))) rfl rfl ?_
  refine TT.top0 (z := ((tl + 20 : Nat) : Int)) (cPut_1 _ _ _) ?_
  exact TT.ret (cd := cd181) rfl rfl rfl rfl (⟨rfl, ⟨_, _, _, _, _, _, _, _, _, _, _, _, IV_put (IV_put (IV_put (IV_put (IV_put h a (by omega)) b0 (by omega)) c (by omega)) d (by omega)) e (by omega)⟩, fun K j hK => by rw [cPut_fr _ _ _ _ _ (by omega), cPut_fr _ _ _ _ _ (by omega), cPut_fr _ _ _ _ _ (by omega), cPut_fr _ _ _ _ _ (by omega), cPut_fr _ _ _ _ _ (by omega)]⟩)
theorem K_end (X : AX) {l : Nat} {σ ρ : AH} {b np nt ns : Nat} {L : Nat → Nat} {C : Nat → Nat → Nat} {w tp u tl oc : Nat} (h : IV σ ρ l b np nt ns L C w tp u tl oc) (n : Int)  : TT X 182 (0, [(2, 0), (0, n)], [], σ) (fun r σ' => (n < 0 ∨ ρ 295 1 < n → r = some (0, 0) ∧ EX σ' (up2 ρ 315 0 (aAdd (ρ 315 0) 1))) ∧ (¬ (n < 0 ∨ ρ 295 1 < n) → r = some (0, 1) ∧ EX σ' (up2 ρ 295 1 n)) ∧ (∀ K j, (295 ≤ K ∨ K = 30 ∨ K = 192) → σ' K j = σ K j)) := by
  obtain ⟨⟨hl, h05, h33⟩, hL, hN, hPT, hF, hA, hTp, hO, hM, hH⟩ := id h
  obtain ⟨⟨a1, a2, a3, a4⟩, ⟨b1, b2, b3, b4, b5⟩, ⟨c1, c2, c3, c4, c5⟩, hTr, hCa, hAf, hPr, hDi⟩ := id hL
  obtain ⟨hPb, ⟨y1, y2, y3⟩, hhi, hPp⟩ := id hPT
  obtain ⟨t1, t2, t3, t4⟩ := id hTp
  refine TT.steps (cd := cd182) 2 (c' := ((if decide (n < 0) = true then 7 else 2), [(2, 0), (0, n)], [], σ)) rfl rfl ?_
  refine TT.br (p := n < 0) (fun h1 => ?_) (fun h1 => ?_)
  · refine TT.steps (cd := cd182) 2 (c' := (9, [(2, 0), (0, n)], [(0, 0), (2, 0)], σ)) rfl rfl ?_
    refine TT.call (cd := cd182) rfl rfl rfl (by decide) rfl (w_deny X 0 (by decide) σ) (fun r2 σ2 hq => ?_)
    rw [hq.1, hq.2]
    exact TT.ret (cd := cd182) rfl rfl rfl rfl ⟨fun _ => ⟨rfl, ⟨_, _, _, _, _, _, _, _, _, _, _, _, IV_ref h 0 (by decide)⟩⟩, fun hh => absurd (by omega) hh, fun K j hK => up2_far _ _ _ _ (by omega)⟩
  · refine TT.steps (cd := cd182) 4 (c' := (6, [(2, 0), (0, n)], [(0, (σ 1 1)), (0, n)], σ)) rfl rfl ?_
    refine TT.top0 (z := ((tl : Nat) : Int)) t1 ?_
    refine TT.steps (cd := cd182) 1 (c' := ((if decide (n ≤ ((tl : Nat) : Int)) = true then 11 else 7), [(2, 0), (0, n)], [], σ)) rfl rfl ?_
    refine TT.br (p := n ≤ ((tl : Nat) : Int)) (fun h3 => ?_) (fun h3 => ?_)
    · refine TT.steps (cd := cd182) 5 (c' := (16, [(2, 0), (0, n)], [(0, 1)], (up2 σ 1 1 n))) rfl rfl ?_
      obtain ⟨m, rfl⟩ : ∃ m : Nat, n = (m : Int) := ⟨n.toNat, by omega⟩
      exact TT.ret (cd := cd182) rfl rfl rfl rfl ⟨fun hh => absurd hh (by omega), fun _ => ⟨rfl, ⟨_, _, _, _, _, _, _, _, _, _, _, _, IV_end h m (by omega)⟩⟩, fun K j hK => up2_far _ _ _ _ (by omega)⟩
    · refine TT.steps (cd := cd182) 2 (c' := (9, [(2, 0), (0, n)], [(0, 0), (2, 0)], σ)) rfl rfl ?_
      refine TT.call (cd := cd182) rfl rfl rfl (by decide) rfl (w_deny X 0 (by decide) σ) (fun r4 σ4 hq => ?_)
      rw [hq.1, hq.2]
      exact TT.ret (cd := cd182) rfl rfl rfl rfl ⟨fun _ => ⟨rfl, ⟨_, _, _, _, _, _, _, _, _, _, _, _, IV_ref h 0 (by decide)⟩⟩, fun hh => absurd (by omega) hh, fun K j hK => up2_far _ _ _ _ (by omega)⟩
theorem K_fault (X : AX) {l : Nat} {σ ρ : AH} {b np nt ns : Nat} {L : Nat → Nat} {C : Nat → Nat → Nat} {w tp u tl oc : Nat} (h : IV σ ρ l b np nt ns L C w tp u tl oc) (w0 : Int)  : TT X 184 (0, [(2, 0), (0, w0)], [], σ) (fun r σ' => r = some (0, if w0 = 0 then ρ 295 10 else if w0 = 1 then ρ 295 11 else -1) ∧ σ' = σ) := by
  obtain ⟨⟨hl, h05, h33⟩, hL, hN, hPT, hF, hA, hTp, hO, hM, hH⟩ := id h
  obtain ⟨⟨a1, a2, a3, a4⟩, ⟨b1, b2, b3, b4, b5⟩, ⟨c1, c2, c3, c4, c5⟩, hTr, hCa, hAf, hPr, hDi⟩ := id hL
  obtain ⟨hPb, ⟨y1, y2, y3⟩, hhi, hPp⟩ := id hPT
  refine TT.steps (cd := cd184) 2 (c' := ((swOf [(0, 2), (1, 6)] 10 w0), [(2, 0), (0, w0)], [], σ)) rfl rfl ?_
  refine TT.swc (fun h1 => ?_) (fun h1 => ?_)
  · refine TT.steps (cd := cd184) 3 (c' := (5, [(2, 0), (0, w0)], [(0, (σ 3 0))], σ)) rfl rfl ?_
    refine TT.top0 (z := (ρ 295 10)) hM.2.1.1 ?_
    exact TT.ret (cd := cd184) rfl rfl rfl rfl (⟨by (symm; repeat (first | rw [if_pos (by assumption)] | rw [if_neg (by assumption)])), rfl⟩)
  refine TT.swc (fun h2 => ?_) (fun h2 => ?_)
  · refine TT.steps (cd := cd184) 3 (c' := (9, [(2, 0), (0, w0)], [(0, (σ 3 1))], σ)) rfl rfl ?_
    refine TT.top0 (z := (ρ 295 11)) hM.2.1.2 ?_
    exact TT.ret (cd := cd184) rfl rfl rfl rfl (⟨by (symm; repeat (first | rw [if_pos (by assumption)] | rw [if_neg (by assumption)])), rfl⟩)
  show TT X 184 (10, [(2, 0), (0, w0)], [], σ) _
  refine TT.steps (cd := cd184) 1 (c' := (11, [(2, 0), (0, w0)], [(0, -1)], σ)) rfl rfl ?_
  exact TT.ret (cd := cd184) rfl rfl rfl rfl (⟨by (symm; repeat (first | rw [if_pos (by assumption)] | rw [if_neg (by assumption)])), rfl⟩)
theorem K_status0 (X : AX) {l : Nat} {σ ρ : AH} {b np nt ns : Nat} {L : Nat → Nat} {C : Nat → Nat → Nat} {w tp u tl oc : Nat} (h : IV σ ρ l b np nt ns L C w tp u tl oc) (w0 : Int) (hw0 : ¬ (0 ≤ w0 ∧ w0 ≤ 5))  : TT X 218 (0, [(2, 0), (0, w0)], [], σ) (fun r σ' => r = some (0, -1) ∧ σ' = σ) := by
  obtain ⟨⟨hl, h05, h33⟩, hL, hN, hPT, hF, hA, hTp, hO, hM, hH⟩ := id h
  obtain ⟨⟨a1, a2, a3, a4⟩, ⟨b1, b2, b3, b4, b5⟩, ⟨c1, c2, c3, c4, c5⟩, hTr, hCa, hAf, hPr, hDi⟩ := id hL
  obtain ⟨hPb, ⟨y1, y2, y3⟩, hhi, hPp⟩ := id hPT
  refine TT.steps (cd := cd218) 2 (c' := ((if decide (w0 < 0) = true then 10 else 2), [(2, 0), (0, w0)], [], σ)) rfl rfl ?_
  refine TT.br (p := w0 < 0) (fun h1 => ?_) (fun h1 => ?_)
  · refine TT.steps (cd := cd218) 1 (c' := (11, [(2, 0), (0, w0)], [(0, -1)], σ)) rfl rfl ?_
    exact TT.ret (cd := cd218) rfl rfl rfl rfl (⟨rfl, rfl⟩)
  · refine TT.steps (cd := cd218) 3 (c' := ((if decide (6 ≤ w0) = true then 10 else 5), [(2, 0), (0, w0)], [], σ)) rfl rfl ?_
    refine TT.br (p := 6 ≤ w0) (fun h2 => ?_) (fun h2 => ?_)
    · refine TT.steps (cd := cd218) 1 (c' := (11, [(2, 0), (0, w0)], [(0, -1)], σ)) rfl rfl ?_
      exact TT.ret (cd := cd218) rfl rfl rfl rfl (⟨rfl, rfl⟩)
    · omega
theorem K_status1 (X : AX) {l : Nat} {σ ρ : AH} {b np nt ns : Nat} {L : Nat → Nat} {C : Nat → Nat → Nat} {w tp u tl oc : Nat} (h : IV σ ρ l b np nt ns L C w tp u tl oc) (w0 : Nat) (hw0 : w0 < 6)  : TT X 218 (0, [(2, 0), (0, ((w0 : Nat) : Int))], [], σ) (fun r σ' => r = some (0, ρ 315 w0) ∧ σ' = σ) := by
  obtain ⟨⟨hl, h05, h33⟩, hL, hN, hPT, hF, hA, hTp, hO, hM, hH⟩ := id h
  obtain ⟨⟨a1, a2, a3, a4⟩, ⟨b1, b2, b3, b4, b5⟩, ⟨c1, c2, c3, c4, c5⟩, hTr, hCa, hAf, hPr, hDi⟩ := id hL
  obtain ⟨hPb, ⟨y1, y2, y3⟩, hhi, hPp⟩ := id hPT
  refine TT.steps (cd := cd218) 2 (c' := ((if decide (((w0 : Nat) : Int) < 0) = true then 10 else 2), [(2, 0), (0, ((w0 : Nat) : Int))], [], σ)) rfl rfl ?_
  refine TT.br (p := ((w0 : Nat) : Int) < 0) (fun h1 => absurd h1 (show ¬ (((w0 : Nat) : Int) < 0) by omega)) (fun h1 => ?_)
  refine TT.steps (cd := cd218) 3 (c' := ((if decide (6 ≤ ((w0 : Nat) : Int)) = true then 10 else 5), [(2, 0), (0, ((w0 : Nat) : Int))], [], σ)) rfl rfl ?_
  refine TT.br (p := 6 ≤ ((w0 : Nat) : Int)) (fun h2 => absurd h2 (show ¬ (6 ≤ ((w0 : Nat) : Int)) by omega)) (fun h2 => ?_)
  refine TT.steps (cd := cd218) 3 (c' := (8, [(2, 0), (0, ((w0 : Nat) : Int))], [(0, ((w0 : Nat) : Int)), (2, 293)], σ)) rfl rfl ?_
  refine TT.aldN (cd := cd218) (293) (w0) rfl rfl rfl rfl (show w0 < 6 by omega) ?_
  refine TT.top0 (z := (ρ 315 w0)) (hM.2.2 w0 hw0) ?_
  refine TT.steps (cd := cd218) 1 (c' := (11, [(2, 0), (0, ((w0 : Nat) : Int))], [(0, (ρ 315 w0))], σ)) rfl rfl ?_
  exact TT.ret (cd := cd218) rfl rfl rfl rfl (⟨rfl, rfl⟩)
theorem K_octet0 (X : AX) {l : Nat} {σ ρ : AH} {b np nt ns : Nat} {L : Nat → Nat} {C : Nat → Nat → Nat} {w tp u tl oc : Nat} (h : IV σ ρ l b np nt ns L C w tp u tl oc) (k : Int) (hk : ¬ (0 ≤ k ∧ k < (oc : Int)))  : TT X 216 (0, [(2, 0), (0, k)], [], σ) (fun r σ' => r = some (0, -1) ∧ σ' = σ) := by
  obtain ⟨⟨hl, h05, h33⟩, hL, hN, hPT, hF, hA, hTp, hO, hM, hH⟩ := id h
  obtain ⟨⟨a1, a2, a3, a4⟩, ⟨b1, b2, b3, b4, b5⟩, ⟨c1, c2, c3, c4, c5⟩, hTr, hCa, hAf, hPr, hDi⟩ := id hL
  obtain ⟨hPb, ⟨y1, y2, y3⟩, hhi, hPp⟩ := id hPT
  obtain ⟨o1, o2, o3, o4⟩ := id hO
  refine TT.steps (cd := cd216) 2 (c' := ((if decide (k < 0) = true then 11 else 2), [(2, 0), (0, k)], [], σ)) rfl rfl ?_
  refine TT.br (p := k < 0) (fun h1 => ?_) (fun h1 => ?_)
  · refine TT.steps (cd := cd216) 1 (c' := (12, [(2, 0), (0, k)], [(0, -1)], σ)) rfl rfl ?_
    exact TT.ret (cd := cd216) rfl rfl rfl rfl (⟨rfl, rfl⟩)
  · refine TT.steps (cd := cd216) 3 (c' := (5, [(2, 0), (0, k)], [(0, (σ 0 10)), (0, k)], σ)) rfl rfl ?_
    refine TT.top0 (z := ((oc : Nat) : Int)) o1 ?_
    refine TT.steps (cd := cd216) 1 (c' := ((if decide (((oc : Nat) : Int) ≤ k) = true then 11 else 6), [(2, 0), (0, k)], [], σ)) rfl rfl ?_
    refine TT.br (p := ((oc : Nat) : Int) ≤ k) (fun h2 => ?_) (fun h2 => ?_)
    · refine TT.steps (cd := cd216) 1 (c' := (12, [(2, 0), (0, k)], [(0, -1)], σ)) rfl rfl ?_
      exact TT.ret (cd := cd216) rfl rfl rfl rfl (⟨rfl, rfl⟩)
    · omega
theorem K_octet1 (X : AX) {l : Nat} {σ ρ : AH} {b np nt ns : Nat} {L : Nat → Nat} {C : Nat → Nat → Nat} {w tp u tl oc : Nat} (h : IV σ ρ l b np nt ns L C w tp u tl oc) (k : Nat) (hk : k < oc)  : TT X 216 (0, [(2, 0), (0, ((k : Nat) : Int))], [], σ) (fun r σ' => r = some (0, ρ 338 k) ∧ σ' = σ) := by
  obtain ⟨⟨hl, h05, h33⟩, hL, hN, hPT, hF, hA, hTp, hO, hM, hH⟩ := id h
  obtain ⟨⟨a1, a2, a3, a4⟩, ⟨b1, b2, b3, b4, b5⟩, ⟨c1, c2, c3, c4, c5⟩, hTr, hCa, hAf, hPr, hDi⟩ := id hL
  obtain ⟨hPb, ⟨y1, y2, y3⟩, hhi, hPp⟩ := id hPT
  obtain ⟨o1, o2, o3, o4⟩ := id hO
  refine TT.steps (cd := cd216) 2 (c' := ((if decide (((k : Nat) : Int) < 0) = true then 11 else 2), [(2, 0), (0, ((k : Nat) : Int))], [], σ)) rfl rfl ?_
  refine TT.br (p := ((k : Nat) : Int) < 0) (fun h1 => absurd h1 (show ¬ (((k : Nat) : Int) < 0) by omega)) (fun h1 => ?_)
  refine TT.steps (cd := cd216) 3 (c' := (5, [(2, 0), (0, ((k : Nat) : Int))], [(0, (σ 0 10)), (0, ((k : Nat) : Int))], σ)) rfl rfl ?_
  refine TT.top0 (z := ((oc : Nat) : Int)) o1 ?_
  refine TT.steps (cd := cd216) 1 (c' := ((if decide (((oc : Nat) : Int) ≤ ((k : Nat) : Int)) = true then 11 else 6), [(2, 0), (0, ((k : Nat) : Int))], [], σ)) rfl rfl ?_
  refine TT.br (p := ((oc : Nat) : Int) ≤ ((k : Nat) : Int)) (fun h2 => absurd h2 (show ¬ (((oc : Nat) : Int) ≤ ((k : Nat) : Int)) by omega)) (fun h2 => ?_)
  refine TT.steps (cd := cd216) 3 (c' := (9, [(2, 0), (0, ((k : Nat) : Int))], [(0, ((k : Nat) : Int)), (2, 294)], σ)) rfl rfl ?_
  refine TT.aldN (cd := cd216) (294) (k) rfl rfl rfl rfl (show k < 63 by omega) ?_
  refine TT.top0 (z := (ρ 338 k)) (o4 k hk) ?_
  refine TT.steps (cd := cd216) 1 (c' := (12, [(2, 0), (0, ((k : Nat) : Int))], [(0, (ρ 338 k))], σ)) rfl rfl ?_
  exact TT.ret (cd := cd216) rfl rfl rfl rfl (⟨rfl, rfl⟩)
theorem K_person0 (X : AX) {l : Nat} {σ ρ : AH} {b np nt ns : Nat} {L : Nat → Nat} {C : Nat → Nat → Nat} {w tp u tl oc : Nat} (h : IV σ ρ l b np nt ns L C w tp u tl oc) (p w0 : Int) (hp : ¬ (0 ≤ p ∧ p < (np : Int)))  : TT X 189 (0, [(2, 0), (0, p), (0, w0)], [], σ) (fun r σ' => r = some (0, -1) ∧ σ' = σ) := by
  obtain ⟨⟨hl, h05, h33⟩, hL, hN, hPT, hF, hA, hTp, hO, hM, hH⟩ := id h
  obtain ⟨⟨a1, a2, a3, a4⟩, ⟨b1, b2, b3, b4, b5⟩, ⟨c1, c2, c3, c4, c5⟩, hTr, hCa, hAf, hPr, hDi⟩ := id hL
  obtain ⟨hPb, ⟨y1, y2, y3⟩, hhi, hPp⟩ := id hPT
  refine TT.steps (cd := cd189) 2 (c' := (2, [(2, 0), (0, p), (0, w0)], [(0, p), (2, 0)], σ)) rfl rfl ?_
  refine TT.call (cd := cd189) rfl rfl rfl (by decide) rfl (w_isPerson X p σ) (fun r1 σ1 hq => ?_)
  rw [hq.1, hq.2, hPb.1, if_neg hp]
  refine TT.steps (cd := cd189) 2 (c' := (5, [(2, 0), (0, p), (0, w0)], [(0, -1)], σ)) rfl rfl ?_
  exact TT.ret (cd := cd189) rfl rfl rfl rfl (⟨rfl, rfl⟩)
theorem K_person1_8 (X : AX) {σ ρ : AH} {b np nt ns : Nat} {L : Nat → Nat} {C : Nat → Nat → Nat} {w tp u tl oc : Nat} (h : IV σ ρ 8 b np nt ns L C w tp u tl oc) (p : Nat) (w0 : Int) (hp : p < np)  : TT X 189 (0, [(2, 0), (0, ((p : Nat) : Int)), (0, w0)], [], σ) (fun r σ' => r = some (0, if w0 = 0 then ρ 317 p else if w0 = 1 then ρ 318 p else if w0 = 2 then ρ 319 p else if w0 = 3 then ρ 320 p else if w0 = 4 then ρ 321 p else if w0 = 5 then ρ 314 (10 * b + p) else if w0 = 6 then ρ 322 p else -1) ∧ σ' = σ) := by
  obtain ⟨⟨hl, h05, h33⟩, hL, hN, hPT, hF, hA, hTp, hO, hM, hH⟩ := id h
  obtain ⟨⟨a1, a2, a3, a4⟩, ⟨b1, b2, b3, b4, b5⟩, ⟨c1, c2, c3, c4, c5⟩, hTr, hCa, hAf, hPr, hDi⟩ := id hL
  obtain ⟨hPb, ⟨y1, y2, y3⟩, hhi, hPp⟩ := id hPT
  obtain ⟨⟨s1, -, e18a, e18b⟩, e19, ⟨s2, -, e20a, e20b⟩, ⟨s3, -, e21a, e21b⟩⟩ := hPb.2 p hp
  obtain ⟨e17, -, -, -, e22⟩ := hPp p hp
  rw [show 10 * 0 + p = p by omega] at e18b e19 e20b e21b e17 e22
  have e18 : σ 38 p = ρ 318 p := e18a.trans e18b.symm
  have e20 : σ 40 p = ρ 320 p := e20a.trans e20b.symm
  have e21 : σ 41 p = ρ 321 p := e21a.trans e21b.symm
  refine TT.steps (cd := cd189) 2 (c' := (2, [(2, 0), (0, ((p : Nat) : Int)), (0, w0)], [(0, ((p : Nat) : Int)), (2, 0)], σ)) rfl rfl ?_
  refine TT.call (cd := cd189) rfl rfl rfl (by decide) rfl (w_isPerson X ((p : Nat) : Int) σ) (fun r1 σ1 hq => ?_)
  rw [hq.1, hq.2, hPb.1, if_pos ⟨by omega, by omega⟩]
  refine TT.steps (cd := cd189) 3 (c' := ((swOf [(0, 8), (1, 14), (2, 20), (3, 26), (4, 32), (5, 38), (6, 44)] 50 w0), [(2, 0), (0, ((p : Nat) : Int)), (0, w0)], [], σ)) rfl rfl ?_
  refine TT.swc (fun h2 => ?_) (fun h2 => ?_)
  · refine TT.steps (cd := cd189) 4 (c' := (12, [(2, 0), (0, ((p : Nat) : Int)), (0, w0)], [(0, ((p : Nat) : Int)), (2, 37)], σ)) rfl rfl ?_
    refine TT.aldN (cd := cd189) (37) (p) rfl rfl rfl rfl (show p < 10 by omega) ?_
    refine TT.top0 (z := (ρ 317 p)) e17 ?_
    exact TT.ret (cd := cd189) rfl rfl rfl rfl (⟨by (symm; repeat (first | rw [if_pos (by assumption)] | rw [if_neg (by assumption)])), rfl⟩)
  refine TT.swc (fun h3 => ?_) (fun h3 => ?_)
  · refine TT.steps (cd := cd189) 4 (c' := (18, [(2, 0), (0, ((p : Nat) : Int)), (0, w0)], [(0, ((p : Nat) : Int)), (2, 38)], σ)) rfl rfl ?_
    refine TT.aldN (cd := cd189) (38) (p) rfl rfl rfl rfl (show p < 10 by omega) ?_
    refine TT.top0 (z := (ρ 318 p)) e18 ?_
    exact TT.ret (cd := cd189) rfl rfl rfl rfl (⟨by (symm; repeat (first | rw [if_pos (by assumption)] | rw [if_neg (by assumption)])), rfl⟩)
  refine TT.swc (fun h4 => ?_) (fun h4 => ?_)
  · refine TT.steps (cd := cd189) 4 (c' := (24, [(2, 0), (0, ((p : Nat) : Int)), (0, w0)], [(0, ((p : Nat) : Int)), (2, 39)], σ)) rfl rfl ?_
    refine TT.aldN (cd := cd189) (39) (p) rfl rfl rfl rfl (show p < 10 by omega) ?_
    refine TT.top0 (z := (ρ 319 p)) e19 ?_
    exact TT.ret (cd := cd189) rfl rfl rfl rfl (⟨by (symm; repeat (first | rw [if_pos (by assumption)] | rw [if_neg (by assumption)])), rfl⟩)
  refine TT.swc (fun h5 => ?_) (fun h5 => ?_)
  · refine TT.steps (cd := cd189) 4 (c' := (30, [(2, 0), (0, ((p : Nat) : Int)), (0, w0)], [(0, ((p : Nat) : Int)), (2, 40)], σ)) rfl rfl ?_
    refine TT.aldN (cd := cd189) (40) (p) rfl rfl rfl rfl (show p < 10 by omega) ?_
    refine TT.top0 (z := (ρ 320 p)) e20 ?_
    exact TT.ret (cd := cd189) rfl rfl rfl rfl (⟨by (symm; repeat (first | rw [if_pos (by assumption)] | rw [if_neg (by assumption)])), rfl⟩)
  refine TT.swc (fun h6 => ?_) (fun h6 => ?_)
  · refine TT.steps (cd := cd189) 4 (c' := (36, [(2, 0), (0, ((p : Nat) : Int)), (0, w0)], [(0, ((p : Nat) : Int)), (2, 41)], σ)) rfl rfl ?_
    refine TT.aldN (cd := cd189) (41) (p) rfl rfl rfl rfl (show p < 10 by omega) ?_
    refine TT.top0 (z := (ρ 321 p)) e21 ?_
    exact TT.ret (cd := cd189) rfl rfl rfl rfl (⟨by (symm; repeat (first | rw [if_pos (by assumption)] | rw [if_neg (by assumption)])), rfl⟩)
  refine TT.swc (fun h7 => ?_) (fun h7 => ?_)
  · refine TT.steps (cd := cd189) 2 (c' := (40, [(2, 0), (0, ((p : Nat) : Int)), (0, w0)], [(2, (σ 0 5))], σ)) rfl rfl ?_
    refine TT.top0 (z := 8) h05 ?_
    refine TT.steps (cd := cd189) 2 (c' := (42, [(2, 0), (0, ((p : Nat) : Int)), (0, w0)], [(0, ((p : Nat) : Int)), (2, 12)], σ)) rfl rfl ?_
    refine TT.aldN (cd := cd189) (12) (p) rfl rfl rfl rfl (show p < 10 by omega) ?_
    refine TT.top0 (z := (ρ 314 (10 * b + p))) (hPr p hp).1 ?_
    exact TT.ret (cd := cd189) rfl rfl rfl rfl (⟨by (symm; repeat (first | rw [if_pos (by assumption)] | rw [if_neg (by assumption)])), rfl⟩)
  refine TT.swc (fun h8 => ?_) (fun h8 => ?_)
  · refine TT.steps (cd := cd189) 3 (c' := (47, [(2, 0), (0, ((p : Nat) : Int)), (0, w0)], [(0, (σ 36 2))], σ)) rfl rfl ?_
    refine TT.top0 (z := ((bs (zH ρ 0) np : Nat) : Int)) hhi ?_
    refine TT.steps (cd := cd189) 1 (c' := (48, [(2, 0), (0, ((p : Nat) : Int)), (0, w0)], [(0, ((p : Nat) : Int)), (0, ((bs (zH ρ 0) np : Nat) : Int))], σ)) rfl rfl ?_
    refine TT.call (cd := cd189) rfl rfl rfl (by decide) rfl (u_bit X ((bs (zH ρ 0) np : Nat) : Int) ((p : Nat) : Int) σ) (fun r9 σ9 hq => ?_)
    rw [hq.1, hq.2, bs_bitI _ (by omega) hp]
    rw [show (if zH ρ 0 p = true then (1 : Int) else 0) = ρ 322 p by rcases e22 with g | g <;> simp [zH, g]]
    exact TT.ret (cd := cd189) rfl rfl rfl rfl (⟨by (symm; repeat (first | rw [if_pos (by assumption)] | rw [if_neg (by assumption)])), rfl⟩)
  show TT X 189 (50, [(2, 0), (0, ((p : Nat) : Int)), (0, w0)], [], σ) _
  refine TT.steps (cd := cd189) 1 (c' := (51, [(2, 0), (0, ((p : Nat) : Int)), (0, w0)], [(0, -1)], σ)) rfl rfl ?_
  exact TT.ret (cd := cd189) rfl rfl rfl rfl (⟨by (symm; repeat (first | rw [if_pos (by assumption)] | rw [if_neg (by assumption)])), rfl⟩)
theorem K_person1_170 (X : AX) {σ ρ : AH} {b np nt ns : Nat} {L : Nat → Nat} {C : Nat → Nat → Nat} {w tp u tl oc : Nat} (h : IV σ ρ 170 b np nt ns L C w tp u tl oc) (p : Nat) (w0 : Int) (hp : p < np)  : TT X 189 (0, [(2, 0), (0, ((p : Nat) : Int)), (0, w0)], [], σ) (fun r σ' => r = some (0, if w0 = 0 then ρ 317 p else if w0 = 1 then ρ 318 p else if w0 = 2 then ρ 319 p else if w0 = 3 then ρ 320 p else if w0 = 4 then ρ 321 p else if w0 = 5 then ρ 314 (10 * b + p) else if w0 = 6 then ρ 322 p else -1) ∧ σ' = σ) := by
  obtain ⟨⟨hl, h05, h33⟩, hL, hN, hPT, hF, hA, hTp, hO, hM, hH⟩ := id h
  obtain ⟨⟨a1, a2, a3, a4⟩, ⟨b1, b2, b3, b4, b5⟩, ⟨c1, c2, c3, c4, c5⟩, hTr, hCa, hAf, hPr, hDi⟩ := id hL
  obtain ⟨hPb, ⟨y1, y2, y3⟩, hhi, hPp⟩ := id hPT
  obtain ⟨⟨s1, -, e18a, e18b⟩, e19, ⟨s2, -, e20a, e20b⟩, ⟨s3, -, e21a, e21b⟩⟩ := hPb.2 p hp
  obtain ⟨e17, -, -, -, e22⟩ := hPp p hp
  rw [show 10 * 0 + p = p by omega] at e18b e19 e20b e21b e17 e22
  have e18 : σ 38 p = ρ 318 p := e18a.trans e18b.symm
  have e20 : σ 40 p = ρ 320 p := e20a.trans e20b.symm
  have e21 : σ 41 p = ρ 321 p := e21a.trans e21b.symm
  refine TT.steps (cd := cd189) 2 (c' := (2, [(2, 0), (0, ((p : Nat) : Int)), (0, w0)], [(0, ((p : Nat) : Int)), (2, 0)], σ)) rfl rfl ?_
  refine TT.call (cd := cd189) rfl rfl rfl (by decide) rfl (w_isPerson X ((p : Nat) : Int) σ) (fun r1 σ1 hq => ?_)
  rw [hq.1, hq.2, hPb.1, if_pos ⟨by omega, by omega⟩]
  refine TT.steps (cd := cd189) 3 (c' := ((swOf [(0, 8), (1, 14), (2, 20), (3, 26), (4, 32), (5, 38), (6, 44)] 50 w0), [(2, 0), (0, ((p : Nat) : Int)), (0, w0)], [], σ)) rfl rfl ?_
  refine TT.swc (fun h2 => ?_) (fun h2 => ?_)
  · refine TT.steps (cd := cd189) 4 (c' := (12, [(2, 0), (0, ((p : Nat) : Int)), (0, w0)], [(0, ((p : Nat) : Int)), (2, 37)], σ)) rfl rfl ?_
    refine TT.aldN (cd := cd189) (37) (p) rfl rfl rfl rfl (show p < 10 by omega) ?_
    refine TT.top0 (z := (ρ 317 p)) e17 ?_
    exact TT.ret (cd := cd189) rfl rfl rfl rfl (⟨by (symm; repeat (first | rw [if_pos (by assumption)] | rw [if_neg (by assumption)])), rfl⟩)
  refine TT.swc (fun h3 => ?_) (fun h3 => ?_)
  · refine TT.steps (cd := cd189) 4 (c' := (18, [(2, 0), (0, ((p : Nat) : Int)), (0, w0)], [(0, ((p : Nat) : Int)), (2, 38)], σ)) rfl rfl ?_
    refine TT.aldN (cd := cd189) (38) (p) rfl rfl rfl rfl (show p < 10 by omega) ?_
    refine TT.top0 (z := (ρ 318 p)) e18 ?_
    exact TT.ret (cd := cd189) rfl rfl rfl rfl (⟨by (symm; repeat (first | rw [if_pos (by assumption)] | rw [if_neg (by assumption)])), rfl⟩)
  refine TT.swc (fun h4 => ?_) (fun h4 => ?_)
  · refine TT.steps (cd := cd189) 4 (c' := (24, [(2, 0), (0, ((p : Nat) : Int)), (0, w0)], [(0, ((p : Nat) : Int)), (2, 39)], σ)) rfl rfl ?_
    refine TT.aldN (cd := cd189) (39) (p) rfl rfl rfl rfl (show p < 10 by omega) ?_
    refine TT.top0 (z := (ρ 319 p)) e19 ?_
    exact TT.ret (cd := cd189) rfl rfl rfl rfl (⟨by (symm; repeat (first | rw [if_pos (by assumption)] | rw [if_neg (by assumption)])), rfl⟩)
  refine TT.swc (fun h5 => ?_) (fun h5 => ?_)
  · refine TT.steps (cd := cd189) 4 (c' := (30, [(2, 0), (0, ((p : Nat) : Int)), (0, w0)], [(0, ((p : Nat) : Int)), (2, 40)], σ)) rfl rfl ?_
    refine TT.aldN (cd := cd189) (40) (p) rfl rfl rfl rfl (show p < 10 by omega) ?_
    refine TT.top0 (z := (ρ 320 p)) e20 ?_
    exact TT.ret (cd := cd189) rfl rfl rfl rfl (⟨by (symm; repeat (first | rw [if_pos (by assumption)] | rw [if_neg (by assumption)])), rfl⟩)
  refine TT.swc (fun h6 => ?_) (fun h6 => ?_)
  · refine TT.steps (cd := cd189) 4 (c' := (36, [(2, 0), (0, ((p : Nat) : Int)), (0, w0)], [(0, ((p : Nat) : Int)), (2, 41)], σ)) rfl rfl ?_
    refine TT.aldN (cd := cd189) (41) (p) rfl rfl rfl rfl (show p < 10 by omega) ?_
    refine TT.top0 (z := (ρ 321 p)) e21 ?_
    exact TT.ret (cd := cd189) rfl rfl rfl rfl (⟨by (symm; repeat (first | rw [if_pos (by assumption)] | rw [if_neg (by assumption)])), rfl⟩)
  refine TT.swc (fun h7 => ?_) (fun h7 => ?_)
  · refine TT.steps (cd := cd189) 2 (c' := (40, [(2, 0), (0, ((p : Nat) : Int)), (0, w0)], [(2, (σ 0 5))], σ)) rfl rfl ?_
    refine TT.top0 (z := 170) h05 ?_
    refine TT.steps (cd := cd189) 2 (c' := (42, [(2, 0), (0, ((p : Nat) : Int)), (0, w0)], [(0, ((p : Nat) : Int)), (2, 174)], σ)) rfl rfl ?_
    refine TT.aldN (cd := cd189) (174) (p) rfl rfl rfl rfl (show p < 10 by omega) ?_
    refine TT.top0 (z := (ρ 314 (10 * b + p))) (hPr p hp).1 ?_
    exact TT.ret (cd := cd189) rfl rfl rfl rfl (⟨by (symm; repeat (first | rw [if_pos (by assumption)] | rw [if_neg (by assumption)])), rfl⟩)
  refine TT.swc (fun h8 => ?_) (fun h8 => ?_)
  · refine TT.steps (cd := cd189) 3 (c' := (47, [(2, 0), (0, ((p : Nat) : Int)), (0, w0)], [(0, (σ 36 2))], σ)) rfl rfl ?_
    refine TT.top0 (z := ((bs (zH ρ 0) np : Nat) : Int)) hhi ?_
    refine TT.steps (cd := cd189) 1 (c' := (48, [(2, 0), (0, ((p : Nat) : Int)), (0, w0)], [(0, ((p : Nat) : Int)), (0, ((bs (zH ρ 0) np : Nat) : Int))], σ)) rfl rfl ?_
    refine TT.call (cd := cd189) rfl rfl rfl (by decide) rfl (u_bit X ((bs (zH ρ 0) np : Nat) : Int) ((p : Nat) : Int) σ) (fun r9 σ9 hq => ?_)
    rw [hq.1, hq.2, bs_bitI _ (by omega) hp]
    rw [show (if zH ρ 0 p = true then (1 : Int) else 0) = ρ 322 p by rcases e22 with g | g <;> simp [zH, g]]
    exact TT.ret (cd := cd189) rfl rfl rfl rfl (⟨by (symm; repeat (first | rw [if_pos (by assumption)] | rw [if_neg (by assumption)])), rfl⟩)
  show TT X 189 (50, [(2, 0), (0, ((p : Nat) : Int)), (0, w0)], [], σ) _
  refine TT.steps (cd := cd189) 1 (c' := (51, [(2, 0), (0, ((p : Nat) : Int)), (0, w0)], [(0, -1)], σ)) rfl rfl ?_
  exact TT.ret (cd := cd189) rfl rfl rfl rfl (⟨by (symm; repeat (first | rw [if_pos (by assumption)] | rw [if_neg (by assumption)])), rfl⟩)
theorem K_person1 (X : AX) {l : Nat} {σ ρ : AH} {b np nt ns : Nat} {L : Nat → Nat} {C : Nat → Nat → Nat} {w tp u tl oc : Nat} (h : IV σ ρ l b np nt ns L C w tp u tl oc) (p : Nat) (w0 : Int) (hp : p < np)  : TT X 189 (0, [(2, 0), (0, ((p : Nat) : Int)), (0, w0)], [], σ) (fun r σ' => r = some (0, if w0 = 0 then ρ 317 p else if w0 = 1 then ρ 318 p else if w0 = 2 then ρ 319 p else if w0 = 3 then ρ 320 p else if w0 = 4 then ρ 321 p else if w0 = 5 then ρ 314 (10 * b + p) else if w0 = 6 then ρ 322 p else -1) ∧ σ' = σ) := by
  rcases h.1.1 with rfl | rfl
  · exact K_person1_8 X h p w0 hp
  · exact K_person1_170 X h p w0 hp
