/-! image itself. -/
theorem vl_im (X : AX) (Q : Option AV → AH → Prop) {σ ρ : AH} {np ns : Nat} (hPT : PT σ ρ 36 0 np ns) (c1 : np ≤ 10) (c3 : ns ≤ 14)  (kk : ∀ (τ : AH), IM σ τ (imR ρ) np → TT X 215 (98, [(2, 0), (0, (((2 + 6 * np) : Nat) : Int)), (0, ((np : Nat) : Int))], [], τ) Q) : ∀ (d n : Nat), n + d = np → ∀ (τ : AH), IM σ τ (imR ρ) n → TT X 215 (22, [(2, 0), (0, (((2 + 6 * n) : Nat) : Int)), (0, ((n : Nat) : Int))], [], τ) Q := by
  intro d
  induction d with
  | zero =>
    intro n hn τ hP
    have hnn : n = np := by omega
    rw [hnn] at hP ⊢
    refine TT.steps (cd := cd215) 4 (c' := (26, [(2, 0), (0, (((2 + 6 * np) : Nat) : Int)), (0, ((np : Nat) : Int))], [(0, (τ 36 0)), (0, ((np : Nat) : Int))], τ)) rfl rfl ?_
    refine TT.top0 (z := ((np : Nat) : Int)) ((hP.1 _ _ (by decide)).trans hPT.1.1) ?_
    refine TT.steps (cd := cd215) 1 (c' := ((if decide (((np : Nat) : Int) ≤ ((np : Nat) : Int)) = true then 98 else 27), [(2, 0), (0, (((2 + 6 * np) : Nat) : Int)), (0, ((np : Nat) : Int))], [], τ)) rfl rfl ?_
    refine TT.br (p := ((np : Nat) : Int) ≤ ((np : Nat) : Int)) (fun h1 => ?_) (fun h1 => absurd (show ((np : Nat) : Int) ≤ ((np : Nat) : Int) by omega) h1)
    exact kk _ hP
  | succ d ih =>
    intro n hn τ hP
    obtain ⟨i0, i1, i2, i3, i4, i5⟩ := im_vals hPT c3 (show n < np by omega)
    refine TT.steps (cd := cd215) 4 (c' := (26, [(2, 0), (0, (((2 + 6 * n) : Nat) : Int)), (0, ((n : Nat) : Int))], [(0, (τ 36 0)), (0, ((n : Nat) : Int))], τ)) rfl rfl ?_
    refine TT.top0 (z := ((np : Nat) : Int)) ((hP.1 _ _ (by decide)).trans hPT.1.1) ?_
    refine TT.steps (cd := cd215) 1 (c' := ((if decide (((np : Nat) : Int) ≤ ((n : Nat) : Int)) = true then 98 else 27), [(2, 0), (0, (((2 + 6 * n) : Nat) : Int)), (0, ((n : Nat) : Int))], [], τ)) rfl rfl ?_
    refine TT.br (p := ((np : Nat) : Int) ≤ ((n : Nat) : Int)) (fun h1 => absurd h1 (show ¬ (((np : Nat) : Int) ≤ ((n : Nat) : Int)) by omega)) (fun h1 => ?_)
    refine TT.steps (cd := cd215) 7 (c' := (34, [(2, 0), (0, (((2 + 6 * n) : Nat) : Int)), (0, ((n : Nat) : Int))], [(0, ((n : Nat) : Int)), (2, 37), (0, (((2 + 6 * n) : Nat) : Int)), (2, 294)], τ)) rfl rfl ?_
    refine TT.aldN (cd := cd215) (37) (n) rfl rfl rfl rfl (show n < 10 by omega) ?_
    refine TT.top0 (z := (σ 37 n)) (hP.1 _ _ (by decide)) ?_
    refine TT.astN (cd := cd215) (294) ((2 + 6 * n)) rfl rfl rfl rfl (show (2 + 6 * n) < 63 by omega) ?_
    refine TT.steps (cd := cd215) 5 (c' := (41, [(2, 0), (0, (((2 + 6 * n) : Nat) : Int)), (0, ((n : Nat) : Int))], [(0, (aAdd (((2 + 6 * n) : Nat) : Int) 1)), (2, 294)], (up2 τ 294 ((2 + 6 * n)) (σ 37 n)))) rfl rfl ?_
    refine TT.top0 (z := ((((2 + 6 * n)) + 1 : Nat) : Int)) (aAdd_n (a := (2 + 6 * n)) (b := 1) (by omega)) ?_
    refine TT.steps (cd := cd215) 4 (c' := (45, [(2, 0), (0, (((2 + 6 * n) : Nat) : Int)), (0, ((n : Nat) : Int))], [(0, ((n : Nat) : Int)), (2, 38), (0, ((((2 + 6 * n)) + 1 : Nat) : Int)), (2, 294)], (up2 τ 294 ((2 + 6 * n)) (σ 37 n)))) rfl rfl ?_
    refine TT.aldN (cd := cd215) (38) (n) rfl rfl rfl rfl (show n < 10 by omega) ?_
    refine TT.top0 (z := (σ 38 n)) ((up2_far (k := 294) (k' := 38) _ _ _ _ (by decide)).trans (hP.1 _ _ (by decide))) ?_
    refine TT.steps (cd := cd215) 2 (c' := (48, [(2, 0), (0, (((2 + 6 * n) : Nat) : Int)), (0, ((n : Nat) : Int))], [(0, (aAdd (σ 38 n) 1)), (0, ((((2 + 6 * n)) + 1 : Nat) : Int)), (2, 294)], (up2 τ 294 ((2 + 6 * n)) (σ 37 n)))) rfl rfl ?_
    refine TT.astN (cd := cd215) (294) (((2 + 6 * n)) + 1) rfl rfl rfl rfl (show ((2 + 6 * n)) + 1 < 63 by omega) ?_
    refine TT.steps (cd := cd215) 5 (c' := (54, [(2, 0), (0, (((2 + 6 * n) : Nat) : Int)), (0, ((n : Nat) : Int))], [(0, (aAdd (((2 + 6 * n) : Nat) : Int) 2)), (2, 294)], (up2 (up2 τ 294 ((2 + 6 * n)) (σ 37 n)) 294 (((2 + 6 * n)) + 1) (aAdd (σ 38 n) 1)))) rfl rfl ?_
    refine TT.top0 (z := ((((2 + 6 * n)) + 2 : Nat) : Int)) (aAdd_n (a := (2 + 6 * n)) (b := 2) (by omega)) ?_
    refine TT.steps (cd := cd215) 4 (c' := (58, [(2, 0), (0, (((2 + 6 * n) : Nat) : Int)), (0, ((n : Nat) : Int))], [(0, ((n : Nat) : Int)), (2, 39), (0, ((((2 + 6 * n)) + 2 : Nat) : Int)), (2, 294)], (up2 (up2 τ 294 ((2 + 6 * n)) (σ 37 n)) 294 (((2 + 6 * n)) + 1) (aAdd (σ 38 n) 1)))) rfl rfl ?_
    refine TT.aldN (cd := cd215) (39) (n) rfl rfl rfl rfl (show n < 10 by omega) ?_
    refine TT.top0 (z := (σ 39 n)) (((up2_far (k := 294) (k' := 39) _ _ _ _ (by decide)).trans (up2_far (k := 294) (k' := 39) _ _ _ _ (by decide))).trans (hP.1 _ _ (by decide))) ?_
    refine TT.steps (cd := cd215) 2 (c' := (61, [(2, 0), (0, (((2 + 6 * n) : Nat) : Int)), (0, ((n : Nat) : Int))], [(0, (aAdd (σ 39 n) 1)), (0, ((((2 + 6 * n)) + 2 : Nat) : Int)), (2, 294)], (up2 (up2 τ 294 ((2 + 6 * n)) (σ 37 n)) 294 (((2 + 6 * n)) + 1) (aAdd (σ 38 n) 1)))) rfl rfl ?_
    refine TT.astN (cd := cd215) (294) (((2 + 6 * n)) + 2) rfl rfl rfl rfl (show ((2 + 6 * n)) + 2 < 63 by omega) ?_
    refine TT.steps (cd := cd215) 5 (c' := (67, [(2, 0), (0, (((2 + 6 * n) : Nat) : Int)), (0, ((n : Nat) : Int))], [(0, (aAdd (((2 + 6 * n) : Nat) : Int) 3)), (2, 294)], (up2 (up2 (up2 τ 294 ((2 + 6 * n)) (σ 37 n)) 294 (((2 + 6 * n)) + 1) (aAdd (σ 38 n) 1)) 294 (((2 + 6 * n)) + 2) (aAdd (σ 39 n) 1)))) rfl rfl ?_
    refine TT.top0 (z := ((((2 + 6 * n)) + 3 : Nat) : Int)) (aAdd_n (a := (2 + 6 * n)) (b := 3) (by omega)) ?_
    refine TT.steps (cd := cd215) 4 (c' := (71, [(2, 0), (0, (((2 + 6 * n) : Nat) : Int)), (0, ((n : Nat) : Int))], [(0, ((n : Nat) : Int)), (2, 40), (0, ((((2 + 6 * n)) + 3 : Nat) : Int)), (2, 294)], (up2 (up2 (up2 τ 294 ((2 + 6 * n)) (σ 37 n)) 294 (((2 + 6 * n)) + 1) (aAdd (σ 38 n) 1)) 294 (((2 + 6 * n)) + 2) (aAdd (σ 39 n) 1)))) rfl rfl ?_
    refine TT.aldN (cd := cd215) (40) (n) rfl rfl rfl rfl (show n < 10 by omega) ?_
    refine TT.top0 (z := (σ 40 n)) ((((up2_far (k := 294) (k' := 40) _ _ _ _ (by decide)).trans (up2_far (k := 294) (k' := 40) _ _ _ _ (by decide))).trans (up2_far (k := 294) (k' := 40) _ _ _ _ (by decide))).trans (hP.1 _ _ (by decide))) ?_
    refine TT.astN (cd := cd215) (294) (((2 + 6 * n)) + 3) rfl rfl rfl rfl (show ((2 + 6 * n)) + 3 < 63 by omega) ?_
    refine TT.steps (cd := cd215) 5 (c' := (78, [(2, 0), (0, (((2 + 6 * n) : Nat) : Int)), (0, ((n : Nat) : Int))], [(0, (aAdd (((2 + 6 * n) : Nat) : Int) 4)), (2, 294)], (up2 (up2 (up2 (up2 τ 294 ((2 + 6 * n)) (σ 37 n)) 294 (((2 + 6 * n)) + 1) (aAdd (σ 38 n) 1)) 294 (((2 + 6 * n)) + 2) (aAdd (σ 39 n) 1)) 294 (((2 + 6 * n)) + 3) (σ 40 n)))) rfl rfl ?_
    refine TT.top0 (z := ((((2 + 6 * n)) + 4 : Nat) : Int)) (aAdd_n (a := (2 + 6 * n)) (b := 4) (by omega)) ?_
    refine TT.steps (cd := cd215) 4 (c' := (82, [(2, 0), (0, (((2 + 6 * n) : Nat) : Int)), (0, ((n : Nat) : Int))], [(0, ((n : Nat) : Int)), (2, 41), (0, ((((2 + 6 * n)) + 4 : Nat) : Int)), (2, 294)], (up2 (up2 (up2 (up2 τ 294 ((2 + 6 * n)) (σ 37 n)) 294 (((2 + 6 * n)) + 1) (aAdd (σ 38 n) 1)) 294 (((2 + 6 * n)) + 2) (aAdd (σ 39 n) 1)) 294 (((2 + 6 * n)) + 3) (σ 40 n)))) rfl rfl ?_
    refine TT.aldN (cd := cd215) (41) (n) rfl rfl rfl rfl (show n < 10 by omega) ?_
    refine TT.top0 (z := (σ 41 n)) (((((up2_far (k := 294) (k' := 41) _ _ _ _ (by decide)).trans (up2_far (k := 294) (k' := 41) _ _ _ _ (by decide))).trans (up2_far (k := 294) (k' := 41) _ _ _ _ (by decide))).trans (up2_far (k := 294) (k' := 41) _ _ _ _ (by decide))).trans (hP.1 _ _ (by decide))) ?_
    refine TT.astN (cd := cd215) (294) (((2 + 6 * n)) + 4) rfl rfl rfl rfl (show ((2 + 6 * n)) + 4 < 63 by omega) ?_
    refine TT.steps (cd := cd215) 5 (c' := (89, [(2, 0), (0, (((2 + 6 * n) : Nat) : Int)), (0, ((n : Nat) : Int))], [(0, (aAdd (((2 + 6 * n) : Nat) : Int) 5)), (2, 294)], (up2 (up2 (up2 (up2 (up2 τ 294 ((2 + 6 * n)) (σ 37 n)) 294 (((2 + 6 * n)) + 1) (aAdd (σ 38 n) 1)) 294 (((2 + 6 * n)) + 2) (aAdd (σ 39 n) 1)) 294 (((2 + 6 * n)) + 3) (σ 40 n)) 294 (((2 + 6 * n)) + 4) (σ 41 n)))) rfl rfl ?_
    refine TT.top0 (z := ((((2 + 6 * n)) + 5 : Nat) : Int)) (aAdd_n (a := (2 + 6 * n)) (b := 5) (by omega)) ?_
    refine TT.steps (cd := cd215) 3 (c' := (92, [(2, 0), (0, (((2 + 6 * n) : Nat) : Int)), (0, ((n : Nat) : Int))], [(0, ((up2 (up2 (up2 (up2 (up2 τ 294 ((2 + 6 * n)) (σ 37 n)) 294 (((2 + 6 * n)) + 1) (aAdd (σ 38 n) 1)) 294 (((2 + 6 * n)) + 2) (aAdd (σ 39 n) 1)) 294 (((2 + 6 * n)) + 3) (σ 40 n)) 294 (((2 + 6 * n)) + 4) (σ 41 n)) 36 2)), (0, ((((2 + 6 * n)) + 5 : Nat) : Int)), (2, 294)], (up2 (up2 (up2 (up2 (up2 τ 294 ((2 + 6 * n)) (σ 37 n)) 294 (((2 + 6 * n)) + 1) (aAdd (σ 38 n) 1)) 294 (((2 + 6 * n)) + 2) (aAdd (σ 39 n) 1)) 294 (((2 + 6 * n)) + 3) (σ 40 n)) 294 (((2 + 6 * n)) + 4) (σ 41 n)))) rfl rfl ?_
    refine TT.top0 (z := ((bs (zH ρ 0) np : Nat) : Int)) ((((((up2_far (k := 294) (k' := 36) _ _ _ _ (by decide)).trans (up2_far (k := 294) (k' := 36) _ _ _ _ (by decide))).trans (up2_far (k := 294) (k' := 36) _ _ _ _ (by decide))).trans (up2_far (k := 294) (k' := 36) _ _ _ _ (by decide))).trans (up2_far (k := 294) (k' := 36) _ _ _ _ (by decide))).trans ((hP.1 _ _ (by decide)).trans hPT.2.2.1)) ?_
    refine TT.steps (cd := cd215) 1 (c' := (93, [(2, 0), (0, (((2 + 6 * n) : Nat) : Int)), (0, ((n : Nat) : Int))], [(0, ((n : Nat) : Int)), (0, ((bs (zH ρ 0) np : Nat) : Int)), (0, ((((2 + 6 * n)) + 5 : Nat) : Int)), (2, 294)], (up2 (up2 (up2 (up2 (up2 τ 294 ((2 + 6 * n)) (σ 37 n)) 294 (((2 + 6 * n)) + 1) (aAdd (σ 38 n) 1)) 294 (((2 + 6 * n)) + 2) (aAdd (σ 39 n) 1)) 294 (((2 + 6 * n)) + 3) (σ 40 n)) 294 (((2 + 6 * n)) + 4) (σ 41 n)))) rfl rfl ?_
    refine TT.call (cd := cd215) rfl rfl rfl (by decide) rfl (u_bit X ((bs (zH ρ 0) np : Nat) : Int) ((n : Nat) : Int) (up2 (up2 (up2 (up2 (up2 τ 294 ((2 + 6 * n)) (σ 37 n)) 294 (((2 + 6 * n)) + 1) (aAdd (σ 38 n) 1)) 294 (((2 + 6 * n)) + 2) (aAdd (σ 39 n) 1)) 294 (((2 + 6 * n)) + 3) (σ 40 n)) 294 (((2 + 6 * n)) + 4) (σ 41 n))) (fun r2 σ2 hq => ?_)
    rw [hq.1, hq.2, bs_bitI (zH ρ 0) (by omega) (by omega)]
    refine TT.astN (cd := cd215) (294) (((2 + 6 * n)) + 5) rfl rfl rfl rfl (show ((2 + 6 * n)) + 5 < 63 by omega) ?_
    refine TT.inc (cd := cd215) ((((2 + 6 * n)) + 6 : Nat) : Int) rfl rfl rfl rfl (fun h => absurd h.2 (show ¬ (2 = 1) by decide)) (aAdd_n (a := (2 + 6 * n)) (b := 6) (by omega)) (ls' := [(2, 0), (0, ((((2 + 6 * n)) + 6 : Nat) : Int)), (0, ((n : Nat) : Int))]) rfl ?_
    refine TT.inc (cd := cd215) ((n + 1 : Nat) : Int) rfl rfl rfl rfl (fun h => absurd h.2 (show ¬ (0 = 1) by decide)) (aAdd_n (a := n) (b := 1) (by omega)) (ls' := [(2, 0), (0, ((((2 + 6 * n)) + 6 : Nat) : Int)), (0, ((n + 1 : Nat) : Int))]) rfl ?_
    refine TT.steps (cd := cd215) 1 (c' := (22, [(2, 0), (0, ((((2 + 6 * n)) + 6 : Nat) : Int)), (0, ((n + 1 : Nat) : Int))], [], (up2 (up2 (up2 (up2 (up2 (up2 τ 294 ((2 + 6 * n)) (σ 37 n)) 294 (((2 + 6 * n)) + 1) (aAdd (σ 38 n) 1)) 294 (((2 + 6 * n)) + 2) (aAdd (σ 39 n) 1)) 294 (((2 + 6 * n)) + 3) (σ 40 n)) 294 (((2 + 6 * n)) + 4) (σ 41 n)) 294 (((2 + 6 * n)) + 5) ((if (zH ρ 0) n = true then 1 else 0) : Int)))) rfl rfl ?_
    have e1 : ((((2 + 6 * n)) + 6 : Nat) : Int) = (((2 + 6 * (n + 1)) : Nat) : Int) := by omega
    rw [e1]
    clear e1
    have e2 : ((n + 1 : Nat) : Int) = (((n + 1) : Nat) : Int) := by omega
    rw [e2]
    clear e2
    exact ih (n + 1) (by omega) _ (im_step hP i0 i1 i2 i3 i4 i5)
