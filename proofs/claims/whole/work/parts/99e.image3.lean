/-! image itself. -/
theorem K_image (X : AX) {l : Nat} {σ ρ : AH} {b np nt ns : Nat} {L : Nat → Nat} {C : Nat → Nat → Nat} {w tp u tl oc : Nat} (h : IV σ ρ l b np nt ns L C w tp u tl oc)  : TT X 215 (0, [(2, 0), (9, 0), (9, 0)], [], σ) (fun r σ' => r = some (0, ((2 + 6 * np + 1 : Nat) : Int)) ∧ IV σ' (mWr (mImP (imR ρ) np) (sumI (fun k => (mImP (imR ρ) np) 338 k) (2 + 6 * np)) (2 + 6 * np)) l b np nt ns L C w tp u tl (2 + 6 * np + 1) ∧ (∀ K j, (295 ≤ K ∨ K = 30 ∨ K = 192) → σ' K j = σ K j)) := by
  obtain ⟨⟨hl, h05, h33⟩, hL, hN, hPT, hF, hA, hTp, hO, hM, hH⟩ := id h
  obtain ⟨⟨a1, a2, a3, a4⟩, ⟨b1, b2, b3, b4, b5⟩, ⟨c1, c2, c3, c4, c5⟩, hTr, hCa, hAf, hPr, hDi⟩ := id hL
  obtain ⟨hPb, ⟨y1, y2, y3⟩, hhi, hPp⟩ := id hPT
  refine TT.steps (cd := cd215) 6 (c' := (6, [(2, 0), (9, 0), (9, 0)], [(0, (σ 36 1)), (0, 0), (2, 294)], σ)) rfl rfl ?_
  refine TT.top0 (z := (ρ 316 0)) y1 ?_
  refine TT.steps (cd := cd215) 2 (c' := (8, [(2, 0), (9, 0), (9, 0)], [(0, (aShr (ρ 316 0) 8)), (0, 0), (2, 294)], σ)) rfl rfl ?_
  refine TT.astN (cd := cd215) (294) (0) rfl rfl rfl rfl (show 0 < 63 by omega) ?_
  refine TT.steps (cd := cd215) 6 (c' := (15, [(2, 0), (9, 0), (9, 0)], [(0, ((up2 σ 294 0 (aShr (ρ 316 0) 8)) 36 1)), (0, 1), (2, 294)], (up2 σ 294 0 (aShr (ρ 316 0) 8)))) rfl rfl ?_
  refine TT.top0 (z := (ρ 316 0)) ((up2_far (k := 294) (k' := 36) _ _ _ _ (by decide)).trans y1) ?_
  refine TT.steps (cd := cd215) 2 (c' := (17, [(2, 0), (9, 0), (9, 0)], [(0, (aAnd (ρ 316 0) 255)), (0, 1), (2, 294)], (up2 σ 294 0 (aShr (ρ 316 0) 8)))) rfl rfl ?_
  refine TT.astN (cd := cd215) (294) (1) rfl rfl rfl rfl (show 1 < 63 by omega) ?_
  refine TT.steps (cd := cd215) 4 (c' := (22, [(2, 0), (0, 2), (0, 0)], [], (up2 (up2 σ 294 0 (aShr (ρ 316 0) 8)) 294 1 (aAnd (ρ 316 0) 255)))) rfl rfl ?_
  refine vl_im X _ hPT c1 c3 (fun τ hI => ?_) np 0 (by omega) _ (im_0 ⟨y2, y3⟩)
  refine TT.steps (cd := cd215) 6 (c' := (104, [(2, 0), (0, (((2 + 6 * np) : Nat) : Int)), (0, ((np : Nat) : Int))], [(0, (((2 + 6 * np) : Nat) : Int)), (2, 294), (0, (((2 + 6 * np) : Nat) : Int)), (2, 294)], τ)) rfl rfl ?_
  refine TT.call (cd := cd215) rfl rfl rfl (by decide) rfl (u_checksum_294 X (2 + 6 * np) (by omega) τ) (fun r1 σ1 hq => ?_)
  rw [hq.1, hq.2]
  refine TT.astN (cd := cd215) (294) ((2 + 6 * np)) rfl rfl rfl rfl (show (2 + 6 * np) < 63 by omega) ?_
  refine TT.steps (cd := cd215) 4 (c' := (110, [(2, 0), (0, (((2 + 6 * np) : Nat) : Int)), (0, ((np : Nat) : Int))], [(0, (aAdd (((2 + 6 * np) : Nat) : Int) 1)), (2, 0)], (up2 τ 294 ((2 + 6 * np)) (sumI (τ 294) (2 + 6 * np))))) rfl rfl ?_
  refine TT.top0 (z := ((((2 + 6 * np)) + 1 : Nat) : Int)) (aAdd_n (a := (2 + 6 * np)) (b := 1) (by omega)) ?_
  refine TT.steps (cd := cd215) 3 (c' := (113, [(2, 0), (0, (((2 + 6 * np) : Nat) : Int)), (0, ((np : Nat) : Int))], [(0, ((up2 (up2 τ 294 ((2 + 6 * np)) (sumI (τ 294) (2 + 6 * np))) 0 10 ((((2 + 6 * np)) + 1 : Nat) : Int)) 0 10))], (up2 (up2 τ 294 ((2 + 6 * np)) (sumI (τ 294) (2 + 6 * np))) 0 10 ((((2 + 6 * np)) + 1 : Nat) : Int)))) rfl rfl ?_
  refine TT.top0 (z := ((((2 + 6 * np)) + 1 : Nat) : Int)) (up2_hit _ _ _ _) ?_
  exact TT.ret (cd := cd215) rfl rfl rfl rfl (⟨rfl, im_end h hI, fun K j hK => by rw [up2_nq _ (by omega), up2_nq _ (by omega)]; exact hI.1 K j (by omega)⟩)
