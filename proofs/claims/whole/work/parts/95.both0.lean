/-! both, where it answers nothing. -/
theorem K_both0a (X : AX) {l : Nat} {σ ρ : AH} {b np nt ns : Nat} {L : Nat → Nat} {C : Nat → Nat → Nat} {w tp u tl oc : Nat} (h : IV σ ρ l b np nt ns L C w tp u tl oc) (p q w0 : Int) (hp : ¬ (0 ≤ p ∧ p < (np : Int)))  : TT X 214 (0, [(2, 0), (0, p), (0, q), (0, w0)], [], σ) (fun r σ' => r = some (0, -1) ∧ QS σ σ') := by
  obtain ⟨⟨hl, h05, h33⟩, hL, hN, hPT, hF, hA, hTp, hO, hM, hH⟩ := id h
  obtain ⟨⟨a1, a2, a3, a4⟩, ⟨b1, b2, b3, b4, b5⟩, ⟨c1, c2, c3, c4, c5⟩, hTr, hCa, hAf, hPr, hDi⟩ := id hL
  obtain ⟨hPb, ⟨y1, y2, y3⟩, hhi, hPp⟩ := id hPT
  refine TT.steps (cd := cd214) 2 (c' := (2, [(2, 0), (0, p), (0, q), (0, w0)], [(0, p), (2, 0)], σ)) rfl rfl ?_
  refine TT.call (cd := cd214) rfl rfl rfl (by decide) rfl (w_isPerson X p σ) (fun r1 σ1 hq => ?_)
  rw [hq.1, hq.2, hPb.1, if_neg hp]
  refine TT.steps (cd := cd214) 2 (c' := (12, [(2, 0), (0, p), (0, q), (0, w0)], [(0, -1)], σ)) rfl rfl ?_
  exact TT.ret (cd := cd214) rfl rfl rfl rfl (⟨rfl, QS.refl σ⟩)
theorem K_both0b (X : AX) {l : Nat} {σ ρ : AH} {b np nt ns : Nat} {L : Nat → Nat} {C : Nat → Nat → Nat} {w tp u tl oc : Nat} (h : IV σ ρ l b np nt ns L C w tp u tl oc) (p q w0 : Int) (hp : 0 ≤ p ∧ p < (np : Int)) (hqq : ¬ (0 ≤ q ∧ q < (np : Int)))  : TT X 214 (0, [(2, 0), (0, p), (0, q), (0, w0)], [], σ) (fun r σ' => r = some (0, -1) ∧ QS σ σ') := by
  obtain ⟨⟨hl, h05, h33⟩, hL, hN, hPT, hF, hA, hTp, hO, hM, hH⟩ := id h
  obtain ⟨⟨a1, a2, a3, a4⟩, ⟨b1, b2, b3, b4, b5⟩, ⟨c1, c2, c3, c4, c5⟩, hTr, hCa, hAf, hPr, hDi⟩ := id hL
  obtain ⟨hPb, ⟨y1, y2, y3⟩, hhi, hPp⟩ := id hPT
  refine TT.steps (cd := cd214) 2 (c' := (2, [(2, 0), (0, p), (0, q), (0, w0)], [(0, p), (2, 0)], σ)) rfl rfl ?_
  refine TT.call (cd := cd214) rfl rfl rfl (by decide) rfl (w_isPerson X p σ) (fun r1 σ1 hq => ?_)
  rw [hq.1, hq.2, hPb.1, if_pos hp]
  refine TT.steps (cd := cd214) 3 (c' := (6, [(2, 0), (0, p), (0, q), (0, w0)], [(0, q), (2, 0)], σ)) rfl rfl ?_
  refine TT.call (cd := cd214) rfl rfl rfl (by decide) rfl (w_isPerson X q σ) (fun r2 σ2 hq => ?_)
  rw [hq.1, hq.2, hPb.1, if_neg hqq]
  refine TT.steps (cd := cd214) 2 (c' := (12, [(2, 0), (0, p), (0, q), (0, w0)], [(0, -1)], σ)) rfl rfl ?_
  exact TT.ret (cd := cd214) rfl rfl rfl rfl (⟨rfl, QS.refl σ⟩)
theorem K_both0c (X : AX) {l : Nat} {σ ρ : AH} {b np nt ns : Nat} {L : Nat → Nat} {C : Nat → Nat → Nat} {w tp u tl oc : Nat} (h : IV σ ρ l b np nt ns L C w tp u tl oc) (p q w0 : Int) (hp : 0 ≤ p ∧ p < (np : Int)) (hqq : 0 ≤ q ∧ q < (np : Int)) (hpq : p = q)  : TT X 214 (0, [(2, 0), (0, p), (0, q), (0, w0)], [], σ) (fun r σ' => r = some (0, -1) ∧ QS σ σ') := by
  obtain ⟨⟨hl, h05, h33⟩, hL, hN, hPT, hF, hA, hTp, hO, hM, hH⟩ := id h
  obtain ⟨⟨a1, a2, a3, a4⟩, ⟨b1, b2, b3, b4, b5⟩, ⟨c1, c2, c3, c4, c5⟩, hTr, hCa, hAf, hPr, hDi⟩ := id hL
  obtain ⟨hPb, ⟨y1, y2, y3⟩, hhi, hPp⟩ := id hPT
  refine TT.steps (cd := cd214) 2 (c' := (2, [(2, 0), (0, p), (0, q), (0, w0)], [(0, p), (2, 0)], σ)) rfl rfl ?_
  refine TT.call (cd := cd214) rfl rfl rfl (by decide) rfl (w_isPerson X p σ) (fun r1 σ1 hq => ?_)
  rw [hq.1, hq.2, hPb.1, if_pos hp]
  refine TT.steps (cd := cd214) 3 (c' := (6, [(2, 0), (0, p), (0, q), (0, w0)], [(0, q), (2, 0)], σ)) rfl rfl ?_
  refine TT.call (cd := cd214) rfl rfl rfl (by decide) rfl (w_isPerson X q σ) (fun r2 σ2 hq => ?_)
  rw [hq.1, hq.2, hPb.1, if_pos hqq]
  refine TT.steps (cd := cd214) 4 (c' := ((if decide (¬ p = q) = true then 13 else 11), [(2, 0), (0, p), (0, q), (0, w0)], [], σ)) rfl rfl ?_
  refine TT.br (p := ¬ p = q) (fun h3 => absurd h3 (show ¬ (¬ p = q) by exact fun hh => hh hpq)) (fun h3 => ?_)
  refine TT.steps (cd := cd214) 1 (c' := (12, [(2, 0), (0, p), (0, q), (0, w0)], [(0, -1)], σ)) rfl rfl ?_
  exact TT.ret (cd := cd214) rfl rfl rfl rfl (⟨rfl, QS.refl σ⟩)
