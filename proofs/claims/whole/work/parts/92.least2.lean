/-! least and both. -/
theorem ls_ans {σ ρ : AH} {l b np nt ns : Nat} {L : Nat → Nat} {C : Nat → Nat → Nat} (hl : l = 8 ∨ l = 170) (hk : HK σ l b np nt ns L C) (hT : TI σ ρ l b np nt ns L C) {p : Nat} (hp : p < np) (w0 : Int) : (if chF (Hc ρ b np) (σ 290) (σ 291) (aShl 1 ((p : Nat) : Int)) (2 ^ np) = -1 then -1 else if w0 = 0 then mCoin ρ b np (chF (Hc ρ b np) (σ 290) (σ 291) (aShl 1 ((p : Nat) : Int)) (2 ^ np)) else chF (Hc ρ b np) (σ 290) (σ 291) (aShl 1 ((p : Nat) : Int)) (2 ^ np)) = (if (mLs ρ b np nt L p (2 ^ np)).1 = -1 then -1 else if w0 = 0 then (mLs ρ b np nt L p (2 ^ np)).2.1 else (mLs ρ b np nt L p (2 ^ np)).1) ∧ RS ρ (mLs ρ b np nt L p (2 ^ np)).2.2 := by
  obtain ⟨m1, m2, m3⟩ := ls_main hl hk hT hp (2 ^ np) (Nat.le_refl _)
  refine ⟨?_, m1⟩
  rw [m3, m2]
  by_cases h : chF (Hc ρ b np) (σ 290) (σ 291) (aShl 1 ((p : Nat) : Int)) (2 ^ np) = -1
  · rw [if_pos h, if_pos h]
  · rw [if_neg h, if_neg h, if_neg h, ch_coin hk hT _ h]
theorem bo_ans {σ ρ : AH} {l b np nt ns : Nat} {L : Nat → Nat} {C : Nat → Nat → Nat} (hl : l = 8 ∨ l = 170) (hk : HK σ l b np nt ns L C) (hT : TI σ ρ l b np nt ns L C) {p q : Nat} (hp : p < np) (hq : q < np) (w0 : Int) : (if chF (Hc ρ b np) (σ 290) (σ 291) (aOr (aShl 1 ((p : Nat) : Int)) (aShl 1 ((q : Nat) : Int))) (2 ^ np) = -1 then -1 else if w0 = 0 then mCoin ρ b np (chF (Hc ρ b np) (σ 290) (σ 291) (aOr (aShl 1 ((p : Nat) : Int)) (aShl 1 ((q : Nat) : Int))) (2 ^ np)) else chF (Hc ρ b np) (σ 290) (σ 291) (aOr (aShl 1 ((p : Nat) : Int)) (aShl 1 ((q : Nat) : Int))) (2 ^ np)) = (if (mBo ρ b np nt L p q (2 ^ np)).1 = -1 then -1 else if w0 = 0 then (mBo ρ b np nt L p q (2 ^ np)).2.1 else (mBo ρ b np nt L p q (2 ^ np)).1) ∧ RS ρ (mBo ρ b np nt L p q (2 ^ np)).2.2 := by
  obtain ⟨m1, m2, m3⟩ := bo_main hl hk hT hp hq (2 ^ np) (Nat.le_refl _)
  refine ⟨?_, m1⟩
  rw [m3, m2]
  by_cases h : chF (Hc ρ b np) (σ 290) (σ 291) (aOr (aShl 1 ((p : Nat) : Int)) (aShl 1 ((q : Nat) : Int))) (2 ^ np) = -1
  · rw [if_pos h, if_pos h]
  · rw [if_neg h, if_neg h, if_neg h, ch_coin hk hT _ h]
theorem v_coinOrBits0 (X : AX) {l : Nat} {σ ρ : AH} {b np nt ns : Nat} {L : Nat → Nat} {C : Nat → Nat → Nat} {w tp u tl oc : Nat} (h : IV σ ρ l b np nt ns L C w tp u tl oc) (need w0 : Int) (hw0 : ¬ (0 ≤ w0 ∧ w0 ≤ 1))  : TT X 235 (0, [(2, 0), (0, need), (0, w0), (9, 0)], [], σ) (fun r σ' => r = some (0, -1) ∧ σ' = σ) := by
  obtain ⟨⟨hl, h05, h33⟩, hL, hN, hPT, hF, hA, hTp, hO, hM, hH⟩ := id h
  obtain ⟨⟨a1, a2, a3, a4⟩, ⟨b1, b2, b3, b4, b5⟩, ⟨c1, c2, c3, c4, c5⟩, hTr, hCa, hAf, hPr, hDi⟩ := id hL
  obtain ⟨hPb, ⟨y1, y2, y3⟩, hhi, hPp⟩ := id hPT
  refine TT.steps (cd := cd235) 2 (c' := ((if decide (w0 < 0) = true then 5 else 2), [(2, 0), (0, need), (0, w0), (9, 0)], [], σ)) rfl rfl ?_
  refine TT.br (p := w0 < 0) (fun h1 => ?_) (fun h1 => ?_)
  · refine TT.steps (cd := cd235) 1 (c' := (6, [(2, 0), (0, need), (0, w0), (9, 0)], [(0, -1)], σ)) rfl rfl ?_
    exact TT.ret (cd := cd235) rfl rfl rfl rfl (⟨rfl, rfl⟩)
  · refine TT.steps (cd := cd235) 3 (c' := ((if decide (w0 ≤ 1) = true then 7 else 5), [(2, 0), (0, need), (0, w0), (9, 0)], [], σ)) rfl rfl ?_
    refine TT.br (p := w0 ≤ 1) (fun h2 => ?_) (fun h2 => ?_)
    · omega
    · refine TT.steps (cd := cd235) 1 (c' := (6, [(2, 0), (0, need), (0, w0), (9, 0)], [(0, -1)], σ)) rfl rfl ?_
      exact TT.ret (cd := cd235) rfl rfl rfl rfl (⟨rfl, rfl⟩)
theorem K_least1 (X : AX) {l : Nat} {σ ρ : AH} {b np nt ns : Nat} {L : Nat → Nat} {C : Nat → Nat → Nat} {w tp u tl oc : Nat} (h : IV σ ρ l b np nt ns L C w tp u tl oc) (p : Nat) (w0 : Int) (hp : p < np) (hw0 : 0 ≤ w0 ∧ w0 ≤ 1)  : TT X 200 (0, [(2, 0), (0, ((p : Nat) : Int)), (0, w0)], [], σ) (fun r σ' => r = some (0, (if (mLs ρ b np nt L p (2 ^ np)).1 = -1 then -1 else if w0 = 0 then (mLs ρ b np nt L p (2 ^ np)).2.1 else (mLs ρ b np nt L p (2 ^ np)).1)) ∧ RS ρ (mLs ρ b np nt L p (2 ^ np)).2.2 ∧ IV σ' ρ l b np nt ns L C w tp u tl oc ∧ (∀ K j, (K < 198 ∨ 254 < K) → ¬ (289 ≤ K ∧ K ≤ 292) → σ' K j = σ K j)) := by
  obtain ⟨⟨hl, h05, h33⟩, hL, hN, hPT, hF, hA, hTp, hO, hM, hH⟩ := id h
  obtain ⟨⟨a1, a2, a3, a4⟩, ⟨b1, b2, b3, b4, b5⟩, ⟨c1, c2, c3, c4, c5⟩, hTr, hCa, hAf, hPr, hDi⟩ := id hL
  obtain ⟨hPb, ⟨y1, y2, y3⟩, hhi, hPp⟩ := id hPT
  refine TT.steps (cd := cd200) 2 (c' := (2, [(2, 0), (0, ((p : Nat) : Int)), (0, w0)], [(0, ((p : Nat) : Int)), (2, 0)], σ)) rfl rfl ?_
  refine TT.call (cd := cd200) rfl rfl rfl (by decide) rfl (w_isPerson X ((p : Nat) : Int) σ) (fun r1 σ1 hq => ?_)
  rw [hq.1, hq.2, hPb.1, if_pos ⟨by omega, by omega⟩]
  refine TT.steps (cd := cd200) 6 (c' := (11, [(2, 0), (0, ((p : Nat) : Int)), (0, w0)], [(0, w0), (0, (aShl 1 ((p : Nat) : Int))), (2, 0)], σ)) rfl rfl ?_
  refine TT.call (cd := cd200) rfl rfl rfl (by decide) rfl (v_coinOrBits X h (aShl 1 ((p : Nat) : Int)) w0 hw0) (fun r2 σ2 hq => ?_)
  obtain ⟨hr, hI, hk, hFr⟩ := hq
  have hA2 := ls_ans hl hk ⟨hI.2.1, hI.2.2.2.1, hI.2.2.2.2.1⟩ hp w0
  rw [hr, hA2.1]
  exact TT.ret (cd := cd200) rfl rfl rfl rfl (⟨rfl, hA2.2, hI, hFr⟩)
theorem K_leastN (X : AX) {l : Nat} {σ ρ : AH} {b np nt ns : Nat} {L : Nat → Nat} {C : Nat → Nat → Nat} {w tp u tl oc : Nat} (h : IV σ ρ l b np nt ns L C w tp u tl oc) (p : Nat) (w0 : Int) (hp : p < np) (hw0 : ¬ (0 ≤ w0 ∧ w0 ≤ 1))  : TT X 200 (0, [(2, 0), (0, ((p : Nat) : Int)), (0, w0)], [], σ) (fun r σ' => r = some (0, -1) ∧ QS σ σ') := by
  obtain ⟨⟨hl, h05, h33⟩, hL, hN, hPT, hF, hA, hTp, hO, hM, hH⟩ := id h
  obtain ⟨⟨a1, a2, a3, a4⟩, ⟨b1, b2, b3, b4, b5⟩, ⟨c1, c2, c3, c4, c5⟩, hTr, hCa, hAf, hPr, hDi⟩ := id hL
  obtain ⟨hPb, ⟨y1, y2, y3⟩, hhi, hPp⟩ := id hPT
  refine TT.steps (cd := cd200) 2 (c' := (2, [(2, 0), (0, ((p : Nat) : Int)), (0, w0)], [(0, ((p : Nat) : Int)), (2, 0)], σ)) rfl rfl ?_
  refine TT.call (cd := cd200) rfl rfl rfl (by decide) rfl (w_isPerson X ((p : Nat) : Int) σ) (fun r1 σ1 hq => ?_)
  rw [hq.1, hq.2, hPb.1, if_pos ⟨by omega, by omega⟩]
  refine TT.steps (cd := cd200) 6 (c' := (11, [(2, 0), (0, ((p : Nat) : Int)), (0, w0)], [(0, w0), (0, (aShl 1 ((p : Nat) : Int))), (2, 0)], σ)) rfl rfl ?_
  refine TT.call (cd := cd200) rfl rfl rfl (by decide) rfl (v_coinOrBits0 X h (aShl 1 ((p : Nat) : Int)) w0 hw0) (fun r2 σ2 hq => ?_)
  rw [hq.1, hq.2]
  exact TT.ret (cd := cd200) rfl rfl rfl rfl (⟨rfl, QS.refl σ⟩)
theorem K_least0 (X : AX) {l : Nat} {σ ρ : AH} {b np nt ns : Nat} {L : Nat → Nat} {C : Nat → Nat → Nat} {w tp u tl oc : Nat} (h : IV σ ρ l b np nt ns L C w tp u tl oc) (p w0 : Int) (hp : ¬ (0 ≤ p ∧ p < (np : Int)))  : TT X 200 (0, [(2, 0), (0, p), (0, w0)], [], σ) (fun r σ' => r = some (0, -1) ∧ QS σ σ') := by
  obtain ⟨⟨hl, h05, h33⟩, hL, hN, hPT, hF, hA, hTp, hO, hM, hH⟩ := id h
  obtain ⟨⟨a1, a2, a3, a4⟩, ⟨b1, b2, b3, b4, b5⟩, ⟨c1, c2, c3, c4, c5⟩, hTr, hCa, hAf, hPr, hDi⟩ := id hL
  obtain ⟨hPb, ⟨y1, y2, y3⟩, hhi, hPp⟩ := id hPT
  refine TT.steps (cd := cd200) 2 (c' := (2, [(2, 0), (0, p), (0, w0)], [(0, p), (2, 0)], σ)) rfl rfl ?_
  refine TT.call (cd := cd200) rfl rfl rfl (by decide) rfl (w_isPerson X p σ) (fun r1 σ1 hq => ?_)
  rw [hq.1, hq.2, hPb.1, if_neg hp]
  refine TT.steps (cd := cd200) 2 (c' := (5, [(2, 0), (0, p), (0, w0)], [(0, -1)], σ)) rfl rfl ?_
  exact TT.ret (cd := cd200) rfl rfl rfl rfl (⟨rfl, QS.refl σ⟩)
theorem K_both1 (X : AX) {l : Nat} {σ ρ : AH} {b np nt ns : Nat} {L : Nat → Nat} {C : Nat → Nat → Nat} {w tp u tl oc : Nat} (h : IV σ ρ l b np nt ns L C w tp u tl oc) (p q : Nat) (w0 : Int) (hp : p < np) (hqq : q < np) (hpq : ¬ p = q) (hw0 : 0 ≤ w0 ∧ w0 ≤ 1)  : TT X 214 (0, [(2, 0), (0, ((p : Nat) : Int)), (0, ((q : Nat) : Int)), (0, w0)], [], σ) (fun r σ' => r = some (0, (if (mBo ρ b np nt L p q (2 ^ np)).1 = -1 then -1 else if w0 = 0 then (mBo ρ b np nt L p q (2 ^ np)).2.1 else (mBo ρ b np nt L p q (2 ^ np)).1)) ∧ RS ρ (mBo ρ b np nt L p q (2 ^ np)).2.2 ∧ IV σ' ρ l b np nt ns L C w tp u tl oc ∧ (∀ K j, (K < 198 ∨ 254 < K) → ¬ (289 ≤ K ∧ K ≤ 292) → σ' K j = σ K j)) := by
  obtain ⟨⟨hl, h05, h33⟩, hL, hN, hPT, hF, hA, hTp, hO, hM, hH⟩ := id h
  obtain ⟨⟨a1, a2, a3, a4⟩, ⟨b1, b2, b3, b4, b5⟩, ⟨c1, c2, c3, c4, c5⟩, hTr, hCa, hAf, hPr, hDi⟩ := id hL
  obtain ⟨hPb, ⟨y1, y2, y3⟩, hhi, hPp⟩ := id hPT
  refine TT.steps (cd := cd214) 2 (c' := (2, [(2, 0), (0, ((p : Nat) : Int)), (0, ((q : Nat) : Int)), (0, w0)], [(0, ((p : Nat) : Int)), (2, 0)], σ)) rfl rfl ?_
  refine TT.call (cd := cd214) rfl rfl rfl (by decide) rfl (w_isPerson X ((p : Nat) : Int) σ) (fun r1 σ1 hq => ?_)
  rw [hq.1, hq.2, hPb.1, if_pos ⟨by omega, by omega⟩]
  refine TT.steps (cd := cd214) 3 (c' := (6, [(2, 0), (0, ((p : Nat) : Int)), (0, ((q : Nat) : Int)), (0, w0)], [(0, ((q : Nat) : Int)), (2, 0)], σ)) rfl rfl ?_
  refine TT.call (cd := cd214) rfl rfl rfl (by decide) rfl (w_isPerson X ((q : Nat) : Int) σ) (fun r2 σ2 hq => ?_)
  rw [hq.1, hq.2, hPb.1, if_pos ⟨by omega, by omega⟩]
  refine TT.steps (cd := cd214) 4 (c' := ((if decide (¬ ((p : Nat) : Int) = ((q : Nat) : Int)) = true then 13 else 11), [(2, 0), (0, ((p : Nat) : Int)), (0, ((q : Nat) : Int)), (0, w0)], [], σ)) rfl rfl ?_
  refine TT.br (p := ¬ ((p : Nat) : Int) = ((q : Nat) : Int)) (fun h3 => ?_) (fun h3 => absurd (show ¬ ((p : Nat) : Int) = ((q : Nat) : Int) by omega) h3)
  refine TT.steps (cd := cd214) 9 (c' := (22, [(2, 0), (0, ((p : Nat) : Int)), (0, ((q : Nat) : Int)), (0, w0)], [(0, w0), (0, (aOr (aShl 1 ((p : Nat) : Int)) (aShl 1 ((q : Nat) : Int)))), (2, 0)], σ)) rfl rfl ?_
  refine TT.call (cd := cd214) rfl rfl rfl (by decide) rfl (v_coinOrBits X h (aOr (aShl 1 ((p : Nat) : Int)) (aShl 1 ((q : Nat) : Int))) w0 hw0) (fun r4 σ4 hq => ?_)
  obtain ⟨hr, hI, hk, hFr⟩ := hq
  have hA2 := bo_ans hl hk ⟨hI.2.1, hI.2.2.2.1, hI.2.2.2.2.1⟩ hp hqq w0
  rw [hr, hA2.1]
  exact TT.ret (cd := cd214) rfl rfl rfl rfl (⟨rfl, hA2.2, hI, hFr⟩)
theorem K_bothN (X : AX) {l : Nat} {σ ρ : AH} {b np nt ns : Nat} {L : Nat → Nat} {C : Nat → Nat → Nat} {w tp u tl oc : Nat} (h : IV σ ρ l b np nt ns L C w tp u tl oc) (p q : Nat) (w0 : Int) (hp : p < np) (hqq : q < np) (hpq : ¬ p = q) (hw0 : ¬ (0 ≤ w0 ∧ w0 ≤ 1))  : TT X 214 (0, [(2, 0), (0, ((p : Nat) : Int)), (0, ((q : Nat) : Int)), (0, w0)], [], σ) (fun r σ' => r = some (0, -1) ∧ QS σ σ') := by
  obtain ⟨⟨hl, h05, h33⟩, hL, hN, hPT, hF, hA, hTp, hO, hM, hH⟩ := id h
  obtain ⟨⟨a1, a2, a3, a4⟩, ⟨b1, b2, b3, b4, b5⟩, ⟨c1, c2, c3, c4, c5⟩, hTr, hCa, hAf, hPr, hDi⟩ := id hL
  obtain ⟨hPb, ⟨y1, y2, y3⟩, hhi, hPp⟩ := id hPT
  refine TT.steps (cd := cd214) 2 (c' := (2, [(2, 0), (0, ((p : Nat) : Int)), (0, ((q : Nat) : Int)), (0, w0)], [(0, ((p : Nat) : Int)), (2, 0)], σ)) rfl rfl ?_
  refine TT.call (cd := cd214) rfl rfl rfl (by decide) rfl (w_isPerson X ((p : Nat) : Int) σ) (fun r1 σ1 hq => ?_)
  rw [hq.1, hq.2, hPb.1, if_pos ⟨by omega, by omega⟩]
  refine TT.steps (cd := cd214) 3 (c' := (6, [(2, 0), (0, ((p : Nat) : Int)), (0, ((q : Nat) : Int)), (0, w0)], [(0, ((q : Nat) : Int)), (2, 0)], σ)) rfl rfl ?_
  refine TT.call (cd := cd214) rfl rfl rfl (by decide) rfl (w_isPerson X ((q : Nat) : Int) σ) (fun r2 σ2 hq => ?_)
  rw [hq.1, hq.2, hPb.1, if_pos ⟨by omega, by omega⟩]
  refine TT.steps (cd := cd214) 4 (c' := ((if decide (¬ ((p : Nat) : Int) = ((q : Nat) : Int)) = true then 13 else 11), [(2, 0), (0, ((p : Nat) : Int)), (0, ((q : Nat) : Int)), (0, w0)], [], σ)) rfl rfl ?_
  refine TT.br (p := ¬ ((p : Nat) : Int) = ((q : Nat) : Int)) (fun h3 => ?_) (fun h3 => absurd (show ¬ ((p : Nat) : Int) = ((q : Nat) : Int) by omega) h3)
  refine TT.steps (cd := cd214) 9 (c' := (22, [(2, 0), (0, ((p : Nat) : Int)), (0, ((q : Nat) : Int)), (0, w0)], [(0, w0), (0, (aOr (aShl 1 ((p : Nat) : Int)) (aShl 1 ((q : Nat) : Int)))), (2, 0)], σ)) rfl rfl ?_
  refine TT.call (cd := cd214) rfl rfl rfl (by decide) rfl (v_coinOrBits0 X h (aOr (aShl 1 ((p : Nat) : Int)) (aShl 1 ((q : Nat) : Int))) w0 hw0) (fun r4 σ4 hq => ?_)
  rw [hq.1, hq.2]
  exact TT.ret (cd := cd214) rfl rfl rfl rfl (⟨rfl, QS.refl σ⟩)
