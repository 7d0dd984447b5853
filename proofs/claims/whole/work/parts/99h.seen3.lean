/-! seen itself. -/
theorem K_seen0 (X : AX) {l : Nat} {σ ρ : AH} {b np nt ns : Nat} {L : Nat → Nat} {C : Nat → Nat → Nat} {w tp u tl oc : Nat} (h : IV σ ρ l b np nt ns L C w tp u tl oc) (t z w0 : Int) (ht : ¬ (0 ≤ t ∧ t < (nt : Int)))  : TT X 207 (0, [(2, 0), (0, t), (0, z), (0, w0), (9, 0), (9, 0), (9, 0), (9, 0)], [], σ) (fun r σ' => r = some (0, -1) ∧ QS σ σ') := by
  obtain ⟨⟨hl, h05, h33⟩, hL, hN, hPT, hF, hA, hTp, hO, hM, hH⟩ := id h
  obtain ⟨⟨a1, a2, a3, a4⟩, ⟨b1, b2, b3, b4, b5⟩, ⟨c1, c2, c3, c4, c5⟩, hTr, hCa, hAf, hPr, hDi⟩ := id hL
  obtain ⟨hPb, ⟨y1, y2, y3⟩, hhi, hPp⟩ := id hPT
  refine TT.steps (cd := cd207) 2 (c' := (2, [(2, 0), (0, t), (0, z), (0, w0), (9, 0), (9, 0), (9, 0), (9, 0)], [(0, t), (2, 0)], σ)) rfl rfl ?_
  refine TT.call (cd := cd207) rfl rfl rfl (by decide) rfl (w_isTrain X hl t σ h05) (fun r1 σ1 hq => ?_)
  rw [hq.1, hq.2, a2, if_neg ht]
  refine TT.steps (cd := cd207) 2 (c' := (15, [(2, 0), (0, t), (0, z), (0, w0), (9, 0), (9, 0), (9, 0), (9, 0)], [(0, -1)], σ)) rfl rfl ?_
  exact TT.ret (cd := cd207) rfl rfl rfl rfl (⟨rfl, QS.refl σ⟩)
theorem K_seen1_8 (X : AX) {σ ρ : AH} {b np nt ns : Nat} {L : Nat → Nat} {C : Nat → Nat → Nat} {w tp u tl oc : Nat} (h : IV σ ρ 8 b np nt ns L C w tp u tl oc) (t : Nat) (z w0 : Int) (ht : t < nt) (hc : csC z (L t))  : TT X 207 (0, [(2, 0), (0, ((t : Nat) : Int)), (0, z), (0, w0), (9, 0), (9, 0), (9, 0), (9, 0)], [], σ) (fun r σ' => r = some (0, -1) ∧ QS σ σ') := by
  obtain ⟨⟨hl, h05, h33⟩, hL, hN, hPT, hF, hA, hTp, hO, hM, hH⟩ := id h
  obtain ⟨⟨a1, a2, a3, a4⟩, ⟨b1, b2, b3, b4, b5⟩, ⟨c1, c2, c3, c4, c5⟩, hTr, hCa, hAf, hPr, hDi⟩ := id hL
  obtain ⟨hPb, ⟨y1, y2, y3⟩, hhi, hPp⟩ := id hPT
  have hL8 := (hTr t ht).2.2.2.1
  refine TT.steps (cd := cd207) 2 (c' := (2, [(2, 0), (0, ((t : Nat) : Int)), (0, z), (0, w0), (9, 0), (9, 0), (9, 0), (9, 0)], [(0, ((t : Nat) : Int)), (2, 0)], σ)) rfl rfl ?_
  refine TT.call (cd := cd207) rfl rfl rfl (by decide) rfl (w_isTrain X hl ((t : Nat) : Int) σ h05) (fun r1 σ1 hq => ?_)
  rw [hq.1, hq.2, a2, if_pos ⟨by omega, by omega⟩]
  refine TT.steps (cd := cd207) 4 (c' := (7, [(2, 0), (0, ((t : Nat) : Int)), (0, z), (0, w0), (9, 0), (9, 0), (9, 0), (9, 0)], [(0, z), (0, ((t : Nat) : Int)), (2, 0)], σ)) rfl rfl ?_
  refine TT.call (cd := cd207) rfl rfl rfl (by decide) rfl (u_canBeSeen_8 X z t (L t) σ (by omega) (hTr t ht).2.2.1 hL8 h05 (hTr t ht).1) (fun r2 σ2 hq => ?_)
  obtain ⟨hq1, hq2⟩ := hq.1 hc
  rw [hq1, hq2]
  refine TT.steps (cd := cd207) 2 (c' := (15, [(2, 0), (0, ((t : Nat) : Int)), (0, z), (0, w0), (9, 0), (9, 0), (9, 0), (9, 0)], [(0, -1)], σ)) rfl rfl ?_
  exact TT.ret (cd := cd207) rfl rfl rfl rfl (⟨rfl, QS.refl σ⟩)
theorem K_seen1_170 (X : AX) {σ ρ : AH} {b np nt ns : Nat} {L : Nat → Nat} {C : Nat → Nat → Nat} {w tp u tl oc : Nat} (h : IV σ ρ 170 b np nt ns L C w tp u tl oc) (t : Nat) (z w0 : Int) (ht : t < nt) (hc : csC z (L t))  : TT X 207 (0, [(2, 0), (0, ((t : Nat) : Int)), (0, z), (0, w0), (9, 0), (9, 0), (9, 0), (9, 0)], [], σ) (fun r σ' => r = some (0, -1) ∧ QS σ σ') := by
  obtain ⟨⟨hl, h05, h33⟩, hL, hN, hPT, hF, hA, hTp, hO, hM, hH⟩ := id h
  obtain ⟨⟨a1, a2, a3, a4⟩, ⟨b1, b2, b3, b4, b5⟩, ⟨c1, c2, c3, c4, c5⟩, hTr, hCa, hAf, hPr, hDi⟩ := id hL
  obtain ⟨hPb, ⟨y1, y2, y3⟩, hhi, hPp⟩ := id hPT
  have hL8 := (hTr t ht).2.2.2.1
  refine TT.steps (cd := cd207) 2 (c' := (2, [(2, 0), (0, ((t : Nat) : Int)), (0, z), (0, w0), (9, 0), (9, 0), (9, 0), (9, 0)], [(0, ((t : Nat) : Int)), (2, 0)], σ)) rfl rfl ?_
  refine TT.call (cd := cd207) rfl rfl rfl (by decide) rfl (w_isTrain X hl ((t : Nat) : Int) σ h05) (fun r1 σ1 hq => ?_)
  rw [hq.1, hq.2, a2, if_pos ⟨by omega, by omega⟩]
  refine TT.steps (cd := cd207) 4 (c' := (7, [(2, 0), (0, ((t : Nat) : Int)), (0, z), (0, w0), (9, 0), (9, 0), (9, 0), (9, 0)], [(0, z), (0, ((t : Nat) : Int)), (2, 0)], σ)) rfl rfl ?_
  refine TT.call (cd := cd207) rfl rfl rfl (by decide) rfl (u_canBeSeen_170 X z t (L t) σ (by omega) (hTr t ht).2.2.1 hL8 h05 (hTr t ht).1) (fun r2 σ2 hq => ?_)
  obtain ⟨hq1, hq2⟩ := hq.1 hc
  rw [hq1, hq2]
  refine TT.steps (cd := cd207) 2 (c' := (15, [(2, 0), (0, ((t : Nat) : Int)), (0, z), (0, w0), (9, 0), (9, 0), (9, 0), (9, 0)], [(0, -1)], σ)) rfl rfl ?_
  exact TT.ret (cd := cd207) rfl rfl rfl rfl (⟨rfl, QS.refl σ⟩)
theorem K_seen1 (X : AX) {l : Nat} {σ ρ : AH} {b np nt ns : Nat} {L : Nat → Nat} {C : Nat → Nat → Nat} {w tp u tl oc : Nat} (h : IV σ ρ l b np nt ns L C w tp u tl oc) (t : Nat) (z w0 : Int) (ht : t < nt) (hc : csC z (L t))  : TT X 207 (0, [(2, 0), (0, ((t : Nat) : Int)), (0, z), (0, w0), (9, 0), (9, 0), (9, 0), (9, 0)], [], σ) (fun r σ' => r = some (0, -1) ∧ QS σ σ') := by
  rcases h.1.1 with rfl | rfl
  · exact K_seen1_8 X h t z w0 ht hc
  · exact K_seen1_170 X h t z w0 ht hc
theorem K_seen2_8 (X : AX) {σ ρ : AH} {b np nt ns : Nat} {L : Nat → Nat} {C : Nat → Nat → Nat} {w tp u tl oc : Nat} (h : IV σ ρ 8 b np nt ns L C w tp u tl oc) (t : Nat) (z w0 : Int) (ht : t < nt) (hc : ¬ csC z (L t)) (hw : ¬ (0 ≤ w0 ∧ w0 ≤ 2))  : TT X 207 (0, [(2, 0), (0, ((t : Nat) : Int)), (0, z), (0, w0), (9, 0), (9, 0), (9, 0), (9, 0)], [], σ) (fun r σ' => r = some (0, -1) ∧ QS σ σ') := by
  obtain ⟨⟨hl, h05, h33⟩, hL, hN, hPT, hF, hA, hTp, hO, hM, hH⟩ := id h
  obtain ⟨⟨a1, a2, a3, a4⟩, ⟨b1, b2, b3, b4, b5⟩, ⟨c1, c2, c3, c4, c5⟩, hTr, hCa, hAf, hPr, hDi⟩ := id hL
  obtain ⟨hPb, ⟨y1, y2, y3⟩, hhi, hPp⟩ := id hPT
  have hL8 := (hTr t ht).2.2.2.1
  refine TT.steps (cd := cd207) 2 (c' := (2, [(2, 0), (0, ((t : Nat) : Int)), (0, z), (0, w0), (9, 0), (9, 0), (9, 0), (9, 0)], [(0, ((t : Nat) : Int)), (2, 0)], σ)) rfl rfl ?_
  refine TT.call (cd := cd207) rfl rfl rfl (by decide) rfl (w_isTrain X hl ((t : Nat) : Int) σ h05) (fun r1 σ1 hq => ?_)
  rw [hq.1, hq.2, a2, if_pos ⟨by omega, by omega⟩]
  refine TT.steps (cd := cd207) 4 (c' := (7, [(2, 0), (0, ((t : Nat) : Int)), (0, z), (0, w0), (9, 0), (9, 0), (9, 0), (9, 0)], [(0, z), (0, ((t : Nat) : Int)), (2, 0)], σ)) rfl rfl ?_
  refine TT.call (cd := cd207) rfl rfl rfl (by decide) rfl (u_canBeSeen_8 X z t (L t) σ (by omega) (hTr t ht).2.2.1 hL8 h05 (hTr t ht).1) (fun r2 σ2 hq => ?_)
  obtain ⟨hq1, hq2⟩ := hq.2 hc
  rw [hq1, hq2]
  refine TT.steps (cd := cd207) 3 (c' := ((if decide (w0 < 0) = true then 14 else 11), [(2, 0), (0, ((t : Nat) : Int)), (0, z), (0, w0), (9, 0), (9, 0), (9, 0), (9, 0)], [], σ)) rfl rfl ?_
  refine TT.br (p := w0 < 0) (fun h3 => ?_) (fun h3 => ?_)
  · refine TT.steps (cd := cd207) 1 (c' := (15, [(2, 0), (0, ((t : Nat) : Int)), (0, z), (0, w0), (9, 0), (9, 0), (9, 0), (9, 0)], [(0, -1)], σ)) rfl rfl ?_
    exact TT.ret (cd := cd207) rfl rfl rfl rfl (⟨rfl, QS.refl σ⟩)
  · refine TT.steps (cd := cd207) 3 (c' := ((if decide (w0 ≤ 2) = true then 16 else 14), [(2, 0), (0, ((t : Nat) : Int)), (0, z), (0, w0), (9, 0), (9, 0), (9, 0), (9, 0)], [], σ)) rfl rfl ?_
    refine TT.br (p := w0 ≤ 2) (fun h4 => ?_) (fun h4 => ?_)
    · omega
    · refine TT.steps (cd := cd207) 1 (c' := (15, [(2, 0), (0, ((t : Nat) : Int)), (0, z), (0, w0), (9, 0), (9, 0), (9, 0), (9, 0)], [(0, -1)], σ)) rfl rfl ?_
      exact TT.ret (cd := cd207) rfl rfl rfl rfl (⟨rfl, QS.refl σ⟩)
theorem K_seen2_170 (X : AX) {σ ρ : AH} {b np nt ns : Nat} {L : Nat → Nat} {C : Nat → Nat → Nat} {w tp u tl oc : Nat} (h : IV σ ρ 170 b np nt ns L C w tp u tl oc) (t : Nat) (z w0 : Int) (ht : t < nt) (hc : ¬ csC z (L t)) (hw : ¬ (0 ≤ w0 ∧ w0 ≤ 2))  : TT X 207 (0, [(2, 0), (0, ((t : Nat) : Int)), (0, z), (0, w0), (9, 0), (9, 0), (9, 0), (9, 0)], [], σ) (fun r σ' => r = some (0, -1) ∧ QS σ σ') := by
  obtain ⟨⟨hl, h05, h33⟩, hL, hN, hPT, hF, hA, hTp, hO, hM, hH⟩ := id h
  obtain ⟨⟨a1, a2, a3, a4⟩, ⟨b1, b2, b3, b4, b5⟩, ⟨c1, c2, c3, c4, c5⟩, hTr, hCa, hAf, hPr, hDi⟩ := id hL
  obtain ⟨hPb, ⟨y1, y2, y3⟩, hhi, hPp⟩ := id hPT
  have hL8 := (hTr t ht).2.2.2.1
  refine TT.steps (cd := cd207) 2 (c' := (2, [(2, 0), (0, ((t : Nat) : Int)), (0, z), (0, w0), (9, 0), (9, 0), (9, 0), (9, 0)], [(0, ((t : Nat) : Int)), (2, 0)], σ)) rfl rfl ?_
  refine TT.call (cd := cd207) rfl rfl rfl (by decide) rfl (w_isTrain X hl ((t : Nat) : Int) σ h05) (fun r1 σ1 hq => ?_)
  rw [hq.1, hq.2, a2, if_pos ⟨by omega, by omega⟩]
  refine TT.steps (cd := cd207) 4 (c' := (7, [(2, 0), (0, ((t : Nat) : Int)), (0, z), (0, w0), (9, 0), (9, 0), (9, 0), (9, 0)], [(0, z), (0, ((t : Nat) : Int)), (2, 0)], σ)) rfl rfl ?_
  refine TT.call (cd := cd207) rfl rfl rfl (by decide) rfl (u_canBeSeen_170 X z t (L t) σ (by omega) (hTr t ht).2.2.1 hL8 h05 (hTr t ht).1) (fun r2 σ2 hq => ?_)
  obtain ⟨hq1, hq2⟩ := hq.2 hc
  rw [hq1, hq2]
  refine TT.steps (cd := cd207) 3 (c' := ((if decide (w0 < 0) = true then 14 else 11), [(2, 0), (0, ((t : Nat) : Int)), (0, z), (0, w0), (9, 0), (9, 0), (9, 0), (9, 0)], [], σ)) rfl rfl ?_
  refine TT.br (p := w0 < 0) (fun h3 => ?_) (fun h3 => ?_)
  · refine TT.steps (cd := cd207) 1 (c' := (15, [(2, 0), (0, ((t : Nat) : Int)), (0, z), (0, w0), (9, 0), (9, 0), (9, 0), (9, 0)], [(0, -1)], σ)) rfl rfl ?_
    exact TT.ret (cd := cd207) rfl rfl rfl rfl (⟨rfl, QS.refl σ⟩)
  · refine TT.steps (cd := cd207) 3 (c' := ((if decide (w0 ≤ 2) = true then 16 else 14), [(2, 0), (0, ((t : Nat) : Int)), (0, z), (0, w0), (9, 0), (9, 0), (9, 0), (9, 0)], [], σ)) rfl rfl ?_
    refine TT.br (p := w0 ≤ 2) (fun h4 => ?_) (fun h4 => ?_)
    · omega
    · refine TT.steps (cd := cd207) 1 (c' := (15, [(2, 0), (0, ((t : Nat) : Int)), (0, z), (0, w0), (9, 0), (9, 0), (9, 0), (9, 0)], [(0, -1)], σ)) rfl rfl ?_
      exact TT.ret (cd := cd207) rfl rfl rfl rfl (⟨rfl, QS.refl σ⟩)
theorem K_seen2 (X : AX) {l : Nat} {σ ρ : AH} {b np nt ns : Nat} {L : Nat → Nat} {C : Nat → Nat → Nat} {w tp u tl oc : Nat} (h : IV σ ρ l b np nt ns L C w tp u tl oc) (t : Nat) (z w0 : Int) (ht : t < nt) (hc : ¬ csC z (L t)) (hw : ¬ (0 ≤ w0 ∧ w0 ≤ 2))  : TT X 207 (0, [(2, 0), (0, ((t : Nat) : Int)), (0, z), (0, w0), (9, 0), (9, 0), (9, 0), (9, 0)], [], σ) (fun r σ' => r = some (0, -1) ∧ QS σ σ') := by
  rcases h.1.1 with rfl | rfl
  · exact K_seen2_8 X h t z w0 ht hc hw
  · exact K_seen2_170 X h t z w0 ht hc hw
theorem kl_seen_8 (X : AX) (Q : Option AV → AH → Prop) (b t np lt : Nat) (z w0 : Int) (C : Nat → Nat) (σ ρ : AH) (ht : t < 6) (hnp : np ≤ 10) (hlt2 : 2 ≤ lt) (hlt8 : lt ≤ 8) (h05 : σ 0 5 = 8) (h36 : σ 36 0 = (np : Int)) (hlt : σ 15 t = (lt : Int)) (hC : ∀ k, k < lt → σ (17 + t) k = (C k : Int) ∧ ρ 305 (8 * (6 * b + t) + k) = (C k : Int) ∧ C k < 14) (hB : ∀ s : Nat, s < 14 → σ 200 s = ((bs (fun p => decide (mBA ρ 0 p (s : Int))) np : Nat) : Int))  (kk : TT X 207 (62, [(2, 0), (0, ((t : Nat) : Int)), (0, z), (0, w0), (0, (mSn ρ b t np lt z (2 ^ np)).1), (0, (mSn ρ b t np lt z (2 ^ np)).2.1), (0, (mSn ρ b t np lt z (2 ^ np)).2.2), (0, (((2 ^ np) : Nat) : Int))], [], σ) Q) : ∀ (d n : Nat), n + d = (2 ^ np) → TT X 207 (38, [(2, 0), (0, ((t : Nat) : Int)), (0, z), (0, w0), (0, (mSn ρ b t np lt z n).1), (0, (mSn ρ b t np lt z n).2.1), (0, (mSn ρ b t np lt z n).2.2), (0, ((n : Nat) : Int))], [], σ) Q := by
  intro d
  induction d with
  | zero =>
    intro n hn
    have hnn : n = (2 ^ np) := by omega
    rw [hnn]
    have hp10 : 2 ^ np ≤ 2 ^ 10 := Nat.pow_le_pow_right (by decide) hnp
    refine TT.steps (cd := cd207) 5 (c' := (43, [(2, 0), (0, ((t : Nat) : Int)), (0, z), (0, w0), (0, (mSn ρ b t np lt z (2 ^ np)).1), (0, (mSn ρ b t np lt z (2 ^ np)).2.1), (0, (mSn ρ b t np lt z (2 ^ np)).2.2), (0, (((2 ^ np) : Nat) : Int))], [(0, (σ 36 0)), (0, 1), (0, (((2 ^ np) : Nat) : Int))], σ)) rfl rfl ?_
    refine TT.top0 (z := ((np : Nat) : Int)) h36 ?_
    refine TT.steps (cd := cd207) 1 (c' := (44, [(2, 0), (0, ((t : Nat) : Int)), (0, z), (0, w0), (0, (mSn ρ b t np lt z (2 ^ np)).1), (0, (mSn ρ b t np lt z (2 ^ np)).2.1), (0, (mSn ρ b t np lt z (2 ^ np)).2.2), (0, (((2 ^ np) : Nat) : Int))], [(0, (aShl 1 ((np : Nat) : Int))), (0, (((2 ^ np) : Nat) : Int))], σ)) rfl rfl ?_
    refine TT.top0 (z := ((2 ^ np : Nat) : Int)) (shl1 np hnp) ?_
    refine TT.steps (cd := cd207) 1 (c' := ((if decide (((2 ^ np : Nat) : Int) ≤ (((2 ^ np) : Nat) : Int)) = true then 62 else 45), [(2, 0), (0, ((t : Nat) : Int)), (0, z), (0, w0), (0, (mSn ρ b t np lt z (2 ^ np)).1), (0, (mSn ρ b t np lt z (2 ^ np)).2.1), (0, (mSn ρ b t np lt z (2 ^ np)).2.2), (0, (((2 ^ np) : Nat) : Int))], [], σ)) rfl rfl ?_
    refine TT.br (p := ((2 ^ np : Nat) : Int) ≤ (((2 ^ np) : Nat) : Int)) (fun h1 => ?_) (fun h1 => absurd (show ((2 ^ np : Nat) : Int) ≤ (((2 ^ np) : Nat) : Int) by omega) h1)
    exact kk
  | succ d ih =>
    intro n hn
    have hp10 : 2 ^ np ≤ 2 ^ 10 := Nat.pow_le_pow_right (by decide) hnp
    refine TT.steps (cd := cd207) 5 (c' := (43, [(2, 0), (0, ((t : Nat) : Int)), (0, z), (0, w0), (0, (mSn ρ b t np lt z n).1), (0, (mSn ρ b t np lt z n).2.1), (0, (mSn ρ b t np lt z n).2.2), (0, ((n : Nat) : Int))], [(0, (σ 36 0)), (0, 1), (0, ((n : Nat) : Int))], σ)) rfl rfl ?_
    refine TT.top0 (z := ((np : Nat) : Int)) h36 ?_
    refine TT.steps (cd := cd207) 1 (c' := (44, [(2, 0), (0, ((t : Nat) : Int)), (0, z), (0, w0), (0, (mSn ρ b t np lt z n).1), (0, (mSn ρ b t np lt z n).2.1), (0, (mSn ρ b t np lt z n).2.2), (0, ((n : Nat) : Int))], [(0, (aShl 1 ((np : Nat) : Int))), (0, ((n : Nat) : Int))], σ)) rfl rfl ?_
    refine TT.top0 (z := ((2 ^ np : Nat) : Int)) (shl1 np hnp) ?_
    refine TT.steps (cd := cd207) 1 (c' := ((if decide (((2 ^ np : Nat) : Int) ≤ ((n : Nat) : Int)) = true then 62 else 45), [(2, 0), (0, ((t : Nat) : Int)), (0, z), (0, w0), (0, (mSn ρ b t np lt z n).1), (0, (mSn ρ b t np lt z n).2.1), (0, (mSn ρ b t np lt z n).2.2), (0, ((n : Nat) : Int))], [], σ)) rfl rfl ?_
    refine TT.br (p := ((2 ^ np : Nat) : Int) ≤ ((n : Nat) : Int)) (fun h1 => absurd h1 (show ¬ (((2 ^ np : Nat) : Int) ≤ ((n : Nat) : Int)) by omega)) (fun h1 => ?_)
    refine TT.steps (cd := cd207) 3 (c' := (48, [(2, 0), (0, ((t : Nat) : Int)), (0, z), (0, w0), (0, (mSn ρ b t np lt z n).1), (0, (mSn ρ b t np lt z n).2.1), (0, (mSn ρ b t np lt z n).2.2), (0, ((n : Nat) : Int))], [(0, ((n : Nat) : Int)), (0, ((t : Nat) : Int)), (2, 0)], σ)) rfl rfl ?_
    refine TT.call (cd := cd207) rfl rfl rfl (by decide) rfl ((by have hh := u_stopsBy_8 X (fun p => n.testBit p) b t np lt C σ ρ ht hnp hlt2 hlt8 h05 hlt hC hB; rw [bs_self (by omega)] at hh; exact hh)) (fun r2 σ2 hq => ?_)
    rw [hq.1, hq.2]
    refine TT.steps (cd := cd207) 2 (c' := ((if decide (¬ (mSb ρ 0 b t np lt ((n : Nat) : Int)) = z) = true then 60 else 51), [(2, 0), (0, ((t : Nat) : Int)), (0, z), (0, w0), (0, (mSn ρ b t np lt z n).1), (0, (mSn ρ b t np lt z n).2.1), (0, (mSn ρ b t np lt z n).2.2), (0, ((n : Nat) : Int))], [], σ)) rfl rfl ?_
    refine TT.br (p := ¬ (mSb ρ 0 b t np lt ((n : Nat) : Int)) = z) (fun h3 => ?_) (fun h3 => ?_)
    · refine TT.inc (cd := cd207) ((n + 1 : Nat) : Int) rfl rfl rfl rfl (fun h => absurd h.2 (show ¬ (0 = 1) by decide)) (aAdd_n (a := n) (b := 1) (by omega)) (ls' := [(2, 0), (0, ((t : Nat) : Int)), (0, z), (0, w0), (0, (mSn ρ b t np lt z n).1), (0, (mSn ρ b t np lt z n).2.1), (0, (mSn ρ b t np lt z n).2.2), (0, ((n + 1 : Nat) : Int))]) rfl ?_
      refine TT.steps (cd := cd207) 1 (c' := (38, [(2, 0), (0, ((t : Nat) : Int)), (0, z), (0, w0), (0, (mSn ρ b t np lt z n).1), (0, (mSn ρ b t np lt z n).2.1), (0, (mSn ρ b t np lt z n).2.2), (0, ((n + 1 : Nat) : Int))], [], σ)) rfl rfl ?_
      have e4 : (mSn ρ b t np lt z n).1 = (mSn ρ b t np lt z (n + 1)).1 := by first | (rw [mSn, if_pos (by first | assumption | exact Decidable.not_not.mp (by assumption))]; done) | (rw [mSn, if_neg (by assumption)]; done)
      rw [e4]
      clear e4
      have e5 : (mSn ρ b t np lt z n).2.1 = (mSn ρ b t np lt z (n + 1)).2.1 := by first | (rw [mSn, if_pos (by first | assumption | exact Decidable.not_not.mp (by assumption))]; done) | (rw [mSn, if_neg (by assumption)]; done)
      rw [e5]
      clear e5
      have e6 : (mSn ρ b t np lt z n).2.2 = (mSn ρ b t np lt z (n + 1)).2.2 := by first | (rw [mSn, if_pos (by first | assumption | exact Decidable.not_not.mp (by assumption))]; done) | (rw [mSn, if_neg (by assumption)]; done)
      rw [e6]
      clear e6
      have e7 : ((n + 1 : Nat) : Int) = (((n + 1) : Nat) : Int) := by omega
      rw [e7]
      clear e7
      exact ih (n + 1) (by omega)
    · refine TT.inc (cd := cd207) (aAdd (mSn ρ b t np lt z n).1 1) rfl rfl rfl rfl (fun h => absurd h.2 (show ¬ (0 = 1) by decide)) rfl (ls' := [(2, 0), (0, ((t : Nat) : Int)), (0, z), (0, w0), (0, (aAdd (mSn ρ b t np lt z n).1 1)), (0, (mSn ρ b t np lt z n).2.1), (0, (mSn ρ b t np lt z n).2.2), (0, ((n : Nat) : Int))]) rfl ?_
      refine TT.steps (cd := cd207) 8 (c' := (60, [(2, 0), (0, ((t : Nat) : Int)), (0, z), (0, w0), (0, (aAdd (mSn ρ b t np lt z n).1 1)), (0, (aAnd (mSn ρ b t np lt z n).2.1 ((n : Nat) : Int))), (0, (aOr (mSn ρ b t np lt z n).2.2 ((n : Nat) : Int))), (0, ((n : Nat) : Int))], [], σ)) rfl rfl ?_
      refine TT.inc (cd := cd207) ((n + 1 : Nat) : Int) rfl rfl rfl rfl (fun h => absurd h.2 (show ¬ (0 = 1) by decide)) (aAdd_n (a := n) (b := 1) (by omega)) (ls' := [(2, 0), (0, ((t : Nat) : Int)), (0, z), (0, w0), (0, (aAdd (mSn ρ b t np lt z n).1 1)), (0, (aAnd (mSn ρ b t np lt z n).2.1 ((n : Nat) : Int))), (0, (aOr (mSn ρ b t np lt z n).2.2 ((n : Nat) : Int))), (0, ((n + 1 : Nat) : Int))]) rfl ?_
      refine TT.steps (cd := cd207) 1 (c' := (38, [(2, 0), (0, ((t : Nat) : Int)), (0, z), (0, w0), (0, (aAdd (mSn ρ b t np lt z n).1 1)), (0, (aAnd (mSn ρ b t np lt z n).2.1 ((n : Nat) : Int))), (0, (aOr (mSn ρ b t np lt z n).2.2 ((n : Nat) : Int))), (0, ((n + 1 : Nat) : Int))], [], σ)) rfl rfl ?_
      have e4 : (aAdd (mSn ρ b t np lt z n).1 1) = (mSn ρ b t np lt z (n + 1)).1 := by first | (rw [mSn, if_pos (by first | assumption | exact Decidable.not_not.mp (by assumption))]; done) | (rw [mSn, if_neg (by assumption)]; done)
      rw [e4]
      clear e4
      have e5 : (aAnd (mSn ρ b t np lt z n).2.1 ((n : Nat) : Int)) = (mSn ρ b t np lt z (n + 1)).2.1 := by first | (rw [mSn, if_pos (by first | assumption | exact Decidable.not_not.mp (by assumption))]; done) | (rw [mSn, if_neg (by assumption)]; done)
      rw [e5]
      clear e5
      have e6 : (aOr (mSn ρ b t np lt z n).2.2 ((n : Nat) : Int)) = (mSn ρ b t np lt z (n + 1)).2.2 := by first | (rw [mSn, if_pos (by first | assumption | exact Decidable.not_not.mp (by assumption))]; done) | (rw [mSn, if_neg (by assumption)]; done)
      rw [e6]
      clear e6
      have e7 : ((n + 1 : Nat) : Int) = (((n + 1) : Nat) : Int) := by omega
      rw [e7]
      clear e7
      exact ih (n + 1) (by omega)
theorem kl_seen_170 (X : AX) (Q : Option AV → AH → Prop) (b t np lt : Nat) (z w0 : Int) (C : Nat → Nat) (σ ρ : AH) (ht : t < 6) (hnp : np ≤ 10) (hlt2 : 2 ≤ lt) (hlt8 : lt ≤ 8) (h05 : σ 0 5 = 170) (h36 : σ 36 0 = (np : Int)) (hlt : σ 177 t = (lt : Int)) (hC : ∀ k, k < lt → σ (179 + t) k = (C k : Int) ∧ ρ 305 (8 * (6 * b + t) + k) = (C k : Int) ∧ C k < 14) (hB : ∀ s : Nat, s < 14 → σ 200 s = ((bs (fun p => decide (mBA ρ 0 p (s : Int))) np : Nat) : Int))  (kk : TT X 207 (62, [(2, 0), (0, ((t : Nat) : Int)), (0, z), (0, w0), (0, (mSn ρ b t np lt z (2 ^ np)).1), (0, (mSn ρ b t np lt z (2 ^ np)).2.1), (0, (mSn ρ b t np lt z (2 ^ np)).2.2), (0, (((2 ^ np) : Nat) : Int))], [], σ) Q) : ∀ (d n : Nat), n + d = (2 ^ np) → TT X 207 (38, [(2, 0), (0, ((t : Nat) : Int)), (0, z), (0, w0), (0, (mSn ρ b t np lt z n).1), (0, (mSn ρ b t np lt z n).2.1), (0, (mSn ρ b t np lt z n).2.2), (0, ((n : Nat) : Int))], [], σ) Q := by
  intro d
  induction d with
  | zero =>
    intro n hn
    have hnn : n = (2 ^ np) := by omega
    rw [hnn]
    have hp10 : 2 ^ np ≤ 2 ^ 10 := Nat.pow_le_pow_right (by decide) hnp
    refine TT.steps (cd := cd207) 5 (c' := (43, [(2, 0), (0, ((t : Nat) : Int)), (0, z), (0, w0), (0, (mSn ρ b t np lt z (2 ^ np)).1), (0, (mSn ρ b t np lt z (2 ^ np)).2.1), (0, (mSn ρ b t np lt z (2 ^ np)).2.2), (0, (((2 ^ np) : Nat) : Int))], [(0, (σ 36 0)), (0, 1), (0, (((2 ^ np) : Nat) : Int))], σ)) rfl rfl ?_
    refine TT.top0 (z := ((np : Nat) : Int)) h36 ?_
    refine TT.steps (cd := cd207) 1 (c' := (44, [(2, 0), (0, ((t : Nat) : Int)), (0, z), (0, w0), (0, (mSn ρ b t np lt z (2 ^ np)).1), (0, (mSn ρ b t np lt z (2 ^ np)).2.1), (0, (mSn ρ b t np lt z (2 ^ np)).2.2), (0, (((2 ^ np) : Nat) : Int))], [(0, (aShl 1 ((np : Nat) : Int))), (0, (((2 ^ np) : Nat) : Int))], σ)) rfl rfl ?_
    refine TT.top0 (z := ((2 ^ np : Nat) : Int)) (shl1 np hnp) ?_
    refine TT.steps (cd := cd207) 1 (c' := ((if decide (((2 ^ np : Nat) : Int) ≤ (((2 ^ np) : Nat) : Int)) = true then 62 else 45), [(2, 0), (0, ((t : Nat) : Int)), (0, z), (0, w0), (0, (mSn ρ b t np lt z (2 ^ np)).1), (0, (mSn ρ b t np lt z (2 ^ np)).2.1), (0, (mSn ρ b t np lt z (2 ^ np)).2.2), (0, (((2 ^ np) : Nat) : Int))], [], σ)) rfl rfl ?_
    refine TT.br (p := ((2 ^ np : Nat) : Int) ≤ (((2 ^ np) : Nat) : Int)) (fun h1 => ?_) (fun h1 => absurd (show ((2 ^ np : Nat) : Int) ≤ (((2 ^ np) : Nat) : Int) by omega) h1)
    exact kk
  | succ d ih =>
    intro n hn
    have hp10 : 2 ^ np ≤ 2 ^ 10 := Nat.pow_le_pow_right (by decide) hnp
    refine TT.steps (cd := cd207) 5 (c' := (43, [(2, 0), (0, ((t : Nat) : Int)), (0, z), (0, w0), (0, (mSn ρ b t np lt z n).1), (0, (mSn ρ b t np lt z n).2.1), (0, (mSn ρ b t np lt z n).2.2), (0, ((n : Nat) : Int))], [(0, (σ 36 0)), (0, 1), (0, ((n : Nat) : Int))], σ)) rfl rfl ?_
    refine TT.top0 (z := ((np : Nat) : Int)) h36 ?_
    refine TT.steps (cd := cd207) 1 (c' := (44, [(2, 0), (0, ((t : Nat) : Int)), (0, z), (0, w0), (0, (mSn ρ b t np lt z n).1), (0, (mSn ρ b t np lt z n).2.1), (0, (mSn ρ b t np lt z n).2.2), (0, ((n : Nat) : Int))], [(0, (aShl 1 ((np : Nat) : Int))), (0, ((n : Nat) : Int))], σ)) rfl rfl ?_
    refine TT.top0 (z := ((2 ^ np : Nat) : Int)) (shl1 np hnp) ?_
    refine TT.steps (cd := cd207) 1 (c' := ((if decide (((2 ^ np : Nat) : Int) ≤ ((n : Nat) : Int)) = true then 62 else 45), [(2, 0), (0, ((t : Nat) : Int)), (0, z), (0, w0), (0, (mSn ρ b t np lt z n).1), (0, (mSn ρ b t np lt z n).2.1), (0, (mSn ρ b t np lt z n).2.2), (0, ((n : Nat) : Int))], [], σ)) rfl rfl ?_
    refine TT.br (p := ((2 ^ np : Nat) : Int) ≤ ((n : Nat) : Int)) (fun h1 => absurd h1 (show ¬ (((2 ^ np : Nat) : Int) ≤ ((n : Nat) : Int)) by omega)) (fun h1 => ?_)
    refine TT.steps (cd := cd207) 3 (c' := (48, [(2, 0), (0, ((t : Nat) : Int)), (0, z), (0, w0), (0, (mSn ρ b t np lt z n).1), (0, (mSn ρ b t np lt z n).2.1), (0, (mSn ρ b t np lt z n).2.2), (0, ((n : Nat) : Int))], [(0, ((n : Nat) : Int)), (0, ((t : Nat) : Int)), (2, 0)], σ)) rfl rfl ?_
    refine TT.call (cd := cd207) rfl rfl rfl (by decide) rfl ((by have hh := u_stopsBy_170 X (fun p => n.testBit p) b t np lt C σ ρ ht hnp hlt2 hlt8 h05 hlt hC hB; rw [bs_self (by omega)] at hh; exact hh)) (fun r2 σ2 hq => ?_)
    rw [hq.1, hq.2]
    refine TT.steps (cd := cd207) 2 (c' := ((if decide (¬ (mSb ρ 0 b t np lt ((n : Nat) : Int)) = z) = true then 60 else 51), [(2, 0), (0, ((t : Nat) : Int)), (0, z), (0, w0), (0, (mSn ρ b t np lt z n).1), (0, (mSn ρ b t np lt z n).2.1), (0, (mSn ρ b t np lt z n).2.2), (0, ((n : Nat) : Int))], [], σ)) rfl rfl ?_
    refine TT.br (p := ¬ (mSb ρ 0 b t np lt ((n : Nat) : Int)) = z) (fun h3 => ?_) (fun h3 => ?_)
    · refine TT.inc (cd := cd207) ((n + 1 : Nat) : Int) rfl rfl rfl rfl (fun h => absurd h.2 (show ¬ (0 = 1) by decide)) (aAdd_n (a := n) (b := 1) (by omega)) (ls' := [(2, 0), (0, ((t : Nat) : Int)), (0, z), (0, w0), (0, (mSn ρ b t np lt z n).1), (0, (mSn ρ b t np lt z n).2.1), (0, (mSn ρ b t np lt z n).2.2), (0, ((n + 1 : Nat) : Int))]) rfl ?_
      refine TT.steps (cd := cd207) 1 (c' := (38, [(2, 0), (0, ((t : Nat) : Int)), (0, z), (0, w0), (0, (mSn ρ b t np lt z n).1), (0, (mSn ρ b t np lt z n).2.1), (0, (mSn ρ b t np lt z n).2.2), (0, ((n + 1 : Nat) : Int))], [], σ)) rfl rfl ?_
      have e4 : (mSn ρ b t np lt z n).1 = (mSn ρ b t np lt z (n + 1)).1 := by first | (rw [mSn, if_pos (by first | assumption | exact Decidable.not_not.mp (by assumption))]; done) | (rw [mSn, if_neg (by assumption)]; done)
      rw [e4]
      clear e4
      have e5 : (mSn ρ b t np lt z n).2.1 = (mSn ρ b t np lt z (n + 1)).2.1 := by first | (rw [mSn, if_pos (by first | assumption | exact Decidable.not_not.mp (by assumption))]; done) | (rw [mSn, if_neg (by assumption)]; done)
      rw [e5]
      clear e5
      have e6 : (mSn ρ b t np lt z n).2.2 = (mSn ρ b t np lt z (n + 1)).2.2 := by first | (rw [mSn, if_pos (by first | assumption | exact Decidable.not_not.mp (by assumption))]; done) | (rw [mSn, if_neg (by assumption)]; done)
      rw [e6]
      clear e6
      have e7 : ((n + 1 : Nat) : Int) = (((n + 1) : Nat) : Int) := by omega
      rw [e7]
      clear e7
      exact ih (n + 1) (by omega)
    · refine TT.inc (cd := cd207) (aAdd (mSn ρ b t np lt z n).1 1) rfl rfl rfl rfl (fun h => absurd h.2 (show ¬ (0 = 1) by decide)) rfl (ls' := [(2, 0), (0, ((t : Nat) : Int)), (0, z), (0, w0), (0, (aAdd (mSn ρ b t np lt z n).1 1)), (0, (mSn ρ b t np lt z n).2.1), (0, (mSn ρ b t np lt z n).2.2), (0, ((n : Nat) : Int))]) rfl ?_
      refine TT.steps (cd := cd207) 8 (c' := (60, [(2, 0), (0, ((t : Nat) : Int)), (0, z), (0, w0), (0, (aAdd (mSn ρ b t np lt z n).1 1)), (0, (aAnd (mSn ρ b t np lt z n).2.1 ((n : Nat) : Int))), (0, (aOr (mSn ρ b t np lt z n).2.2 ((n : Nat) : Int))), (0, ((n : Nat) : Int))], [], σ)) rfl rfl ?_
      refine TT.inc (cd := cd207) ((n + 1 : Nat) : Int) rfl rfl rfl rfl (fun h => absurd h.2 (show ¬ (0 = 1) by decide)) (aAdd_n (a := n) (b := 1) (by omega)) (ls' := [(2, 0), (0, ((t : Nat) : Int)), (0, z), (0, w0), (0, (aAdd (mSn ρ b t np lt z n).1 1)), (0, (aAnd (mSn ρ b t np lt z n).2.1 ((n : Nat) : Int))), (0, (aOr (mSn ρ b t np lt z n).2.2 ((n : Nat) : Int))), (0, ((n + 1 : Nat) : Int))]) rfl ?_
      refine TT.steps (cd := cd207) 1 (c' := (38, [(2, 0), (0, ((t : Nat) : Int)), (0, z), (0, w0), (0, (aAdd (mSn ρ b t np lt z n).1 1)), (0, (aAnd (mSn ρ b t np lt z n).2.1 ((n : Nat) : Int))), (0, (aOr (mSn ρ b t np lt z n).2.2 ((n : Nat) : Int))), (0, ((n + 1 : Nat) : Int))], [], σ)) rfl rfl ?_
      have e4 : (aAdd (mSn ρ b t np lt z n).1 1) = (mSn ρ b t np lt z (n + 1)).1 := by first | (rw [mSn, if_pos (by first | assumption | exact Decidable.not_not.mp (by assumption))]; done) | (rw [mSn, if_neg (by assumption)]; done)
      rw [e4]
      clear e4
      have e5 : (aAnd (mSn ρ b t np lt z n).2.1 ((n : Nat) : Int)) = (mSn ρ b t np lt z (n + 1)).2.1 := by first | (rw [mSn, if_pos (by first | assumption | exact Decidable.not_not.mp (by assumption))]; done) | (rw [mSn, if_neg (by assumption)]; done)
      rw [e5]
      clear e5
      have e6 : (aOr (mSn ρ b t np lt z n).2.2 ((n : Nat) : Int)) = (mSn ρ b t np lt z (n + 1)).2.2 := by first | (rw [mSn, if_pos (by first | assumption | exact Decidable.not_not.mp (by assumption))]; done) | (rw [mSn, if_neg (by assumption)]; done)
      rw [e6]
      clear e6
      have e7 : ((n + 1 : Nat) : Int) = (((n + 1) : Nat) : Int) := by omega
      rw [e7]
      clear e7
      exact ih (n + 1) (by omega)
theorem K_seen3_8 (X : AX) {σ ρ : AH} {b np nt ns : Nat} {L : Nat → Nat} {C : Nat → Nat → Nat} {w tp u tl oc : Nat} (h : IV σ ρ 8 b np nt ns L C w tp u tl oc) (t : Nat) (z w0 : Int) (ht : t < nt) (hc : ¬ csC z (L t)) (hw : 0 ≤ w0 ∧ w0 ≤ 2)  : TT X 207 (0, [(2, 0), (0, ((t : Nat) : Int)), (0, z), (0, w0), (9, 0), (9, 0), (9, 0), (9, 0)], [], σ) (fun r σ' => r = some (0, if w0 = 0 then (mSn ρ b t np (L t) z (2 ^ np)).1 else if (mSn ρ b t np (L t) z (2 ^ np)).1 = 0 then 0 else if w0 = 1 then (mSn ρ b t np (L t) z (2 ^ np)).2.1 else (mSn ρ b t np (L t) z (2 ^ np)).2.2) ∧ QS σ σ') := by
  obtain ⟨⟨hl, h05, h33⟩, hL, hN, hPT, hF, hA, hTp, hO, hM, hH⟩ := id h
  obtain ⟨⟨a1, a2, a3, a4⟩, ⟨b1, b2, b3, b4, b5⟩, ⟨c1, c2, c3, c4, c5⟩, hTr, hCa, hAf, hPr, hDi⟩ := id hL
  obtain ⟨hPb, ⟨y1, y2, y3⟩, hhi, hPp⟩ := id hPT
  have hL8 := (hTr t ht).2.2.2.1
  have hp10 : 2 ^ np ≤ 2 ^ 10 := Nat.pow_le_pow_right (by decide) c1
  refine TT.steps (cd := cd207) 2 (c' := (2, [(2, 0), (0, ((t : Nat) : Int)), (0, z), (0, w0), (9, 0), (9, 0), (9, 0), (9, 0)], [(0, ((t : Nat) : Int)), (2, 0)], σ)) rfl rfl ?_
  refine TT.call (cd := cd207) rfl rfl rfl (by decide) rfl (w_isTrain X hl ((t : Nat) : Int) σ h05) (fun r1 σ1 hq => ?_)
  rw [hq.1, hq.2, a2, if_pos ⟨by omega, by omega⟩]
  refine TT.steps (cd := cd207) 4 (c' := (7, [(2, 0), (0, ((t : Nat) : Int)), (0, z), (0, w0), (9, 0), (9, 0), (9, 0), (9, 0)], [(0, z), (0, ((t : Nat) : Int)), (2, 0)], σ)) rfl rfl ?_
  refine TT.call (cd := cd207) rfl rfl rfl (by decide) rfl (u_canBeSeen_8 X z t (L t) σ (by omega) (hTr t ht).2.2.1 hL8 h05 (hTr t ht).1) (fun r2 σ2 hq => ?_)
  obtain ⟨hq1, hq2⟩ := hq.2 hc
  rw [hq1, hq2]
  refine TT.steps (cd := cd207) 3 (c' := ((if decide (w0 < 0) = true then 14 else 11), [(2, 0), (0, ((t : Nat) : Int)), (0, z), (0, w0), (9, 0), (9, 0), (9, 0), (9, 0)], [], σ)) rfl rfl ?_
  refine TT.br (p := w0 < 0) (fun h3 => absurd h3 (show ¬ (w0 < 0) by omega)) (fun h3 => ?_)
  refine TT.steps (cd := cd207) 3 (c' := ((if decide (w0 ≤ 2) = true then 16 else 14), [(2, 0), (0, ((t : Nat) : Int)), (0, z), (0, w0), (9, 0), (9, 0), (9, 0), (9, 0)], [], σ)) rfl rfl ?_
  refine TT.br (p := w0 ≤ 2) (fun h4 => ?_) (fun h4 => absurd (show w0 ≤ 2 by omega) h4)
  refine TT.steps (cd := cd207) 5 (c' := (21, [(2, 0), (0, ((t : Nat) : Int)), (0, z), (0, w0), (9, 0), (9, 0), (9, 0), (9, 0)], [(2, (σ 0 5)), (2, 199)], σ)) rfl rfl ?_
  refine TT.top0 (z := 8) h05 ?_
  refine TT.steps (cd := cd207) 2 (c' := (23, [(2, 0), (0, ((t : Nat) : Int)), (0, z), (0, w0), (9, 0), (9, 0), (9, 0), (9, 0)], [(2, 36), (2, 8), (2, 199)], σ)) rfl rfl ?_
  refine TT.call (cd := cd207) rfl rfl rfl (by decide) rfl (v_learn_8_36 X np σ hPb.1 c1 nt L a2 c2 (fun t ht => ⟨(hTr t ht).1, (hTr t ht).2.2.2.1⟩) (fun t k ht hk => ⟨C t k, by have := (hCa t k ht hk).2.2; omega, (hCa t k ht hk).1⟩) (fun p hp => by obtain ⟨s1, f1, f2, f3⟩ := (hPb.2 p hp).2.2.2; exact ⟨s1, by omega, f2⟩)) (fun r5 σ5 hq => ?_)
  obtain ⟨rfl, hLN⟩ := hq
  have hQS : QS σ σ5 := fun K j hK => hLN.1 K j (by omega)
  have qb : ∀ s : Nat, s < 14 → σ5 200 s = ((bs (fun p => decide (mBA ρ 0 p (s : Int))) np : Nat) : Int) := fun s hs => by rw [(hLN.2.1 s hs).1]; refine congrArg (fun x : Nat => (x : Int)) (bs_c (fun p hp => ?_)); obtain ⟨⟨s1, -, e1, e2⟩, e3, -, -⟩ := hPb.2 p hp; unfold mBA; rw [e1, e2, e3]
  refine TT.steps (cd := cd207) 6 (c' := (30, [(2, 0), (0, ((t : Nat) : Int)), (0, z), (0, w0), (0, 0), (9, 0), (9, 0), (9, 0)], [(0, (σ5 36 0)), (0, 1)], σ5)) rfl rfl ?_
  refine TT.top0 (z := ((np : Nat) : Int)) ((hLN.1 36 (0) (by omega)).trans hPb.1) ?_
  refine TT.steps (cd := cd207) 1 (c' := (31, [(2, 0), (0, ((t : Nat) : Int)), (0, z), (0, w0), (0, 0), (9, 0), (9, 0), (9, 0)], [(0, (aShl 1 ((np : Nat) : Int)))], σ5)) rfl rfl ?_
  refine TT.top0 (z := ((2 ^ np : Nat) : Int)) (shl1 np c1) ?_
  refine TT.steps (cd := cd207) 2 (c' := (33, [(2, 0), (0, ((t : Nat) : Int)), (0, z), (0, w0), (0, 0), (9, 0), (9, 0), (9, 0)], [(0, (aSub ((2 ^ np : Nat) : Int) 1))], σ5)) rfl rfl ?_
  refine TT.top0 (z := (aSub ((2 ^ np : Nat) : Int) 1)) rfl ?_
  refine TT.steps (cd := cd207) 5 (c' := (38, [(2, 0), (0, ((t : Nat) : Int)), (0, z), (0, w0), (0, 0), (0, (aSub ((2 ^ np : Nat) : Int) 1)), (0, 0), (0, 0)], [], σ5)) rfl rfl ?_
  refine kl_seen_8 X _ b t np (L t) z w0 (C t) σ5 ρ (by omega) c1 (hTr t ht).2.2.1 hL8 ((hLN.1 _ _ (by omega)).trans h05) ((hLN.1 _ _ (by omega)).trans hPb.1) ((hLN.1 _ _ (by omega)).trans (hTr t ht).1) (fun k hk => ⟨(hLN.1 _ _ (by omega)).trans (hCa t k ht hk).1, (hCa t k ht hk).2.1, by have := (hCa t k ht hk).2.2; omega⟩) qb ?_ (2 ^ np) 0 (by omega)
  refine TT.steps (cd := cd207) 2 (c' := ((swOf [(0, 64), (1, 66)] 72 w0), [(2, 0), (0, ((t : Nat) : Int)), (0, z), (0, w0), (0, (mSn ρ b t np (L t) z (2 ^ np)).1), (0, (mSn ρ b t np (L t) z (2 ^ np)).2.1), (0, (mSn ρ b t np (L t) z (2 ^ np)).2.2), (0, (((2 ^ np) : Nat) : Int))], [], σ5)) rfl rfl ?_
  refine TT.swc (fun h6 => ?_) (fun h6 => ?_)
  · refine TT.steps (cd := cd207) 1 (c' := (65, [(2, 0), (0, ((t : Nat) : Int)), (0, z), (0, w0), (0, (mSn ρ b t np (L t) z (2 ^ np)).1), (0, (mSn ρ b t np (L t) z (2 ^ np)).2.1), (0, (mSn ρ b t np (L t) z (2 ^ np)).2.2), (0, (((2 ^ np) : Nat) : Int))], [(0, (mSn ρ b t np (L t) z (2 ^ np)).1)], σ5)) rfl rfl ?_
    refine TT.ret (cd := cd207) rfl rfl rfl rfl ⟨?_, hQS⟩
    obtain ⟨c0, g1, g2, g3⟩ := mSn_0 ρ b t np (L t) z (2 ^ np) hp10
    first | (rw [if_pos (by omega)]; done) | (rw [if_neg (by omega), if_pos (by omega)]; done) | (rw [if_neg (by omega), if_neg (by omega), if_pos (by omega)]; done) | (rw [if_neg (by omega)]; by_cases hc0 : (mSn ρ b t np (L t) z (2 ^ np)).1 = 0 <;> first | (rw [if_pos hc0, g3 (by omega)]; done) | (rw [if_neg hc0, if_neg (by omega)]; done))
  refine TT.swc (fun h7 => ?_) (fun h7 => ?_)
  · refine TT.steps (cd := cd207) 2 (c' := ((if decide (¬ (mSn ρ b t np (L t) z (2 ^ np)).1 = 0) = true then 70 else 68), [(2, 0), (0, ((t : Nat) : Int)), (0, z), (0, w0), (0, (mSn ρ b t np (L t) z (2 ^ np)).1), (0, (mSn ρ b t np (L t) z (2 ^ np)).2.1), (0, (mSn ρ b t np (L t) z (2 ^ np)).2.2), (0, (((2 ^ np) : Nat) : Int))], [], σ5)) rfl rfl ?_
    refine TT.br (p := ¬ (mSn ρ b t np (L t) z (2 ^ np)).1 = 0) (fun h8 => ?_) (fun h8 => ?_)
    · refine TT.steps (cd := cd207) 1 (c' := (71, [(2, 0), (0, ((t : Nat) : Int)), (0, z), (0, w0), (0, (mSn ρ b t np (L t) z (2 ^ np)).1), (0, (mSn ρ b t np (L t) z (2 ^ np)).2.1), (0, (mSn ρ b t np (L t) z (2 ^ np)).2.2), (0, (((2 ^ np) : Nat) : Int))], [(0, (mSn ρ b t np (L t) z (2 ^ np)).2.1)], σ5)) rfl rfl ?_
      refine TT.ret (cd := cd207) rfl rfl rfl rfl ⟨?_, hQS⟩
      obtain ⟨c0, g1, g2, g3⟩ := mSn_0 ρ b t np (L t) z (2 ^ np) hp10
      first | (rw [if_pos (by omega)]; done) | (rw [if_neg (by omega), if_pos (by omega)]; done) | (rw [if_neg (by omega), if_neg (by omega), if_pos (by omega)]; done) | (rw [if_neg (by omega)]; by_cases hc0 : (mSn ρ b t np (L t) z (2 ^ np)).1 = 0 <;> first | (rw [if_pos hc0, g3 (by omega)]; done) | (rw [if_neg hc0, if_neg (by omega)]; done))
    · refine TT.steps (cd := cd207) 2 (c' := (71, [(2, 0), (0, ((t : Nat) : Int)), (0, z), (0, w0), (0, (mSn ρ b t np (L t) z (2 ^ np)).1), (0, (mSn ρ b t np (L t) z (2 ^ np)).2.1), (0, (mSn ρ b t np (L t) z (2 ^ np)).2.2), (0, (((2 ^ np) : Nat) : Int))], [(0, 0)], σ5)) rfl rfl ?_
      refine TT.ret (cd := cd207) rfl rfl rfl rfl ⟨?_, hQS⟩
      obtain ⟨c0, g1, g2, g3⟩ := mSn_0 ρ b t np (L t) z (2 ^ np) hp10
      first | (rw [if_pos (by omega)]; done) | (rw [if_neg (by omega), if_pos (by omega)]; done) | (rw [if_neg (by omega), if_neg (by omega), if_pos (by omega)]; done) | (rw [if_neg (by omega)]; by_cases hc0 : (mSn ρ b t np (L t) z (2 ^ np)).1 = 0 <;> first | (rw [if_pos hc0, g3 (by omega)]; done) | (rw [if_neg hc0, if_neg (by omega)]; done))
  show TT X 207 (72, [(2, 0), (0, ((t : Nat) : Int)), (0, z), (0, w0), (0, (mSn ρ b t np (L t) z (2 ^ np)).1), (0, (mSn ρ b t np (L t) z (2 ^ np)).2.1), (0, (mSn ρ b t np (L t) z (2 ^ np)).2.2), (0, (((2 ^ np) : Nat) : Int))], [], σ5) _
  refine TT.steps (cd := cd207) 1 (c' := (73, [(2, 0), (0, ((t : Nat) : Int)), (0, z), (0, w0), (0, (mSn ρ b t np (L t) z (2 ^ np)).1), (0, (mSn ρ b t np (L t) z (2 ^ np)).2.1), (0, (mSn ρ b t np (L t) z (2 ^ np)).2.2), (0, (((2 ^ np) : Nat) : Int))], [(0, (mSn ρ b t np (L t) z (2 ^ np)).2.2)], σ5)) rfl rfl ?_
  refine TT.ret (cd := cd207) rfl rfl rfl rfl ⟨?_, hQS⟩
  obtain ⟨c0, g1, g2, g3⟩ := mSn_0 ρ b t np (L t) z (2 ^ np) hp10
  first | (rw [if_pos (by omega)]; done) | (rw [if_neg (by omega), if_pos (by omega)]; done) | (rw [if_neg (by omega), if_neg (by omega), if_pos (by omega)]; done) | (rw [if_neg (by omega)]; by_cases hc0 : (mSn ρ b t np (L t) z (2 ^ np)).1 = 0 <;> first | (rw [if_pos hc0, g3 (by omega)]; done) | (rw [if_neg hc0, if_neg (by omega)]; done))
theorem K_seen3_170 (X : AX) {σ ρ : AH} {b np nt ns : Nat} {L : Nat → Nat} {C : Nat → Nat → Nat} {w tp u tl oc : Nat} (h : IV σ ρ 170 b np nt ns L C w tp u tl oc) (t : Nat) (z w0 : Int) (ht : t < nt) (hc : ¬ csC z (L t)) (hw : 0 ≤ w0 ∧ w0 ≤ 2)  : TT X 207 (0, [(2, 0), (0, ((t : Nat) : Int)), (0, z), (0, w0), (9, 0), (9, 0), (9, 0), (9, 0)], [], σ) (fun r σ' => r = some (0, if w0 = 0 then (mSn ρ b t np (L t) z (2 ^ np)).1 else if (mSn ρ b t np (L t) z (2 ^ np)).1 = 0 then 0 else if w0 = 1 then (mSn ρ b t np (L t) z (2 ^ np)).2.1 else (mSn ρ b t np (L t) z (2 ^ np)).2.2) ∧ QS σ σ') := by
  obtain ⟨⟨hl, h05, h33⟩, hL, hN, hPT, hF, hA, hTp, hO, hM, hH⟩ := id h
  obtain ⟨⟨a1, a2, a3, a4⟩, ⟨b1, b2, b3, b4, b5⟩, ⟨c1, c2, c3, c4, c5⟩, hTr, hCa, hAf, hPr, hDi⟩ := id hL
  obtain ⟨hPb, ⟨y1, y2, y3⟩, hhi, hPp⟩ := id hPT
  have hL8 := (hTr t ht).2.2.2.1
  have hp10 : 2 ^ np ≤ 2 ^ 10 := Nat.pow_le_pow_right (by decide) c1
  refine TT.steps (cd := cd207) 2 (c' := (2, [(2, 0), (0, ((t : Nat) : Int)), (0, z), (0, w0), (9, 0), (9, 0), (9, 0), (9, 0)], [(0, ((t : Nat) : Int)), (2, 0)], σ)) rfl rfl ?_
  refine TT.call (cd := cd207) rfl rfl rfl (by decide) rfl (w_isTrain X hl ((t : Nat) : Int) σ h05) (fun r1 σ1 hq => ?_)
  rw [hq.1, hq.2, a2, if_pos ⟨by omega, by omega⟩]
  refine TT.steps (cd := cd207) 4 (c' := (7, [(2, 0), (0, ((t : Nat) : Int)), (0, z), (0, w0), (9, 0), (9, 0), (9, 0), (9, 0)], [(0, z), (0, ((t : Nat) : Int)), (2, 0)], σ)) rfl rfl ?_
  refine TT.call (cd := cd207) rfl rfl rfl (by decide) rfl (u_canBeSeen_170 X z t (L t) σ (by omega) (hTr t ht).2.2.1 hL8 h05 (hTr t ht).1) (fun r2 σ2 hq => ?_)
  obtain ⟨hq1, hq2⟩ := hq.2 hc
  rw [hq1, hq2]
  refine TT.steps (cd := cd207) 3 (c' := ((if decide (w0 < 0) = true then 14 else 11), [(2, 0), (0, ((t : Nat) : Int)), (0, z), (0, w0), (9, 0), (9, 0), (9, 0), (9, 0)], [], σ)) rfl rfl ?_
  refine TT.br (p := w0 < 0) (fun h3 => absurd h3 (show ¬ (w0 < 0) by omega)) (fun h3 => ?_)
  refine TT.steps (cd := cd207) 3 (c' := ((if decide (w0 ≤ 2) = true then 16 else 14), [(2, 0), (0, ((t : Nat) : Int)), (0, z), (0, w0), (9, 0), (9, 0), (9, 0), (9, 0)], [], σ)) rfl rfl ?_
  refine TT.br (p := w0 ≤ 2) (fun h4 => ?_) (fun h4 => absurd (show w0 ≤ 2 by omega) h4)
  refine TT.steps (cd := cd207) 5 (c' := (21, [(2, 0), (0, ((t : Nat) : Int)), (0, z), (0, w0), (9, 0), (9, 0), (9, 0), (9, 0)], [(2, (σ 0 5)), (2, 199)], σ)) rfl rfl ?_
  refine TT.top0 (z := 170) h05 ?_
  refine TT.steps (cd := cd207) 2 (c' := (23, [(2, 0), (0, ((t : Nat) : Int)), (0, z), (0, w0), (9, 0), (9, 0), (9, 0), (9, 0)], [(2, 36), (2, 170), (2, 199)], σ)) rfl rfl ?_
  refine TT.call (cd := cd207) rfl rfl rfl (by decide) rfl (v_learn_170_36 X np σ hPb.1 c1 nt L a2 c2 (fun t ht => ⟨(hTr t ht).1, (hTr t ht).2.2.2.1⟩) (fun t k ht hk => ⟨C t k, by have := (hCa t k ht hk).2.2; omega, (hCa t k ht hk).1⟩) (fun p hp => by obtain ⟨s1, f1, f2, f3⟩ := (hPb.2 p hp).2.2.2; exact ⟨s1, by omega, f2⟩)) (fun r5 σ5 hq => ?_)
  obtain ⟨rfl, hLN⟩ := hq
  have hQS : QS σ σ5 := fun K j hK => hLN.1 K j (by omega)
  have qb : ∀ s : Nat, s < 14 → σ5 200 s = ((bs (fun p => decide (mBA ρ 0 p (s : Int))) np : Nat) : Int) := fun s hs => by rw [(hLN.2.1 s hs).1]; refine congrArg (fun x : Nat => (x : Int)) (bs_c (fun p hp => ?_)); obtain ⟨⟨s1, -, e1, e2⟩, e3, -, -⟩ := hPb.2 p hp; unfold mBA; rw [e1, e2, e3]
  refine TT.steps (cd := cd207) 6 (c' := (30, [(2, 0), (0, ((t : Nat) : Int)), (0, z), (0, w0), (0, 0), (9, 0), (9, 0), (9, 0)], [(0, (σ5 36 0)), (0, 1)], σ5)) rfl rfl ?_
  refine TT.top0 (z := ((np : Nat) : Int)) ((hLN.1 36 (0) (by omega)).trans hPb.1) ?_
  refine TT.steps (cd := cd207) 1 (c' := (31, [(2, 0), (0, ((t : Nat) : Int)), (0, z), (0, w0), (0, 0), (9, 0), (9, 0), (9, 0)], [(0, (aShl 1 ((np : Nat) : Int)))], σ5)) rfl rfl ?_
  refine TT.top0 (z := ((2 ^ np : Nat) : Int)) (shl1 np c1) ?_
  refine TT.steps (cd := cd207) 2 (c' := (33, [(2, 0), (0, ((t : Nat) : Int)), (0, z), (0, w0), (0, 0), (9, 0), (9, 0), (9, 0)], [(0, (aSub ((2 ^ np : Nat) : Int) 1))], σ5)) rfl rfl ?_
  refine TT.top0 (z := (aSub ((2 ^ np : Nat) : Int) 1)) rfl ?_
  refine TT.steps (cd := cd207) 5 (c' := (38, [(2, 0), (0, ((t : Nat) : Int)), (0, z), (0, w0), (0, 0), (0, (aSub ((2 ^ np : Nat) : Int) 1)), (0, 0), (0, 0)], [], σ5)) rfl rfl ?_
  refine kl_seen_170 X _ b t np (L t) z w0 (C t) σ5 ρ (by omega) c1 (hTr t ht).2.2.1 hL8 ((hLN.1 _ _ (by omega)).trans h05) ((hLN.1 _ _ (by omega)).trans hPb.1) ((hLN.1 _ _ (by omega)).trans (hTr t ht).1) (fun k hk => ⟨(hLN.1 _ _ (by omega)).trans (hCa t k ht hk).1, (hCa t k ht hk).2.1, by have := (hCa t k ht hk).2.2; omega⟩) qb ?_ (2 ^ np) 0 (by omega)
  refine TT.steps (cd := cd207) 2 (c' := ((swOf [(0, 64), (1, 66)] 72 w0), [(2, 0), (0, ((t : Nat) : Int)), (0, z), (0, w0), (0, (mSn ρ b t np (L t) z (2 ^ np)).1), (0, (mSn ρ b t np (L t) z (2 ^ np)).2.1), (0, (mSn ρ b t np (L t) z (2 ^ np)).2.2), (0, (((2 ^ np) : Nat) : Int))], [], σ5)) rfl rfl ?_
  refine TT.swc (fun h6 => ?_) (fun h6 => ?_)
  · refine TT.steps (cd := cd207) 1 (c' := (65, [(2, 0), (0, ((t : Nat) : Int)), (0, z), (0, w0), (0, (mSn ρ b t np (L t) z (2 ^ np)).1), (0, (mSn ρ b t np (L t) z (2 ^ np)).2.1), (0, (mSn ρ b t np (L t) z (2 ^ np)).2.2), (0, (((2 ^ np) : Nat) : Int))], [(0, (mSn ρ b t np (L t) z (2 ^ np)).1)], σ5)) rfl rfl ?_
    refine TT.ret (cd := cd207) rfl rfl rfl rfl ⟨?_, hQS⟩
    obtain ⟨c0, g1, g2, g3⟩ := mSn_0 ρ b t np (L t) z (2 ^ np) hp10
    first | (rw [if_pos (by omega)]; done) | (rw [if_neg (by omega), if_pos (by omega)]; done) | (rw [if_neg (by omega), if_neg (by omega), if_pos (by omega)]; done) | (rw [if_neg (by omega)]; by_cases hc0 : (mSn ρ b t np (L t) z (2 ^ np)).1 = 0 <;> first | (rw [if_pos hc0, g3 (by omega)]; done) | (rw [if_neg hc0, if_neg (by omega)]; done))
  refine TT.swc (fun h7 => ?_) (fun h7 => ?_)
  · refine TT.steps (cd := cd207) 2 (c' := ((if decide (¬ (mSn ρ b t np (L t) z (2 ^ np)).1 = 0) = true then 70 else 68), [(2, 0), (0, ((t : Nat) : Int)), (0, z), (0, w0), (0, (mSn ρ b t np (L t) z (2 ^ np)).1), (0, (mSn ρ b t np (L t) z (2 ^ np)).2.1), (0, (mSn ρ b t np (L t) z (2 ^ np)).2.2), (0, (((2 ^ np) : Nat) : Int))], [], σ5)) rfl rfl ?_
    refine TT.br (p := ¬ (mSn ρ b t np (L t) z (2 ^ np)).1 = 0) (fun h8 => ?_) (fun h8 => ?_)
    · refine TT.steps (cd := cd207) 1 (c' := (71, [(2, 0), (0, ((t : Nat) : Int)), (0, z), (0, w0), (0, (mSn ρ b t np (L t) z (2 ^ np)).1), (0, (mSn ρ b t np (L t) z (2 ^ np)).2.1), (0, (mSn ρ b t np (L t) z (2 ^ np)).2.2), (0, (((2 ^ np) : Nat) : Int))], [(0, (mSn ρ b t np (L t) z (2 ^ np)).2.1)], σ5)) rfl rfl ?_
      refine TT.ret (cd := cd207) rfl rfl rfl rfl ⟨?_, hQS⟩
      obtain ⟨c0, g1, g2, g3⟩ := mSn_0 ρ b t np (L t) z (2 ^ np) hp10
      first | (rw [if_pos (by omega)]; done) | (rw [if_neg (by omega), if_pos (by omega)]; done) | (rw [if_neg (by omega), if_neg (by omega), if_pos (by omega)]; done) | (rw [if_neg (by omega)]; by_cases hc0 : (mSn ρ b t np (L t) z (2 ^ np)).1 = 0 <;> first | (rw [if_pos hc0, g3 (by omega)]; done) | (rw [if_neg hc0, if_neg (by omega)]; done))
    · refine TT.steps (cd := cd207) 2 (c' := (71, [(2, 0), (0, ((t : Nat) : Int)), (0, z), (0, w0), (0, (mSn ρ b t np (L t) z (2 ^ np)).1), (0, (mSn ρ b t np (L t) z (2 ^ np)).2.1), (0, (mSn ρ b t np (L t) z (2 ^ np)).2.2), (0, (((2 ^ np) : Nat) : Int))], [(0, 0)], σ5)) rfl rfl ?_
      refine TT.ret (cd := cd207) rfl rfl rfl rfl ⟨?_, hQS⟩
      obtain ⟨c0, g1, g2, g3⟩ := mSn_0 ρ b t np (L t) z (2 ^ np) hp10
      first | (rw [if_pos (by omega)]; done) | (rw [if_neg (by omega), if_pos (by omega)]; done) | (rw [if_neg (by omega), if_neg (by omega), if_pos (by omega)]; done) | (rw [if_neg (by omega)]; by_cases hc0 : (mSn ρ b t np (L t) z (2 ^ np)).1 = 0 <;> first | (rw [if_pos hc0, g3 (by omega)]; done) | (rw [if_neg hc0, if_neg (by omega)]; done))
  show TT X 207 (72, [(2, 0), (0, ((t : Nat) : Int)), (0, z), (0, w0), (0, (mSn ρ b t np (L t) z (2 ^ np)).1), (0, (mSn ρ b t np (L t) z (2 ^ np)).2.1), (0, (mSn ρ b t np (L t) z (2 ^ np)).2.2), (0, (((2 ^ np) : Nat) : Int))], [], σ5) _
  refine TT.steps (cd := cd207) 1 (c' := (73, [(2, 0), (0, ((t : Nat) : Int)), (0, z), (0, w0), (0, (mSn ρ b t np (L t) z (2 ^ np)).1), (0, (mSn ρ b t np (L t) z (2 ^ np)).2.1), (0, (mSn ρ b t np (L t) z (2 ^ np)).2.2), (0, (((2 ^ np) : Nat) : Int))], [(0, (mSn ρ b t np (L t) z (2 ^ np)).2.2)], σ5)) rfl rfl ?_
  refine TT.ret (cd := cd207) rfl rfl rfl rfl ⟨?_, hQS⟩
  obtain ⟨c0, g1, g2, g3⟩ := mSn_0 ρ b t np (L t) z (2 ^ np) hp10
  first | (rw [if_pos (by omega)]; done) | (rw [if_neg (by omega), if_pos (by omega)]; done) | (rw [if_neg (by omega), if_neg (by omega), if_pos (by omega)]; done) | (rw [if_neg (by omega)]; by_cases hc0 : (mSn ρ b t np (L t) z (2 ^ np)).1 = 0 <;> first | (rw [if_pos hc0, g3 (by omega)]; done) | (rw [if_neg hc0, if_neg (by omega)]; done))
theorem K_seen3 (X : AX) {l : Nat} {σ ρ : AH} {b np nt ns : Nat} {L : Nat → Nat} {C : Nat → Nat → Nat} {w tp u tl oc : Nat} (h : IV σ ρ l b np nt ns L C w tp u tl oc) (t : Nat) (z w0 : Int) (ht : t < nt) (hc : ¬ csC z (L t)) (hw : 0 ≤ w0 ∧ w0 ≤ 2)  : TT X 207 (0, [(2, 0), (0, ((t : Nat) : Int)), (0, z), (0, w0), (9, 0), (9, 0), (9, 0), (9, 0)], [], σ) (fun r σ' => r = some (0, if w0 = 0 then (mSn ρ b t np (L t) z (2 ^ np)).1 else if (mSn ρ b t np (L t) z (2 ^ np)).1 = 0 then 0 else if w0 = 1 then (mSn ρ b t np (L t) z (2 ^ np)).2.1 else (mSn ρ b t np (L t) z (2 ^ np)).2.2) ∧ QS σ σ') := by
  rcases h.1.1 with rfl | rfl
  · exact K_seen3_8 X h t z w0 ht hc hw
  · exact K_seen3_170 X h t z w0 ht hc hw
