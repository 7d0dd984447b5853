theorem K_fares0 (X : AX) {l : Nat} {σ ρ : AH} {b np nt ns : Nat} {L : Nat → Nat} {C : Nat → Nat → Nat} {w tp u tl oc : Nat} (h : IV σ ρ l b np nt ns L C w tp u tl oc) (p w0 : Int) (hp : ¬ (0 ≤ p ∧ p < (np : Int)))  : TT X 198 (0, [(2, 0), (0, p), (0, w0)], [], σ) (fun r σ' => r = some (0, -1) ∧ QS σ σ') := by
  obtain ⟨⟨hl, h05, h33⟩, hL, hN, hPT, hF, hA, hTp, hO, hM, hH⟩ := id h
  obtain ⟨⟨a1, a2, a3, a4⟩, ⟨b1, b2, b3, b4, b5⟩, ⟨c1, c2, c3, c4, c5⟩, hTr, hCa, hAf, hPr, hDi⟩ := id hL
  obtain ⟨hPb, ⟨y1, y2, y3⟩, hhi, hPp⟩ := id hPT
  refine TT.steps (cd := cd198) 2 (c' := (2, [(2, 0), (0, p), (0, w0)], [(0, p), (2, 0)], σ)) rfl rfl ?_
  refine TT.call (cd := cd198) rfl rfl rfl (by decide) rfl (w_isPerson X p σ) (fun r1 σ1 hq => ?_)
  rw [hq.1, hq.2, hPb.1, if_neg hp]
  refine TT.steps (cd := cd198) 2 (c' := (5, [(2, 0), (0, p), (0, w0)], [(0, -1)], σ)) rfl rfl ?_
  exact TT.ret (cd := cd198) rfl rfl rfl rfl (⟨rfl, QS.refl σ⟩)
theorem K_fares1 (X : AX) {l : Nat} {σ ρ : AH} {b np nt ns : Nat} {L : Nat → Nat} {C : Nat → Nat → Nat} {w tp u tl oc : Nat} (h : IV σ ρ l b np nt ns L C w tp u tl oc) (p : Nat) (w0 : Int) (hp : p < np)  : TT X 198 (0, [(2, 0), (0, ((p : Nat) : Int)), (0, w0)], [], σ) (fun r σ' => r = some (0, if w0 = 0 then (mDay ρ b 0 np nt L) 334 p else if w0 = 1 then (mDay ρ b 0 np nt L) 335 p else if w0 = 2 then (mDay ρ b 0 np nt L) 336 p else if w0 = 3 then (mDay ρ b 0 np nt L) 337 p else if w0 = 4 then (if mStrC (mDay ρ b 0 np nt L) 0 p then 1 else 0) else -1) ∧ QS σ σ') := by
  obtain ⟨⟨hl, h05, h33⟩, hL, hN, hPT, hF, hA, hTp, hO, hM, hH⟩ := id h
  obtain ⟨⟨a1, a2, a3, a4⟩, ⟨b1, b2, b3, b4, b5⟩, ⟨c1, c2, c3, c4, c5⟩, hTr, hCa, hAf, hPr, hDi⟩ := id hL
  obtain ⟨hPb, ⟨y1, y2, y3⟩, hhi, hPp⟩ := id hPT
  refine TT.steps (cd := cd198) 2 (c' := (2, [(2, 0), (0, ((p : Nat) : Int)), (0, w0)], [(0, ((p : Nat) : Int)), (2, 0)], σ)) rfl rfl ?_
  refine TT.call (cd := cd198) rfl rfl rfl (by decide) rfl (w_isPerson X ((p : Nat) : Int) σ) (fun r1 σ1 hq => ?_)
  rw [hq.1, hq.2, hPb.1, if_pos ⟨by omega, by omega⟩]
  refine TT.steps (cd := cd198) 4 (c' := (9, [(2, 0), (0, ((p : Nat) : Int)), (0, w0)], [(2, 36), (2, 0)], σ)) rfl rfl ?_
  refine TT.call (cd := cd198) rfl rfl rfl (by decide) rfl (w_tryDay_36 X hl h05 hL hPb hhi hF) (fun r2 σ2 hq => ?_)
  obtain ⟨rfl, hFr, hPR, hDD⟩ := hq
  obtain ⟨⟨n1, hn1, hE⟩, hfull, h13⟩ := id hDD
  have hfu := hfull hF.2.2
  have hPb1 : PTb σ2 ρ 36 0 np ns := PTb_mv hPb (fun K j hK => hFr K j (by omega)) (fun _ _ _ => rfl)
  have hL1 : LT σ2 ρ _ b np nt ns L C := LT_mv hl hL (fun K j hK => hFr K j (by omega)) (fun _ _ _ => rfl) rfl
  have hQS : QS σ σ2 := fun K j hK => hFr K j (by omega)
  refine TT.steps (cd := cd198) 2 (c' := ((swOf [(0, 12), (1, 18), (2, 24), (3, 30), (4, 36)] 42 w0), [(2, 0), (0, ((p : Nat) : Int)), (0, w0)], [], σ2)) rfl rfl ?_
  refine TT.swc (fun h3 => ?_) (fun h3 => ?_)
  · refine TT.steps (cd := cd198) 4 (c' := (16, [(2, 0), (0, ((p : Nat) : Int)), (0, w0)], [(0, ((p : Nat) : Int)), (2, 247)], σ2)) rfl rfl ?_
    refine TT.aldN (cd := cd198) (247) (p) rfl rfl rfl rfl (show p < 10 by omega) ?_
    refine TT.top0 (z := ((mDay ρ b 0 np nt L) 334 p)) (hE.2.2.2.1 p hp).2.2.1 ?_
    exact TT.ret (cd := cd198) rfl rfl rfl rfl (⟨by (symm; repeat (first | rw [if_pos (by assumption)] | rw [if_neg (by assumption)])), hQS⟩)
  refine TT.swc (fun h4 => ?_) (fun h4 => ?_)
  · refine TT.steps (cd := cd198) 4 (c' := (22, [(2, 0), (0, ((p : Nat) : Int)), (0, w0)], [(0, ((p : Nat) : Int)), (2, 248)], σ2)) rfl rfl ?_
    refine TT.aldN (cd := cd198) (248) (p) rfl rfl rfl rfl (show p < 10 by omega) ?_
    refine TT.top0 (z := ((mDay ρ b 0 np nt L) 335 p)) (hE.2.2.2.1 p hp).2.2.2.1 ?_
    exact TT.ret (cd := cd198) rfl rfl rfl rfl (⟨by (symm; repeat (first | rw [if_pos (by assumption)] | rw [if_neg (by assumption)])), hQS⟩)
  refine TT.swc (fun h5 => ?_) (fun h5 => ?_)
  · refine TT.steps (cd := cd198) 4 (c' := (28, [(2, 0), (0, ((p : Nat) : Int)), (0, w0)], [(0, ((p : Nat) : Int)), (2, 249)], σ2)) rfl rfl ?_
    refine TT.aldN (cd := cd198) (249) (p) rfl rfl rfl rfl (show p < 10 by omega) ?_
    refine TT.top0 (z := ((mDay ρ b 0 np nt L) 336 p)) (hE.2.2.2.1 p hp).2.2.2.2.1 ?_
    exact TT.ret (cd := cd198) rfl rfl rfl rfl (⟨by (symm; repeat (first | rw [if_pos (by assumption)] | rw [if_neg (by assumption)])), hQS⟩)
  refine TT.swc (fun h6 => ?_) (fun h6 => ?_)
  · refine TT.steps (cd := cd198) 3 (c' := (33, [(2, 0), (0, ((p : Nat) : Int)), (0, w0)], [(0, (σ2 198 7))], σ2)) rfl rfl ?_
    refine TT.top0 (z := ((bs (fun p => decide ((mDay ρ b 0 np nt L) 337 p = 1)) np : Nat) : Int)) hE.2.2.2.2.1.1 ?_
    refine TT.steps (cd := cd198) 1 (c' := (34, [(2, 0), (0, ((p : Nat) : Int)), (0, w0)], [(0, ((p : Nat) : Int)), (0, ((bs (fun p => decide ((mDay ρ b 0 np nt L) 337 p = 1)) np : Nat) : Int))], σ2)) rfl rfl ?_
    refine TT.call (cd := cd198) rfl rfl rfl (by decide) rfl (u_bit X ((bs (fun p => decide ((mDay ρ b 0 np nt L) 337 p = 1)) np : Nat) : Int) ((p : Nat) : Int) σ2) (fun r7 σ7 hq => ?_)
    rw [hq.1, hq.2, bs_bitI _ (by omega) hp]
    rw [show (if (fun p => decide ((mDay ρ b 0 np nt L) 337 p = 1)) p = true then (1 : Int) else 0) = (mDay ρ b 0 np nt L) 337 p by rcases (hE.2.2.2.1 p hp).2.2.2.2.2.2.2 with g | g <;> simp [g]]
    exact TT.ret (cd := cd198) rfl rfl rfl rfl (⟨by (symm; repeat (first | rw [if_pos (by assumption)] | rw [if_neg (by assumption)])), hQS⟩)
  refine TT.swc (fun h8 => ?_) (fun h8 => ?_)
  · refine TT.steps (cd := cd198) 2 (c' := (38, [(2, 0), (0, ((p : Nat) : Int)), (0, w0)], [(2, 198)], σ2)) rfl rfl ?_
    refine TT.call (cd := cd198) rfl rfl rfl (by decide) rfl (v_stranded X (Or.inl rfl) hDD hPR c1 hPb1) (fun r9 σ9 hq => ?_)
    rw [hq.1, hq.2]
    refine TT.steps (cd := cd198) 1 (c' := (40, [(2, 0), (0, ((p : Nat) : Int)), (0, w0)], [(0, ((p : Nat) : Int)), (0, ((bs (fun p => decide (mStrC (mDay ρ b 0 np nt L) 0 p)) np : Nat) : Int))], σ2)) rfl rfl ?_
    refine TT.call (cd := cd198) rfl rfl rfl (by decide) rfl (u_bit X ((bs (fun p => decide (mStrC (mDay ρ b 0 np nt L) 0 p)) np : Nat) : Int) ((p : Nat) : Int) σ2) (fun r10 σ10 hq => ?_)
    rw [hq.1, hq.2, bs_bitI _ (by omega) hp]
    simp only [decide_eq_true_eq]
    exact TT.ret (cd := cd198) rfl rfl rfl rfl (⟨by (symm; repeat (first | rw [if_pos (by assumption)] | rw [if_neg (by assumption)])), hQS⟩)
  show TT X 198 (42, [(2, 0), (0, ((p : Nat) : Int)), (0, w0)], [], σ2) _
  refine TT.steps (cd := cd198) 1 (c' := (43, [(2, 0), (0, ((p : Nat) : Int)), (0, w0)], [(0, -1)], σ2)) rfl rfl ?_
  exact TT.ret (cd := cd198) rfl rfl rfl rfl (⟨by (symm; repeat (first | rw [if_pos (by assumption)] | rw [if_neg (by assumption)])), hQS⟩)
theorem K_stops0 (X : AX) {l : Nat} {σ ρ : AH} {b np nt ns : Nat} {L : Nat → Nat} {C : Nat → Nat → Nat} {w tp u tl oc : Nat} (h : IV σ ρ l b np nt ns L C w tp u tl oc) (t k : Int) (w0 : Int) (ht : ¬ (0 ≤ t ∧ t < (nt : Int)))  : TT X 197 (0, [(2, 0), (0, t), (0, k), (0, w0), (9, 0)], [], σ) (fun r σ' => r = some (0, -1) ∧ QS σ σ') := by
  obtain ⟨⟨hl, h05, h33⟩, hL, hN, hPT, hF, hA, hTp, hO, hM, hH⟩ := id h
  obtain ⟨⟨a1, a2, a3, a4⟩, ⟨b1, b2, b3, b4, b5⟩, ⟨c1, c2, c3, c4, c5⟩, hTr, hCa, hAf, hPr, hDi⟩ := id hL
  obtain ⟨hPb, ⟨y1, y2, y3⟩, hhi, hPp⟩ := id hPT
  refine TT.steps (cd := cd197) 3 (c' := (3, [(2, 0), (0, t), (0, k), (0, w0), (9, 0)], [(0, k), (0, t), (2, 0)], σ)) rfl rfl ?_
  refine TT.call (cd := cd197) rfl rfl rfl (by decide) rfl (w_isCallN X hl t k σ h05 nt a2 c2 ht) (fun r1 σ1 hq => ?_)
  rw [hq.1, hq.2]
  refine TT.steps (cd := cd197) 2 (c' := (6, [(2, 0), (0, t), (0, k), (0, w0), (9, 0)], [(0, -1)], σ)) rfl rfl ?_
  exact TT.ret (cd := cd197) rfl rfl rfl rfl (⟨rfl, QS.refl σ⟩)
theorem K_stops1 (X : AX) {l : Nat} {σ ρ : AH} {b np nt ns : Nat} {L : Nat → Nat} {C : Nat → Nat → Nat} {w tp u tl oc : Nat} (h : IV σ ρ l b np nt ns L C w tp u tl oc) (t : Nat) (k : Int) (w0 : Int) (ht : t < nt) (hk : ¬ (0 ≤ k ∧ k < (L t : Int)))  : TT X 197 (0, [(2, 0), (0, ((t : Nat) : Int)), (0, k), (0, w0), (9, 0)], [], σ) (fun r σ' => r = some (0, -1) ∧ QS σ σ') := by
  obtain ⟨⟨hl, h05, h33⟩, hL, hN, hPT, hF, hA, hTp, hO, hM, hH⟩ := id h
  obtain ⟨⟨a1, a2, a3, a4⟩, ⟨b1, b2, b3, b4, b5⟩, ⟨c1, c2, c3, c4, c5⟩, hTr, hCa, hAf, hPr, hDi⟩ := id hL
  obtain ⟨hPb, ⟨y1, y2, y3⟩, hhi, hPp⟩ := id hPT
  refine TT.steps (cd := cd197) 3 (c' := (3, [(2, 0), (0, ((t : Nat) : Int)), (0, k), (0, w0), (9, 0)], [(0, k), (0, ((t : Nat) : Int)), (2, 0)], σ)) rfl rfl ?_
  refine TT.call (cd := cd197) rfl rfl rfl (by decide) rfl (w_isCall X hl t k σ h05 nt a2 c2 ht) (fun r1 σ1 hq => ?_)
  rw [hq.1, hq.2, (hTr t ht).1, if_neg hk]
  refine TT.steps (cd := cd197) 2 (c' := (6, [(2, 0), (0, ((t : Nat) : Int)), (0, k), (0, w0), (9, 0)], [(0, -1)], σ)) rfl rfl ?_
  exact TT.ret (cd := cd197) rfl rfl rfl rfl (⟨rfl, QS.refl σ⟩)
theorem K_because0 (X : AX) {l : Nat} {σ ρ : AH} {b np nt ns : Nat} {L : Nat → Nat} {C : Nat → Nat → Nat} {w tp u tl oc : Nat} (h : IV σ ρ l b np nt ns L C w tp u tl oc) (t k : Int) (ht : ¬ (0 ≤ t ∧ t < (nt : Int)))  : TT X 210 (0, [(2, 0), (0, t), (0, k)], [], σ) (fun r σ' => r = some (0, -1) ∧ QS σ σ') := by
  obtain ⟨⟨hl, h05, h33⟩, hL, hN, hPT, hF, hA, hTp, hO, hM, hH⟩ := id h
  obtain ⟨⟨a1, a2, a3, a4⟩, ⟨b1, b2, b3, b4, b5⟩, ⟨c1, c2, c3, c4, c5⟩, hTr, hCa, hAf, hPr, hDi⟩ := id hL
  obtain ⟨hPb, ⟨y1, y2, y3⟩, hhi, hPp⟩ := id hPT
  refine TT.steps (cd := cd210) 3 (c' := (3, [(2, 0), (0, t), (0, k)], [(0, k), (0, t), (2, 0)], σ)) rfl rfl ?_
  refine TT.call (cd := cd210) rfl rfl rfl (by decide) rfl (w_isCallN X hl t k σ h05 nt a2 c2 ht) (fun r1 σ1 hq => ?_)
  rw [hq.1, hq.2]
  refine TT.steps (cd := cd210) 2 (c' := (6, [(2, 0), (0, t), (0, k)], [(0, -1)], σ)) rfl rfl ?_
  exact TT.ret (cd := cd210) rfl rfl rfl rfl (⟨rfl, QS.refl σ⟩)
theorem K_because1 (X : AX) {l : Nat} {σ ρ : AH} {b np nt ns : Nat} {L : Nat → Nat} {C : Nat → Nat → Nat} {w tp u tl oc : Nat} (h : IV σ ρ l b np nt ns L C w tp u tl oc) (t : Nat) (k : Int) (ht : t < nt) (hk : ¬ (0 ≤ k ∧ k < (L t : Int)))  : TT X 210 (0, [(2, 0), (0, ((t : Nat) : Int)), (0, k)], [], σ) (fun r σ' => r = some (0, -1) ∧ QS σ σ') := by
  obtain ⟨⟨hl, h05, h33⟩, hL, hN, hPT, hF, hA, hTp, hO, hM, hH⟩ := id h
  obtain ⟨⟨a1, a2, a3, a4⟩, ⟨b1, b2, b3, b4, b5⟩, ⟨c1, c2, c3, c4, c5⟩, hTr, hCa, hAf, hPr, hDi⟩ := id hL
  obtain ⟨hPb, ⟨y1, y2, y3⟩, hhi, hPp⟩ := id hPT
  refine TT.steps (cd := cd210) 3 (c' := (3, [(2, 0), (0, ((t : Nat) : Int)), (0, k)], [(0, k), (0, ((t : Nat) : Int)), (2, 0)], σ)) rfl rfl ?_
  refine TT.call (cd := cd210) rfl rfl rfl (by decide) rfl (w_isCall X hl t k σ h05 nt a2 c2 ht) (fun r1 σ1 hq => ?_)
  rw [hq.1, hq.2, (hTr t ht).1, if_neg hk]
  refine TT.steps (cd := cd210) 2 (c' := (6, [(2, 0), (0, ((t : Nat) : Int)), (0, k)], [(0, -1)], σ)) rfl rfl ?_
  exact TT.ret (cd := cd210) rfl rfl rfl rfl (⟨rfl, QS.refl σ⟩)
theorem K_left0 (X : AX) {l : Nat} {σ ρ : AH} {b np nt ns : Nat} {L : Nat → Nat} {C : Nat → Nat → Nat} {w tp u tl oc : Nat} (h : IV σ ρ l b np nt ns L C w tp u tl oc) (t k : Int) (ht : ¬ (0 ≤ t ∧ t < (nt : Int)))  : TT X 211 (0, [(2, 0), (0, t), (0, k), (9, 0), (9, 0)], [], σ) (fun r σ' => r = some (0, -1) ∧ QS σ σ') := by
  obtain ⟨⟨hl, h05, h33⟩, hL, hN, hPT, hF, hA, hTp, hO, hM, hH⟩ := id h
  obtain ⟨⟨a1, a2, a3, a4⟩, ⟨b1, b2, b3, b4, b5⟩, ⟨c1, c2, c3, c4, c5⟩, hTr, hCa, hAf, hPr, hDi⟩ := id hL
  obtain ⟨hPb, ⟨y1, y2, y3⟩, hhi, hPp⟩ := id hPT
  refine TT.steps (cd := cd211) 3 (c' := (3, [(2, 0), (0, t), (0, k), (9, 0), (9, 0)], [(0, k), (0, t), (2, 0)], σ)) rfl rfl ?_
  refine TT.call (cd := cd211) rfl rfl rfl (by decide) rfl (w_isCallN X hl t k σ h05 nt a2 c2 ht) (fun r1 σ1 hq => ?_)
  rw [hq.1, hq.2]
  refine TT.steps (cd := cd211) 2 (c' := (6, [(2, 0), (0, t), (0, k), (9, 0), (9, 0)], [(0, -1)], σ)) rfl rfl ?_
  exact TT.ret (cd := cd211) rfl rfl rfl rfl (⟨rfl, QS.refl σ⟩)
theorem K_left1 (X : AX) {l : Nat} {σ ρ : AH} {b np nt ns : Nat} {L : Nat → Nat} {C : Nat → Nat → Nat} {w tp u tl oc : Nat} (h : IV σ ρ l b np nt ns L C w tp u tl oc) (t : Nat) (k : Int) (ht : t < nt) (hk : ¬ (0 ≤ k ∧ k < (L t : Int)))  : TT X 211 (0, [(2, 0), (0, ((t : Nat) : Int)), (0, k), (9, 0), (9, 0)], [], σ) (fun r σ' => r = some (0, -1) ∧ QS σ σ') := by
  obtain ⟨⟨hl, h05, h33⟩, hL, hN, hPT, hF, hA, hTp, hO, hM, hH⟩ := id h
  obtain ⟨⟨a1, a2, a3, a4⟩, ⟨b1, b2, b3, b4, b5⟩, ⟨c1, c2, c3, c4, c5⟩, hTr, hCa, hAf, hPr, hDi⟩ := id hL
  obtain ⟨hPb, ⟨y1, y2, y3⟩, hhi, hPp⟩ := id hPT
  refine TT.steps (cd := cd211) 3 (c' := (3, [(2, 0), (0, ((t : Nat) : Int)), (0, k), (9, 0), (9, 0)], [(0, k), (0, ((t : Nat) : Int)), (2, 0)], σ)) rfl rfl ?_
  refine TT.call (cd := cd211) rfl rfl rfl (by decide) rfl (w_isCall X hl t k σ h05 nt a2 c2 ht) (fun r1 σ1 hq => ?_)
  rw [hq.1, hq.2, (hTr t ht).1, if_neg hk]
  refine TT.steps (cd := cd211) 2 (c' := (6, [(2, 0), (0, ((t : Nat) : Int)), (0, k), (9, 0), (9, 0)], [(0, -1)], σ)) rfl rfl ?_
  exact TT.ret (cd := cd211) rfl rfl rfl rfl (⟨rfl, QS.refl σ⟩)
theorem K_stops2 (X : AX) {l : Nat} {σ ρ : AH} {b np nt ns : Nat} {L : Nat → Nat} {C : Nat → Nat → Nat} {w tp u tl oc : Nat} (h : IV σ ρ l b np nt ns L C w tp u tl oc) (t k : Nat) (w0 : Int) (ht : t < nt) (hk : k < L t)  : TT X 197 (0, [(2, 0), (0, ((t : Nat) : Int)), (0, ((k : Nat) : Int)), (0, w0), (9, 0)], [], σ) (fun r σ' => r = some (0, if w0 = 0 then (mDay ρ b 0 np nt L) 325 (8 * t + k) else if w0 = 1 then (mDay ρ b 0 np nt L) 326 (8 * t + k) else if w0 = 2 then (mDay ρ b 0 np nt L) 327 (8 * t + k) else if w0 = 3 then (mDay ρ b 0 np nt L) 328 (8 * t + k) else if w0 = 4 then (mDay ρ b 0 np nt L) 329 (8 * t + k) else if w0 = 5 then (mDay ρ b 0 np nt L) 330 (8 * t + k) else -1) ∧ QS σ σ') := by
  obtain ⟨⟨hl, h05, h33⟩, hL, hN, hPT, hF, hA, hTp, hO, hM, hH⟩ := id h
  obtain ⟨⟨a1, a2, a3, a4⟩, ⟨b1, b2, b3, b4, b5⟩, ⟨c1, c2, c3, c4, c5⟩, hTr, hCa, hAf, hPr, hDi⟩ := id hL
  obtain ⟨hPb, ⟨y1, y2, y3⟩, hhi, hPp⟩ := id hPT
  have hL8 := (hTr t ht).2.2.2.1
  refine TT.steps (cd := cd197) 3 (c' := (3, [(2, 0), (0, ((t : Nat) : Int)), (0, ((k : Nat) : Int)), (0, w0), (9, 0)], [(0, ((k : Nat) : Int)), (0, ((t : Nat) : Int)), (2, 0)], σ)) rfl rfl ?_
  refine TT.call (cd := cd197) rfl rfl rfl (by decide) rfl (w_isCall X hl t ((k : Nat) : Int) σ h05 nt a2 c2 ht) (fun r1 σ1 hq => ?_)
  rw [hq.1, hq.2, (hTr t ht).1, if_pos ⟨by omega, by omega⟩]
  refine TT.steps (cd := cd197) 4 (c' := (10, [(2, 0), (0, ((t : Nat) : Int)), (0, ((k : Nat) : Int)), (0, w0), (9, 0)], [(2, 36), (2, 0)], σ)) rfl rfl ?_
  refine TT.call (cd := cd197) rfl rfl rfl (by decide) rfl (w_tryDay_36 X hl h05 hL hPb hhi hF) (fun r2 σ2 hq => ?_)
  obtain ⟨rfl, hFr, hPR, hDD⟩ := hq
  obtain ⟨⟨n1, hn1, hE⟩, hfull, h13⟩ := id hDD
  have hfu := hfull hF.2.2
  have hPb1 : PTb σ2 ρ 36 0 np ns := PTb_mv hPb (fun K j hK => hFr K j (by omega)) (fun _ _ _ => rfl)
  have hL1 : LT σ2 ρ _ b np nt ns L C := LT_mv hl hL (fun K j hK => hFr K j (by omega)) (fun _ _ _ => rfl) rfl
  have hQS : QS σ σ2 := fun K j hK => hFr K j (by omega)
  obtain ⟨Cm, Of, On, q1, q2, q3, q4, q5, q6, q7, q8, q9, q10⟩ := hE.2.2.2.2.2.2.1 t k ht (by rw [hfu t ht]; omega)
  refine TT.steps (cd := cd197) 6 (c' := ((swOf [(0, 17), (1, 24), (2, 31), (3, 39), (4, 47), (5, 71)] 78 w0), [(2, 0), (0, ((t : Nat) : Int)), (0, ((k : Nat) : Int)), (0, w0), (2, 216)], [], σ2)) rfl rfl ?_
  refine TT.swc (fun h3 => ?_) (fun h3 => ?_)
  · refine TT.steps (cd := cd197) 3 (c' := (20, [(2, 0), (0, ((t : Nat) : Int)), (0, ((k : Nat) : Int)), (0, w0), (2, 216)], [(0, ((t : Nat) : Int)), (2, 245)], σ2)) rfl rfl ?_
    refine TT.aldN (cd := cd197) (245) (t) rfl rfl rfl rfl (show t < 6 by omega) ?_
    refine TT.top0 (z := ((bs (fun k : Nat => decide ((k : Int) < (mDay ρ b 0 np nt L) 323 t ∧ (mDay ρ b 0 np nt L) 325 (8 * t + k) = 1)) 8 : Nat) : Int)) (hE.2.2.2.2.2.2.2.1 t ht).1 ?_
    refine TT.steps (cd := cd197) 1 (c' := (22, [(2, 0), (0, ((t : Nat) : Int)), (0, ((k : Nat) : Int)), (0, w0), (2, 216)], [(0, ((k : Nat) : Int)), (0, ((bs (fun k : Nat => decide ((k : Int) < (mDay ρ b 0 np nt L) 323 t ∧ (mDay ρ b 0 np nt L) 325 (8 * t + k) = 1)) 8 : Nat) : Int))], σ2)) rfl rfl ?_
    refine TT.call (cd := cd197) rfl rfl rfl (by decide) rfl (u_bit X ((bs (fun k : Nat => decide ((k : Int) < (mDay ρ b 0 np nt L) 323 t ∧ (mDay ρ b 0 np nt L) 325 (8 * t + k) = 1)) 8 : Nat) : Int) ((k : Nat) : Int) σ2) (fun r4 σ4 hq => ?_)
    rw [hq.1, hq.2, bs_bitI _ (by omega) (by omega)]
    rw [show (if (fun k : Nat => decide ((k : Int) < (mDay ρ b 0 np nt L) 323 t ∧ (mDay ρ b 0 np nt L) 325 (8 * t + k) = 1)) k = true then (1 : Int) else 0) = (mDay ρ b 0 np nt L) 325 (8 * t + k) by have hlt : ((k : Nat) : Int) < (mDay ρ b 0 np nt L) 323 t := (by rw [hfu t ht]; omega); rcases q10 with g | g <;> simp [g, hlt]]
    exact TT.ret (cd := cd197) rfl rfl rfl rfl (⟨by (symm; repeat (first | rw [if_pos (by assumption)] | rw [if_neg (by assumption)])), hQS⟩)
  refine TT.swc (fun h5 => ?_) (fun h5 => ?_)
  · refine TT.steps (cd := cd197) 3 (c' := (27, [(2, 0), (0, ((t : Nat) : Int)), (0, ((k : Nat) : Int)), (0, w0), (2, 216)], [(0, ((t : Nat) : Int)), (2, 217)], σ2)) rfl rfl ?_
    refine TT.aaldN (cd := cd197) 217 (t) (218 + t) rfl rfl rfl (Or.inr rfl) (show t < 6 by omega) (fxg_217 t (by omega)) ?_
    refine TT.steps (cd := cd197) 1 (c' := (29, [(2, 0), (0, ((t : Nat) : Int)), (0, ((k : Nat) : Int)), (0, w0), (2, 216)], [(0, ((k : Nat) : Int)), (2, ((218 + t : Nat) : Int))], σ2)) rfl rfl ?_
    refine TT.aldN (cd := cd197) (218 + t) (k) rfl rfl rfl (kdg_217 t (by omega)).1 (show k < ln (218 + t) by rw [(kdg_217 t (by omega)).2]; omega) ?_
    refine TT.top0 (z := ((mDay ρ b 0 np nt L) 326 (8 * t + k))) q1 ?_
    exact TT.ret (cd := cd197) rfl rfl rfl rfl (⟨by (symm; repeat (first | rw [if_pos (by assumption)] | rw [if_neg (by assumption)])), hQS⟩)
  refine TT.swc (fun h6 => ?_) (fun h6 => ?_)
  · refine TT.steps (cd := cd197) 3 (c' := (34, [(2, 0), (0, ((t : Nat) : Int)), (0, ((k : Nat) : Int)), (0, w0), (2, 216)], [(0, ((t : Nat) : Int)), (2, 231)], σ2)) rfl rfl ?_
    refine TT.aaldN (cd := cd197) 231 (t) (232 + t) rfl rfl rfl (Or.inr rfl) (show t < 6 by omega) (fxg_231 t (by omega)) ?_
    refine TT.steps (cd := cd197) 1 (c' := (36, [(2, 0), (0, ((t : Nat) : Int)), (0, ((k : Nat) : Int)), (0, w0), (2, 216)], [(0, ((k : Nat) : Int)), (2, ((232 + t : Nat) : Int))], σ2)) rfl rfl ?_
    refine TT.aldN (cd := cd197) (232 + t) (k) rfl rfl rfl (kdg_231 t (by omega)).1 (show k < ln (232 + t) by rw [(kdg_231 t (by omega)).2]; omega) ?_
    refine TT.top0 (z := ((bs Of np : Nat) : Int)) q3 ?_
    refine TT.call (cd := cd197) rfl rfl rfl (by decide) rfl (u_bitCount X ((bs Of np : Nat) : Int) σ2) (fun r7 σ7 hq => ?_)
    rw [hq.1, hq.2, bs_count _ (by omega)]
    rw [show ((cnt Of np : Nat) : Int) = (mDay ρ b 0 np nt L) 327 (8 * t + k) from q5.symm]
    exact TT.ret (cd := cd197) rfl rfl rfl rfl (⟨by (symm; repeat (first | rw [if_pos (by assumption)] | rw [if_neg (by assumption)])), hQS⟩)
  refine TT.swc (fun h8 => ?_) (fun h8 => ?_)
  · refine TT.steps (cd := cd197) 3 (c' := (42, [(2, 0), (0, ((t : Nat) : Int)), (0, ((k : Nat) : Int)), (0, w0), (2, 216)], [(0, ((t : Nat) : Int)), (2, 238)], σ2)) rfl rfl ?_
    refine TT.aaldN (cd := cd197) 238 (t) (239 + t) rfl rfl rfl (Or.inr rfl) (show t < 6 by omega) (fxg_238 t (by omega)) ?_
    refine TT.steps (cd := cd197) 1 (c' := (44, [(2, 0), (0, ((t : Nat) : Int)), (0, ((k : Nat) : Int)), (0, w0), (2, 216)], [(0, ((k : Nat) : Int)), (2, ((239 + t : Nat) : Int))], σ2)) rfl rfl ?_
    refine TT.aldN (cd := cd197) (239 + t) (k) rfl rfl rfl (kdg_238 t (by omega)).1 (show k < ln (239 + t) by rw [(kdg_238 t (by omega)).2]; omega) ?_
    refine TT.top0 (z := ((bs On np : Nat) : Int)) q4 ?_
    refine TT.call (cd := cd197) rfl rfl rfl (by decide) rfl (u_bitCount X ((bs On np : Nat) : Int) σ2) (fun r9 σ9 hq => ?_)
    rw [hq.1, hq.2, bs_count _ (by omega)]
    rw [show ((cnt On np : Nat) : Int) = (mDay ρ b 0 np nt L) 328 (8 * t + k) from q7.symm]
    exact TT.ret (cd := cd197) rfl rfl rfl rfl (⟨by (symm; repeat (first | rw [if_pos (by assumption)] | rw [if_neg (by assumption)])), hQS⟩)
  refine TT.swc (fun h10 => ?_) (fun h10 => ?_)
  · refine TT.steps (cd := cd197) 3 (c' := (50, [(2, 0), (0, ((t : Nat) : Int)), (0, ((k : Nat) : Int)), (0, w0), (2, 216)], [(0, ((t : Nat) : Int)), (2, 224)], σ2)) rfl rfl ?_
    refine TT.aaldN (cd := cd197) 224 (t) (225 + t) rfl rfl rfl (Or.inr rfl) (show t < 6 by omega) (fxg_224 t (by omega)) ?_
    refine TT.steps (cd := cd197) 1 (c' := (52, [(2, 0), (0, ((t : Nat) : Int)), (0, ((k : Nat) : Int)), (0, w0), (2, 216)], [(0, ((k : Nat) : Int)), (2, ((225 + t : Nat) : Int))], σ2)) rfl rfl ?_
    refine TT.aldN (cd := cd197) (225 + t) (k) rfl rfl rfl (kdg_224 t (by omega)).1 (show k < ln (225 + t) by rw [(kdg_224 t (by omega)).2]; omega) ?_
    refine TT.top0 (z := ((bs Cm np : Nat) : Int)) q2 ?_
    refine TT.steps (cd := cd197) 3 (c' := (56, [(2, 0), (0, ((t : Nat) : Int)), (0, ((k : Nat) : Int)), (0, w0), (2, 216)], [(0, ((t : Nat) : Int)), (2, 231), (0, ((bs Cm np : Nat) : Int))], σ2)) rfl rfl ?_
    refine TT.aaldN (cd := cd197) 231 (t) (232 + t) rfl rfl rfl (Or.inr rfl) (show t < 6 by omega) (fxg_231 t (by omega)) ?_
    refine TT.steps (cd := cd197) 1 (c' := (58, [(2, 0), (0, ((t : Nat) : Int)), (0, ((k : Nat) : Int)), (0, w0), (2, 216)], [(0, ((k : Nat) : Int)), (2, ((232 + t : Nat) : Int)), (0, ((bs Cm np : Nat) : Int))], σ2)) rfl rfl ?_
    refine TT.aldN (cd := cd197) (232 + t) (k) rfl rfl rfl (kdg_231 t (by omega)).1 (show k < ln (232 + t) by rw [(kdg_231 t (by omega)).2]; omega) ?_
    refine TT.top0 (z := ((bs Of np : Nat) : Int)) q3 ?_
    refine TT.steps (cd := cd197) 3 (c' := (62, [(2, 0), (0, ((t : Nat) : Int)), (0, ((k : Nat) : Int)), (0, w0), (2, 216)], [(0, (aAnd ((bs Cm np : Nat) : Int) (aXor ((bs Of np : Nat) : Int) (-1))))], σ2)) rfl rfl ?_
    refine TT.top0 (z := ((bs (fun p => Cm p && !(Of p)) np : Nat) : Int)) (bs_sub Cm Of (by omega)) ?_
    refine TT.steps (cd := cd197) 3 (c' := (65, [(2, 0), (0, ((t : Nat) : Int)), (0, ((k : Nat) : Int)), (0, w0), (2, 216)], [(0, ((t : Nat) : Int)), (2, 238), (0, ((bs (fun p => Cm p && !(Of p)) np : Nat) : Int))], σ2)) rfl rfl ?_
    refine TT.aaldN (cd := cd197) 238 (t) (239 + t) rfl rfl rfl (Or.inr rfl) (show t < 6 by omega) (fxg_238 t (by omega)) ?_
    refine TT.steps (cd := cd197) 1 (c' := (67, [(2, 0), (0, ((t : Nat) : Int)), (0, ((k : Nat) : Int)), (0, w0), (2, 216)], [(0, ((k : Nat) : Int)), (2, ((239 + t : Nat) : Int)), (0, ((bs (fun p => Cm p && !(Of p)) np : Nat) : Int))], σ2)) rfl rfl ?_
    refine TT.aldN (cd := cd197) (239 + t) (k) rfl rfl rfl (kdg_238 t (by omega)).1 (show k < ln (239 + t) by rw [(kdg_238 t (by omega)).2]; omega) ?_
    refine TT.top0 (z := ((bs On np : Nat) : Int)) q4 ?_
    refine TT.steps (cd := cd197) 1 (c' := (69, [(2, 0), (0, ((t : Nat) : Int)), (0, ((k : Nat) : Int)), (0, w0), (2, 216)], [(0, (aOr ((bs (fun p => Cm p && !(Of p)) np : Nat) : Int) ((bs On np : Nat) : Int)))], σ2)) rfl rfl ?_
    refine TT.top0 (z := ((bs (fun p => (Cm p && !(Of p)) || On p) np : Nat) : Int)) (bs_or (fun p => Cm p && !(Of p)) On (by omega)) ?_
    refine TT.call (cd := cd197) rfl rfl rfl (by decide) rfl (u_bitCount X ((bs (fun p => (Cm p && !(Of p)) || On p) np : Nat) : Int) σ2) (fun r11 σ11 hq => ?_)
    rw [hq.1, hq.2, bs_count _ (by omega)]
    rw [show ((cnt (fun p => (Cm p && !(Of p)) || On p) np : Nat) : Int) = (mDay ρ b 0 np nt L) 329 (8 * t + k) from q8.symm]
    exact TT.ret (cd := cd197) rfl rfl rfl rfl (⟨by (symm; repeat (first | rw [if_pos (by assumption)] | rw [if_neg (by assumption)])), hQS⟩)
  refine TT.swc (fun h12 => ?_) (fun h12 => ?_)
  · refine TT.steps (cd := cd197) 3 (c' := (74, [(2, 0), (0, ((t : Nat) : Int)), (0, ((k : Nat) : Int)), (0, w0), (2, 216)], [(0, ((t : Nat) : Int)), (2, 246)], σ2)) rfl rfl ?_
    refine TT.aldN (cd := cd197) (246) (t) rfl rfl rfl rfl (show t < 6 by omega) ?_
    refine TT.top0 (z := ((bs (fun k : Nat => decide ((k : Int) ≤ (mDay ρ b 0 np nt L) 323 t ∧ k < L t ∧ (mDay ρ b 0 np nt L) 330 (8 * t + k) = 1)) 8 : Nat) : Int)) (hE.2.2.2.2.2.2.2.1 t ht).2 ?_
    refine TT.steps (cd := cd197) 1 (c' := (76, [(2, 0), (0, ((t : Nat) : Int)), (0, ((k : Nat) : Int)), (0, w0), (2, 216)], [(0, ((k : Nat) : Int)), (0, ((bs (fun k : Nat => decide ((k : Int) ≤ (mDay ρ b 0 np nt L) 323 t ∧ k < L t ∧ (mDay ρ b 0 np nt L) 330 (8 * t + k) = 1)) 8 : Nat) : Int))], σ2)) rfl rfl ?_
    refine TT.call (cd := cd197) rfl rfl rfl (by decide) rfl (u_bit X ((bs (fun k : Nat => decide ((k : Int) ≤ (mDay ρ b 0 np nt L) 323 t ∧ k < L t ∧ (mDay ρ b 0 np nt L) 330 (8 * t + k) = 1)) 8 : Nat) : Int) ((k : Nat) : Int) σ2) (fun r13 σ13 hq => ?_)
    rw [hq.1, hq.2, bs_bitI _ (by omega) (by omega)]
    rw [show (if (fun k : Nat => decide ((k : Int) ≤ (mDay ρ b 0 np nt L) 323 t ∧ k < L t ∧ (mDay ρ b 0 np nt L) 330 (8 * t + k) = 1)) k = true then (1 : Int) else 0) = (mDay ρ b 0 np nt L) 330 (8 * t + k) by have hlt : ((k : Nat) : Int) ≤ (mDay ρ b 0 np nt L) 323 t := (by rw [hfu t ht]; omega); rcases hE.2.2.2.2.2.2.2.2.1 t k ht hk hlt with g | g <;> simp [g, hlt, hk]]
    exact TT.ret (cd := cd197) rfl rfl rfl rfl (⟨by (symm; repeat (first | rw [if_pos (by assumption)] | rw [if_neg (by assumption)])), hQS⟩)
  show TT X 197 (78, [(2, 0), (0, ((t : Nat) : Int)), (0, ((k : Nat) : Int)), (0, w0), (2, 216)], [], σ2) _
  refine TT.steps (cd := cd197) 1 (c' := (79, [(2, 0), (0, ((t : Nat) : Int)), (0, ((k : Nat) : Int)), (0, w0), (2, 216)], [(0, -1)], σ2)) rfl rfl ?_
  exact TT.ret (cd := cd197) rfl rfl rfl rfl (⟨by (symm; repeat (first | rw [if_pos (by assumption)] | rw [if_neg (by assumption)])), hQS⟩)
theorem K_because2_8 (X : AX) {σ ρ : AH} {b np nt ns : Nat} {L : Nat → Nat} {C : Nat → Nat → Nat} {w tp u tl oc : Nat} (h : IV σ ρ 8 b np nt ns L C w tp u tl oc) (t k : Nat) (ht : t < nt) (hk : k < L t) (hZ : True ∧ (¬ (0 < k ∧ k + 1 < L t) → (mDay ρ b 0 np nt L) 331 (8 * t + k) = 0))  : TT X 210 (0, [(2, 0), (0, ((t : Nat) : Int)), (0, ((k : Nat) : Int))], [], σ) (fun r σ' => r = some (0, (mDay ρ b 0 np nt L) 331 (8 * t + k)) ∧ QS σ σ') := by
  obtain ⟨⟨hl, h05, h33⟩, hL, hN, hPT, hF, hA, hTp, hO, hM, hH⟩ := id h
  obtain ⟨⟨a1, a2, a3, a4⟩, ⟨b1, b2, b3, b4, b5⟩, ⟨c1, c2, c3, c4, c5⟩, hTr, hCa, hAf, hPr, hDi⟩ := id hL
  obtain ⟨hPb, ⟨y1, y2, y3⟩, hhi, hPp⟩ := id hPT
  have hL8 := (hTr t ht).2.2.2.1
  have hCn := (hCa t k ht hk).2.2
  refine TT.steps (cd := cd210) 3 (c' := (3, [(2, 0), (0, ((t : Nat) : Int)), (0, ((k : Nat) : Int))], [(0, ((k : Nat) : Int)), (0, ((t : Nat) : Int)), (2, 0)], σ)) rfl rfl ?_
  refine TT.call (cd := cd210) rfl rfl rfl (by decide) rfl (w_isCall X hl t ((k : Nat) : Int) σ h05 nt a2 c2 ht) (fun r1 σ1 hq => ?_)
  rw [hq.1, hq.2, (hTr t ht).1, if_pos ⟨by omega, by omega⟩]
  refine TT.steps (cd := cd210) 3 (c' := ((if decide (((k : Nat) : Int) = 0) = true then 18 else 9), [(2, 0), (0, ((t : Nat) : Int)), (0, ((k : Nat) : Int))], [], σ)) rfl rfl ?_
  refine TT.br (p := ((k : Nat) : Int) = 0) (fun h2 => ?_) (fun h2 => ?_)
  · refine TT.steps (cd := cd210) 1 (c' := (19, [(2, 0), (0, ((t : Nat) : Int)), (0, ((k : Nat) : Int))], [(0, 0)], σ)) rfl rfl ?_
    refine (TT.ret (cd := cd210) rfl rfl rfl rfl ⟨?_, QS.refl σ⟩)
    obtain ⟨Z1, Z2⟩ := hZ
    rw [Z2 (by omega)]
  · refine TT.steps (cd := cd210) 3 (c' := (12, [(2, 0), (0, ((t : Nat) : Int)), (0, ((k : Nat) : Int))], [(2, (σ 0 5)), (0, ((k : Nat) : Int))], σ)) rfl rfl ?_
    refine TT.top0 (z := 8) h05 ?_
    refine TT.steps (cd := cd210) 2 (c' := (14, [(2, 0), (0, ((t : Nat) : Int)), (0, ((k : Nat) : Int))], [(0, ((t : Nat) : Int)), (2, 15), (0, ((k : Nat) : Int))], σ)) rfl rfl ?_
    refine TT.aldN (cd := cd210) (15) (t) rfl rfl rfl rfl (show t < 6 by omega) ?_
    refine TT.top0 (z := (((L t) : Nat) : Int)) (hTr t ht).1 ?_
    refine TT.steps (cd := cd210) 2 (c' := (17, [(2, 0), (0, ((t : Nat) : Int)), (0, ((k : Nat) : Int))], [(0, (aSub (((L t) : Nat) : Int) 1)), (0, ((k : Nat) : Int))], σ)) rfl rfl ?_
    refine TT.top0 (z := ((((L t)) - 1 : Nat) : Int)) (aSub_n (a := (L t)) (b := 1) (by omega) (by omega)) ?_
    refine TT.steps (cd := cd210) 1 (c' := ((if decide (¬ ((k : Nat) : Int) = ((((L t)) - 1 : Nat) : Int)) = true then 20 else 18), [(2, 0), (0, ((t : Nat) : Int)), (0, ((k : Nat) : Int))], [], σ)) rfl rfl ?_
    refine TT.br (p := ¬ ((k : Nat) : Int) = ((((L t)) - 1 : Nat) : Int)) (fun h3 => ?_) (fun h3 => ?_)
    · refine TT.steps (cd := cd210) 3 (c' := (23, [(2, 0), (0, ((t : Nat) : Int)), (0, ((k : Nat) : Int))], [(2, 36), (2, 0)], σ)) rfl rfl ?_
      refine TT.call (cd := cd210) rfl rfl rfl (by decide) rfl (w_tryDay_36 X hl h05 hL hPb hhi hF) (fun r4 σ4 hq => ?_)
      obtain ⟨rfl, hFr, hPR, hDD⟩ := hq
      obtain ⟨⟨n1, hn1, hE⟩, hfull, h13⟩ := id hDD
      have hfu := hfull hF.2.2
      have hPb1 : PTb σ4 ρ 36 0 np ns := PTb_mv hPb (fun K j hK => hFr K j (by omega)) (fun _ _ _ => rfl)
      have hL1 : LT σ4 ρ _ b np nt ns L C := LT_mv hl hL (fun K j hK => hFr K j (by omega)) (fun _ _ _ => rfl) rfl
      have hQS : QS σ σ4 := fun K j hK => hFr K j (by omega)
      obtain ⟨Cm, Of, On, q1, q2, q3, q4, q5, q6, q7, q8, q9, q10⟩ := hE.2.2.2.2.2.2.1 t k ht (by rw [hfu t ht]; omega)
      have qb : σ4 200 (C t k) = ((bs (fun p => decide (mBA ρ 0 p (C t k : Int))) np : Nat) : Int) := by rw [(hPR.2.1 (C t k) (by omega)).1]; refine congrArg (fun x : Nat => (x : Int)) (bs_c (fun p hp => ?_)); obtain ⟨⟨s1, -, e1, e2⟩, e3, -, -⟩ := hPb1.2 p hp; unfold mBA; rw [e1, e2, e3]
      refine TT.steps (cd := cd210) 5 (c' := (29, [(2, 0), (0, ((t : Nat) : Int)), (0, ((k : Nat) : Int))], [(0, ((t : Nat) : Int)), (2, 224)], σ4)) rfl rfl ?_
      refine TT.aaldN (cd := cd210) 224 (t) (225 + t) rfl rfl rfl (Or.inr rfl) (show t < 6 by omega) (fxg_224 t (by omega)) ?_
      refine TT.steps (cd := cd210) 1 (c' := (31, [(2, 0), (0, ((t : Nat) : Int)), (0, ((k : Nat) : Int))], [(0, ((k : Nat) : Int)), (2, ((225 + t : Nat) : Int))], σ4)) rfl rfl ?_
      refine TT.aldN (cd := cd210) (225 + t) (k) rfl rfl rfl (kdg_224 t (by omega)).1 (show k < ln (225 + t) by rw [(kdg_224 t (by omega)).2]; omega) ?_
      refine TT.top0 (z := ((bs Cm np : Nat) : Int)) q2 ?_
      refine TT.steps (cd := cd210) 6 (c' := (38, [(2, 0), (0, ((t : Nat) : Int)), (0, ((k : Nat) : Int))], [(2, (σ4 0 5)), (2, 200), (0, ((bs Cm np : Nat) : Int))], σ4)) rfl rfl ?_
      refine TT.top0 (z := 8) ((hFr 0 (5) (by omega)).trans h05) ?_
      refine TT.steps (cd := cd210) 2 (c' := (40, [(2, 0), (0, ((t : Nat) : Int)), (0, ((k : Nat) : Int))], [(0, ((t : Nat) : Int)), (2, 16), (2, 200), (0, ((bs Cm np : Nat) : Int))], σ4)) rfl rfl ?_
      refine TT.aaldN (cd := cd210) 16 (t) (17 + t) rfl rfl rfl (Or.inr rfl) (show t < 6 by omega) (fxg_16 t (by omega)) ?_
      refine TT.steps (cd := cd210) 1 (c' := (42, [(2, 0), (0, ((t : Nat) : Int)), (0, ((k : Nat) : Int))], [(0, ((k : Nat) : Int)), (2, ((17 + t : Nat) : Int)), (2, 200), (0, ((bs Cm np : Nat) : Int))], σ4)) rfl rfl ?_
      refine TT.aldN (cd := cd210) (17 + t) (k) rfl rfl rfl (kdg_16 t (by omega)).1 (show k < ln (17 + t) by rw [(kdg_16 t (by omega)).2]; omega) ?_
      refine TT.top0 (z := (((C t k) : Nat) : Int)) ((hFr (17 + t) (k) (by omega)).trans (hCa t k ht hk).1) ?_
      refine TT.aldN (cd := cd210) (200) ((C t k)) rfl rfl rfl rfl (show (C t k) < 14 by omega) ?_
      refine TT.top0 (z := ((bs (fun p => decide (mBA ρ 0 p (C t k : Int))) np : Nat) : Int)) qb ?_
      refine TT.steps (cd := cd210) 1 (c' := (45, [(2, 0), (0, ((t : Nat) : Int)), (0, ((k : Nat) : Int))], [(0, (aAnd ((bs Cm np : Nat) : Int) ((bs (fun p => decide (mBA ρ 0 p (C t k : Int))) np : Nat) : Int)))], σ4)) rfl rfl ?_
      refine TT.top0 (z := ((bs (fun p => Cm p && (decide (mBA ρ 0 p (C t k : Int)))) np : Nat) : Int)) (bs_and Cm (fun p => decide (mBA ρ 0 p (C t k : Int))) (by omega)) ?_
      refine (TT.ret (cd := cd210) rfl rfl rfl rfl ⟨?_, hQS⟩)
      rw [q9, if_pos (by omega)]
      refine congrArg (fun x : Nat => some (0, (x : Int))) (bs_c (fun p hp => ?_))
      unfold mBA
      rw [mDay_fr _ _ _ _ _ _ 318 _ (by omega), mDay_fr _ _ _ _ _ _ 319 _ (by omega)]
    · refine TT.steps (cd := cd210) 1 (c' := (19, [(2, 0), (0, ((t : Nat) : Int)), (0, ((k : Nat) : Int))], [(0, 0)], σ)) rfl rfl ?_
      refine (TT.ret (cd := cd210) rfl rfl rfl rfl ⟨?_, QS.refl σ⟩)
      obtain ⟨Z1, Z2⟩ := hZ
      rw [Z2 (by omega)]
theorem K_because2_170 (X : AX) {σ ρ : AH} {b np nt ns : Nat} {L : Nat → Nat} {C : Nat → Nat → Nat} {w tp u tl oc : Nat} (h : IV σ ρ 170 b np nt ns L C w tp u tl oc) (t k : Nat) (ht : t < nt) (hk : k < L t) (hZ : True ∧ (¬ (0 < k ∧ k + 1 < L t) → (mDay ρ b 0 np nt L) 331 (8 * t + k) = 0))  : TT X 210 (0, [(2, 0), (0, ((t : Nat) : Int)), (0, ((k : Nat) : Int))], [], σ) (fun r σ' => r = some (0, (mDay ρ b 0 np nt L) 331 (8 * t + k)) ∧ QS σ σ') := by
  obtain ⟨⟨hl, h05, h33⟩, hL, hN, hPT, hF, hA, hTp, hO, hM, hH⟩ := id h
  obtain ⟨⟨a1, a2, a3, a4⟩, ⟨b1, b2, b3, b4, b5⟩, ⟨c1, c2, c3, c4, c5⟩, hTr, hCa, hAf, hPr, hDi⟩ := id hL
  obtain ⟨hPb, ⟨y1, y2, y3⟩, hhi, hPp⟩ := id hPT
  have hL8 := (hTr t ht).2.2.2.1
  have hCn := (hCa t k ht hk).2.2
  refine TT.steps (cd := cd210) 3 (c' := (3, [(2, 0), (0, ((t : Nat) : Int)), (0, ((k : Nat) : Int))], [(0, ((k : Nat) : Int)), (0, ((t : Nat) : Int)), (2, 0)], σ)) rfl rfl ?_
  refine TT.call (cd := cd210) rfl rfl rfl (by decide) rfl (w_isCall X hl t ((k : Nat) : Int) σ h05 nt a2 c2 ht) (fun r1 σ1 hq => ?_)
  rw [hq.1, hq.2, (hTr t ht).1, if_pos ⟨by omega, by omega⟩]
  refine TT.steps (cd := cd210) 3 (c' := ((if decide (((k : Nat) : Int) = 0) = true then 18 else 9), [(2, 0), (0, ((t : Nat) : Int)), (0, ((k : Nat) : Int))], [], σ)) rfl rfl ?_
  refine TT.br (p := ((k : Nat) : Int) = 0) (fun h2 => ?_) (fun h2 => ?_)
  · refine TT.steps (cd := cd210) 1 (c' := (19, [(2, 0), (0, ((t : Nat) : Int)), (0, ((k : Nat) : Int))], [(0, 0)], σ)) rfl rfl ?_
    refine (TT.ret (cd := cd210) rfl rfl rfl rfl ⟨?_, QS.refl σ⟩)
    obtain ⟨Z1, Z2⟩ := hZ
    rw [Z2 (by omega)]
  · refine TT.steps (cd := cd210) 3 (c' := (12, [(2, 0), (0, ((t : Nat) : Int)), (0, ((k : Nat) : Int))], [(2, (σ 0 5)), (0, ((k : Nat) : Int))], σ)) rfl rfl ?_
    refine TT.top0 (z := 170) h05 ?_
    refine TT.steps (cd := cd210) 2 (c' := (14, [(2, 0), (0, ((t : Nat) : Int)), (0, ((k : Nat) : Int))], [(0, ((t : Nat) : Int)), (2, 177), (0, ((k : Nat) : Int))], σ)) rfl rfl ?_
    refine TT.aldN (cd := cd210) (177) (t) rfl rfl rfl rfl (show t < 6 by omega) ?_
    refine TT.top0 (z := (((L t) : Nat) : Int)) (hTr t ht).1 ?_
    refine TT.steps (cd := cd210) 2 (c' := (17, [(2, 0), (0, ((t : Nat) : Int)), (0, ((k : Nat) : Int))], [(0, (aSub (((L t) : Nat) : Int) 1)), (0, ((k : Nat) : Int))], σ)) rfl rfl ?_
    refine TT.top0 (z := ((((L t)) - 1 : Nat) : Int)) (aSub_n (a := (L t)) (b := 1) (by omega) (by omega)) ?_
    refine TT.steps (cd := cd210) 1 (c' := ((if decide (¬ ((k : Nat) : Int) = ((((L t)) - 1 : Nat) : Int)) = true then 20 else 18), [(2, 0), (0, ((t : Nat) : Int)), (0, ((k : Nat) : Int))], [], σ)) rfl rfl ?_
    refine TT.br (p := ¬ ((k : Nat) : Int) = ((((L t)) - 1 : Nat) : Int)) (fun h3 => ?_) (fun h3 => ?_)
    · refine TT.steps (cd := cd210) 3 (c' := (23, [(2, 0), (0, ((t : Nat) : Int)), (0, ((k : Nat) : Int))], [(2, 36), (2, 0)], σ)) rfl rfl ?_
      refine TT.call (cd := cd210) rfl rfl rfl (by decide) rfl (w_tryDay_36 X hl h05 hL hPb hhi hF) (fun r4 σ4 hq => ?_)
      obtain ⟨rfl, hFr, hPR, hDD⟩ := hq
      obtain ⟨⟨n1, hn1, hE⟩, hfull, h13⟩ := id hDD
      have hfu := hfull hF.2.2
      have hPb1 : PTb σ4 ρ 36 0 np ns := PTb_mv hPb (fun K j hK => hFr K j (by omega)) (fun _ _ _ => rfl)
      have hL1 : LT σ4 ρ _ b np nt ns L C := LT_mv hl hL (fun K j hK => hFr K j (by omega)) (fun _ _ _ => rfl) rfl
      have hQS : QS σ σ4 := fun K j hK => hFr K j (by omega)
      obtain ⟨Cm, Of, On, q1, q2, q3, q4, q5, q6, q7, q8, q9, q10⟩ := hE.2.2.2.2.2.2.1 t k ht (by rw [hfu t ht]; omega)
      have qb : σ4 200 (C t k) = ((bs (fun p => decide (mBA ρ 0 p (C t k : Int))) np : Nat) : Int) := by rw [(hPR.2.1 (C t k) (by omega)).1]; refine congrArg (fun x : Nat => (x : Int)) (bs_c (fun p hp => ?_)); obtain ⟨⟨s1, -, e1, e2⟩, e3, -, -⟩ := hPb1.2 p hp; unfold mBA; rw [e1, e2, e3]
      refine TT.steps (cd := cd210) 5 (c' := (29, [(2, 0), (0, ((t : Nat) : Int)), (0, ((k : Nat) : Int))], [(0, ((t : Nat) : Int)), (2, 224)], σ4)) rfl rfl ?_
      refine TT.aaldN (cd := cd210) 224 (t) (225 + t) rfl rfl rfl (Or.inr rfl) (show t < 6 by omega) (fxg_224 t (by omega)) ?_
      refine TT.steps (cd := cd210) 1 (c' := (31, [(2, 0), (0, ((t : Nat) : Int)), (0, ((k : Nat) : Int))], [(0, ((k : Nat) : Int)), (2, ((225 + t : Nat) : Int))], σ4)) rfl rfl ?_
      refine TT.aldN (cd := cd210) (225 + t) (k) rfl rfl rfl (kdg_224 t (by omega)).1 (show k < ln (225 + t) by rw [(kdg_224 t (by omega)).2]; omega) ?_
      refine TT.top0 (z := ((bs Cm np : Nat) : Int)) q2 ?_
      refine TT.steps (cd := cd210) 6 (c' := (38, [(2, 0), (0, ((t : Nat) : Int)), (0, ((k : Nat) : Int))], [(2, (σ4 0 5)), (2, 200), (0, ((bs Cm np : Nat) : Int))], σ4)) rfl rfl ?_
      refine TT.top0 (z := 170) ((hFr 0 (5) (by omega)).trans h05) ?_
      refine TT.steps (cd := cd210) 2 (c' := (40, [(2, 0), (0, ((t : Nat) : Int)), (0, ((k : Nat) : Int))], [(0, ((t : Nat) : Int)), (2, 178), (2, 200), (0, ((bs Cm np : Nat) : Int))], σ4)) rfl rfl ?_
      refine TT.aaldN (cd := cd210) 178 (t) (179 + t) rfl rfl rfl (Or.inr rfl) (show t < 6 by omega) (fxg_178 t (by omega)) ?_
      refine TT.steps (cd := cd210) 1 (c' := (42, [(2, 0), (0, ((t : Nat) : Int)), (0, ((k : Nat) : Int))], [(0, ((k : Nat) : Int)), (2, ((179 + t : Nat) : Int)), (2, 200), (0, ((bs Cm np : Nat) : Int))], σ4)) rfl rfl ?_
      refine TT.aldN (cd := cd210) (179 + t) (k) rfl rfl rfl (kdg_178 t (by omega)).1 (show k < ln (179 + t) by rw [(kdg_178 t (by omega)).2]; omega) ?_
      refine TT.top0 (z := (((C t k) : Nat) : Int)) ((hFr (179 + t) (k) (by omega)).trans (hCa t k ht hk).1) ?_
      refine TT.aldN (cd := cd210) (200) ((C t k)) rfl rfl rfl rfl (show (C t k) < 14 by omega) ?_
      refine TT.top0 (z := ((bs (fun p => decide (mBA ρ 0 p (C t k : Int))) np : Nat) : Int)) qb ?_
      refine TT.steps (cd := cd210) 1 (c' := (45, [(2, 0), (0, ((t : Nat) : Int)), (0, ((k : Nat) : Int))], [(0, (aAnd ((bs Cm np : Nat) : Int) ((bs (fun p => decide (mBA ρ 0 p (C t k : Int))) np : Nat) : Int)))], σ4)) rfl rfl ?_
      refine TT.top0 (z := ((bs (fun p => Cm p && (decide (mBA ρ 0 p (C t k : Int)))) np : Nat) : Int)) (bs_and Cm (fun p => decide (mBA ρ 0 p (C t k : Int))) (by omega)) ?_
      refine (TT.ret (cd := cd210) rfl rfl rfl rfl ⟨?_, hQS⟩)
      rw [q9, if_pos (by omega)]
      refine congrArg (fun x : Nat => some (0, (x : Int))) (bs_c (fun p hp => ?_))
      unfold mBA
      rw [mDay_fr _ _ _ _ _ _ 318 _ (by omega), mDay_fr _ _ _ _ _ _ 319 _ (by omega)]
    · refine TT.steps (cd := cd210) 1 (c' := (19, [(2, 0), (0, ((t : Nat) : Int)), (0, ((k : Nat) : Int))], [(0, 0)], σ)) rfl rfl ?_
      refine (TT.ret (cd := cd210) rfl rfl rfl rfl ⟨?_, QS.refl σ⟩)
      obtain ⟨Z1, Z2⟩ := hZ
      rw [Z2 (by omega)]
theorem K_because2 (X : AX) {l : Nat} {σ ρ : AH} {b np nt ns : Nat} {L : Nat → Nat} {C : Nat → Nat → Nat} {w tp u tl oc : Nat} (h : IV σ ρ l b np nt ns L C w tp u tl oc) (t k : Nat) (ht : t < nt) (hk : k < L t) (hZ : True ∧ (¬ (0 < k ∧ k + 1 < L t) → (mDay ρ b 0 np nt L) 331 (8 * t + k) = 0))  : TT X 210 (0, [(2, 0), (0, ((t : Nat) : Int)), (0, ((k : Nat) : Int))], [], σ) (fun r σ' => r = some (0, (mDay ρ b 0 np nt L) 331 (8 * t + k)) ∧ QS σ σ') := by
  rcases h.1.1 with rfl | rfl
  · exact K_because2_8 X h t k ht hk hZ
  · exact K_because2_170 X h t k ht hk hZ
