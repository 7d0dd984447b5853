/-! on of the class: the whole. -/
theorem img_s (ρ : AH) (b ns n : Nat) (c : Prop) [Decidable c] : aAnd (if c ∧ anyN (fun p => decide (¬ mPOn ρ b ns p)) n = false then 1 else 0) (if mPOn ρ b ns n then 1 else 0) = if c ∧ anyN (fun p => decide (¬ mPOn ρ b ns p)) (n + 1) = false then 1 else 0 := by
  rw [and01]
  refine if_cg ?_
  rw [anyN, Bool.or_eq_false_iff, decide_eq_false_iff_not, Decidable.not_not]
  constructor
  · rintro ⟨⟨g1, g2⟩, g3⟩; exact ⟨g1, g2, g3⟩
  · rintro ⟨g1, g2, g3⟩; exact ⟨⟨g1, g2⟩, g3⟩
theorem img_0 {ρ : AH} {b ns : Nat} {c : Prop} [Decidable c] {x : Int} (h : (c ∧ x = 1) ∨ (¬ c ∧ x = 0)) : x = if c ∧ anyN (fun p => decide (¬ mPOn ρ b ns p)) 0 = false then 1 else 0 := by
  rcases h with ⟨g, rfl⟩ | ⟨g, rfl⟩
  · rw [if_pos ⟨g, rfl⟩]
  · rw [if_neg (fun q => g q.1)]
theorem kl_isImage (X : AX) (Q : Option AV → AH → Prop) {l : Nat} {σ ρ : AH} {b np nt ns : Nat} {L : Nat → Nat} {C : Nat → Nat → Nat} {w tp u tl oc : Nat} (h : IV σ ρ l b np nt ns L C w tp u tl oc) (htl : tl = 3 + 6 * np) (yA yB : Nat)  (kk : TT X 239 (67, [(2, 0), (0, ((2 + (6 * np) : Nat) : Int)), (0, (if (((256 * yA + yB : Nat) : Int) ≤ 9999) ∧ anyN (fun p => decide (¬ mPOn ρ b ns p)) np = false then 1 else 0)), (0, ((np : Nat) : Int))], [], σ) Q) : ∀ (d n : Nat), n + d = np → TT X 239 (49, [(2, 0), (0, ((2 + (6 * np) : Nat) : Int)), (0, (if (((256 * yA + yB : Nat) : Int) ≤ 9999) ∧ anyN (fun p => decide (¬ mPOn ρ b ns p)) n = false then 1 else 0)), (0, ((n : Nat) : Int))], [], σ) Q := by
  intro d
  induction d with
  | zero =>
    intro n hn
    have hnn : n = np := by omega
    rw [hnn]
    obtain ⟨⟨hl, h05, h33⟩, hL, hN, hPT, hF, hA, hTp, hO, hM, hH⟩ := id h
    obtain ⟨t1, t2, t3, t4⟩ := id hTp
    have c1 := hL.2.2.1.1
    have hPb := hPT.1
    refine TT.steps (cd := cd239) 4 (c' := (53, [(2, 0), (0, ((2 + (6 * np) : Nat) : Int)), (0, (if (((256 * yA + yB : Nat) : Int) ≤ 9999) ∧ anyN (fun p => decide (¬ mPOn ρ b ns p)) np = false then 1 else 0)), (0, ((np : Nat) : Int))], [(0, (σ 36 0)), (0, ((np : Nat) : Int))], σ)) rfl rfl ?_
    refine TT.top0 (z := ((np : Nat) : Int)) hPb.1 ?_
    refine TT.steps (cd := cd239) 1 (c' := ((if decide (((np : Nat) : Int) ≤ ((np : Nat) : Int)) = true then 67 else 54), [(2, 0), (0, ((2 + (6 * np) : Nat) : Int)), (0, (if (((256 * yA + yB : Nat) : Int) ≤ 9999) ∧ anyN (fun p => decide (¬ mPOn ρ b ns p)) np = false then 1 else 0)), (0, ((np : Nat) : Int))], [], σ)) rfl rfl ?_
    refine TT.br (p := ((np : Nat) : Int) ≤ ((np : Nat) : Int)) (fun h1 => ?_) (fun h1 => absurd (show ((np : Nat) : Int) ≤ ((np : Nat) : Int) by omega) h1)
    exact kk
  | succ d ih =>
    intro n hn
    obtain ⟨⟨hl, h05, h33⟩, hL, hN, hPT, hF, hA, hTp, hO, hM, hH⟩ := id h
    obtain ⟨t1, t2, t3, t4⟩ := id hTp
    have c1 := hL.2.2.1.1
    have hPb := hPT.1
    obtain ⟨x0, x1, x2, x3, x4, x5, hB⟩ := B6_ex (f := ρ 296) (2 + (6 * n)) (fun i hi => (t4 (2 + (6 * n) + i) (by omega)).2)
    refine TT.steps (cd := cd239) 4 (c' := (53, [(2, 0), (0, ((2 + (6 * np) : Nat) : Int)), (0, (if (((256 * yA + yB : Nat) : Int) ≤ 9999) ∧ anyN (fun p => decide (¬ mPOn ρ b ns p)) n = false then 1 else 0)), (0, ((n : Nat) : Int))], [(0, (σ 36 0)), (0, ((n : Nat) : Int))], σ)) rfl rfl ?_
    refine TT.top0 (z := ((np : Nat) : Int)) hPb.1 ?_
    refine TT.steps (cd := cd239) 1 (c' := ((if decide (((np : Nat) : Int) ≤ ((n : Nat) : Int)) = true then 67 else 54), [(2, 0), (0, ((2 + (6 * np) : Nat) : Int)), (0, (if (((256 * yA + yB : Nat) : Int) ≤ 9999) ∧ anyN (fun p => decide (¬ mPOn ρ b ns p)) n = false then 1 else 0)), (0, ((n : Nat) : Int))], [], σ)) rfl rfl ?_
    refine TT.br (p := ((np : Nat) : Int) ≤ ((n : Nat) : Int)) (fun h1 => absurd h1 (show ¬ (((np : Nat) : Int) ≤ ((n : Nat) : Int)) by omega)) (fun h1 => ?_)
    refine TT.steps (cd := cd239) 7 (c' := (61, [(2, 0), (0, ((2 + (6 * np) : Nat) : Int)), (0, (if (((256 * yA + yB : Nat) : Int) ≤ 9999) ∧ anyN (fun p => decide (¬ mPOn ρ b ns p)) n = false then 1 else 0)), (0, ((n : Nat) : Int))], [(0, (aMul 6 ((n : Nat) : Int))), (0, 2), (0, ((n : Nat) : Int)), (2, 0), (0, (if (((256 * yA + yB : Nat) : Int) ≤ 9999) ∧ anyN (fun p => decide (¬ mPOn ρ b ns p)) n = false then 1 else 0))], σ)) rfl rfl ?_
    refine TT.top0 (z := ((6 * n : Nat) : Int)) (aMul_n (a := 6) (b := n) (by omega)) ?_
    refine TT.steps (cd := cd239) 1 (c' := (62, [(2, 0), (0, ((2 + (6 * np) : Nat) : Int)), (0, (if (((256 * yA + yB : Nat) : Int) ≤ 9999) ∧ anyN (fun p => decide (¬ mPOn ρ b ns p)) n = false then 1 else 0)), (0, ((n : Nat) : Int))], [(0, (aAdd 2 ((6 * n : Nat) : Int))), (0, ((n : Nat) : Int)), (2, 0), (0, (if (((256 * yA + yB : Nat) : Int) ≤ 9999) ∧ anyN (fun p => decide (¬ mPOn ρ b ns p)) n = false then 1 else 0))], σ)) rfl rfl ?_
    refine TT.top0 (z := ((2 + (6 * n) : Nat) : Int)) (aAdd_n (a := 2) (b := 6 * n) (by omega)) ?_
    refine TT.call (cd := cd239) rfl rfl rfl (by decide) rfl (((u_isPersonImage X h n x0 x1 x2 x3 x4 x5 (by omega) (B6_c hB (fun i hi => (t4 (2 + (6 * n) + i) (by omega)).1))).mono (Q' := fun r σ' => r = some (0, (if mPOn ρ b ns n then 1 else 0)) ∧ σ' = σ) (fun r σ' hr => ⟨hr.1.trans (congrArg (fun x => some ((0 : Nat), x)) (if_cg (pOK_iff hB).symm)), hr.2⟩))) (fun r2 σ2 hq => ?_)
    rw [hq.1, hq.2]
    refine TT.steps (cd := cd239) 1 (c' := (64, [(2, 0), (0, ((2 + (6 * np) : Nat) : Int)), (0, (if (((256 * yA + yB : Nat) : Int) ≤ 9999) ∧ anyN (fun p => decide (¬ mPOn ρ b ns p)) n = false then 1 else 0)), (0, ((n : Nat) : Int))], [(0, (aAnd ((if (((256 * yA + yB : Nat) : Int) ≤ 9999) ∧ anyN (fun p => decide (¬ mPOn ρ b ns p)) n = false then 1 else 0) : Int) ((if mPOn ρ b ns n then 1 else 0) : Int)))], σ)) rfl rfl ?_
    refine TT.top0 (z := ((if (((256 * yA + yB : Nat) : Int) ≤ 9999) ∧ anyN (fun p => decide (¬ mPOn ρ b ns p)) (n + 1) = false then 1 else 0) : Int)) (img_s _ _ _ _ _) ?_
    refine TT.steps (cd := cd239) 1 (c' := (65, [(2, 0), (0, ((2 + (6 * np) : Nat) : Int)), (0, (if (((256 * yA + yB : Nat) : Int) ≤ 9999) ∧ anyN (fun p => decide (¬ mPOn ρ b ns p)) (n + 1) = false then 1 else 0)), (0, ((n : Nat) : Int))], [], σ)) rfl rfl ?_
    refine TT.inc (cd := cd239) ((n + 1 : Nat) : Int) rfl rfl rfl rfl (fun h => absurd h.2 (show ¬ (0 = 1) by decide)) (aAdd_n (a := n) (b := 1) (by omega)) (ls' := [(2, 0), (0, ((2 + (6 * np) : Nat) : Int)), (0, (if (((256 * yA + yB : Nat) : Int) ≤ 9999) ∧ anyN (fun p => decide (¬ mPOn ρ b ns p)) (n + 1) = false then 1 else 0)), (0, ((n + 1 : Nat) : Int))]) rfl ?_
    refine TT.steps (cd := cd239) 1 (c' := (49, [(2, 0), (0, ((2 + (6 * np) : Nat) : Int)), (0, (if (((256 * yA + yB : Nat) : Int) ≤ 9999) ∧ anyN (fun p => decide (¬ mPOn ρ b ns p)) (n + 1) = false then 1 else 0)), (0, ((n + 1 : Nat) : Int))], [], σ)) rfl rfl ?_
    have e3 : ((n + 1 : Nat) : Int) = (((n + 1) : Nat) : Int) := by omega
    rw [e3]
    clear e3
    exact ih (n + 1) (by omega)
theorem v_isImage0 (X : AX) {l : Nat} {σ ρ : AH} {b np nt ns : Nat} {L : Nat → Nat} {C : Nat → Nat → Nat} {w tp u tl oc : Nat} (h : IV σ ρ l b np nt ns L C w tp u tl oc) (htl : ¬ tl = 3 + 6 * np)  : TT X 239 (0, [(2, 0), (9, 0), (9, 0), (9, 0)], [], σ) (fun r σ' => r = some (0, 0) ∧ σ' = σ) := by
  obtain ⟨⟨hl, h05, h33⟩, hL, hN, hPT, hF, hA, hTp, hO, hM, hH⟩ := id h
  obtain ⟨⟨a1, a2, a3, a4⟩, ⟨b1, b2, b3, b4, b5⟩, ⟨c1, c2, c3, c4, c5⟩, hTr, hCa, hAf, hPr, hDi⟩ := id hL
  obtain ⟨hPb, ⟨y1, y2, y3⟩, hhi, hPp⟩ := id hPT
  obtain ⟨t1, t2, t3, t4⟩ := id hTp
  refine TT.steps (cd := cd239) 5 (c' := (5, [(2, 0), (9, 0), (9, 0), (9, 0)], [(0, (σ 36 0)), (0, 6), (0, 2)], σ)) rfl rfl ?_
  refine TT.top0 (z := ((np : Nat) : Int)) hPb.1 ?_
  refine TT.steps (cd := cd239) 1 (c' := (6, [(2, 0), (9, 0), (9, 0), (9, 0)], [(0, (aMul 6 ((np : Nat) : Int))), (0, 2)], σ)) rfl rfl ?_
  refine TT.top0 (z := ((6 * np : Nat) : Int)) (aMul_n (a := 6) (b := np) (by omega)) ?_
  refine TT.steps (cd := cd239) 1 (c' := (7, [(2, 0), (9, 0), (9, 0), (9, 0)], [(0, (aAdd 2 ((6 * np : Nat) : Int)))], σ)) rfl rfl ?_
  refine TT.top0 (z := ((2 + (6 * np) : Nat) : Int)) (aAdd_n (a := 2) (b := 6 * np) (by omega)) ?_
  refine TT.steps (cd := cd239) 4 (c' := (11, [(2, 0), (0, ((2 + (6 * np) : Nat) : Int)), (9, 0), (9, 0)], [(0, (σ 1 1))], σ)) rfl rfl ?_
  refine TT.top0 (z := ((tl : Nat) : Int)) t1 ?_
  refine TT.steps (cd := cd239) 3 (c' := (14, [(2, 0), (0, ((2 + (6 * np) : Nat) : Int)), (9, 0), (9, 0)], [(0, (aAdd ((2 + (6 * np) : Nat) : Int) 1)), (0, ((tl : Nat) : Int))], σ)) rfl rfl ?_
  refine TT.top0 (z := (((2 + (6 * np)) + 1 : Nat) : Int)) (aAdd_n (a := 2 + (6 * np)) (b := 1) (by omega)) ?_
  refine TT.steps (cd := cd239) 1 (c' := ((if decide (¬ ((tl : Nat) : Int) = (((2 + (6 * np)) + 1 : Nat) : Int)) = true then 26 else 15), [(2, 0), (0, ((2 + (6 * np) : Nat) : Int)), (9, 0), (9, 0)], [], σ)) rfl rfl ?_
  refine TT.br (p := ¬ ((tl : Nat) : Int) = (((2 + (6 * np)) + 1 : Nat) : Int)) (fun h1 => ?_) (fun h1 => absurd (show ¬ ((tl : Nat) : Int) = (((2 + (6 * np)) + 1 : Nat) : Int) by omega) h1)
  refine TT.steps (cd := cd239) 1 (c' := (27, [(2, 0), (0, ((2 + (6 * np) : Nat) : Int)), (9, 0), (9, 0)], [(0, 0)], σ)) rfl rfl ?_
  exact TT.ret (cd := cd239) rfl rfl rfl rfl (⟨rfl, rfl⟩)
theorem v_isImage1 (X : AX) {l : Nat} {σ ρ : AH} {b np nt ns : Nat} {L : Nat → Nat} {C : Nat → Nat → Nat} {w tp u tl oc : Nat} (h : IV σ ρ l b np nt ns L C w tp u tl oc) (htl : tl = 3 + 6 * np)  : TT X 239 (0, [(2, 0), (9, 0), (9, 0), (9, 0)], [], σ) (fun r σ' => r = some (0, if mImgC ρ b np ns tl then 1 else 0) ∧ σ' = σ) := by
  obtain ⟨⟨hl, h05, h33⟩, hL, hN, hPT, hF, hA, hTp, hO, hM, hH⟩ := id h
  obtain ⟨⟨a1, a2, a3, a4⟩, ⟨b1, b2, b3, b4, b5⟩, ⟨c1, c2, c3, c4, c5⟩, hTr, hCa, hAf, hPr, hDi⟩ := id hL
  obtain ⟨hPb, ⟨y1, y2, y3⟩, hhi, hPp⟩ := id hPT
  obtain ⟨t1, t2, t3, t4⟩ := id hTp
  obtain ⟨yA, e0⟩ : ∃ yA : Nat, ρ 296 0 = (yA : Int) := ⟨(ρ 296 0).toNat, by have := (t4 0 (by omega)).2; omega⟩
  obtain ⟨yB, e1⟩ : ∃ yB : Nat, ρ 296 1 = (yB : Int) := ⟨(ρ 296 1).toNat, by have := (t4 1 (by omega)).2; omega⟩
  have yeA : yA ≤ 255 := by have := (t4 0 (by omega)).2; omega
  have yeB : yB ≤ 255 := by have := (t4 1 (by omega)).2; omega
  refine TT.steps (cd := cd239) 5 (c' := (5, [(2, 0), (9, 0), (9, 0), (9, 0)], [(0, (σ 36 0)), (0, 6), (0, 2)], σ)) rfl rfl ?_
  refine TT.top0 (z := ((np : Nat) : Int)) hPb.1 ?_
  refine TT.steps (cd := cd239) 1 (c' := (6, [(2, 0), (9, 0), (9, 0), (9, 0)], [(0, (aMul 6 ((np : Nat) : Int))), (0, 2)], σ)) rfl rfl ?_
  refine TT.top0 (z := ((6 * np : Nat) : Int)) (aMul_n (a := 6) (b := np) (by omega)) ?_
  refine TT.steps (cd := cd239) 1 (c' := (7, [(2, 0), (9, 0), (9, 0), (9, 0)], [(0, (aAdd 2 ((6 * np : Nat) : Int)))], σ)) rfl rfl ?_
  refine TT.top0 (z := ((2 + (6 * np) : Nat) : Int)) (aAdd_n (a := 2) (b := 6 * np) (by omega)) ?_
  refine TT.steps (cd := cd239) 4 (c' := (11, [(2, 0), (0, ((2 + (6 * np) : Nat) : Int)), (9, 0), (9, 0)], [(0, (σ 1 1))], σ)) rfl rfl ?_
  refine TT.top0 (z := ((tl : Nat) : Int)) t1 ?_
  refine TT.steps (cd := cd239) 3 (c' := (14, [(2, 0), (0, ((2 + (6 * np) : Nat) : Int)), (9, 0), (9, 0)], [(0, (aAdd ((2 + (6 * np) : Nat) : Int) 1)), (0, ((tl : Nat) : Int))], σ)) rfl rfl ?_
  refine TT.top0 (z := (((2 + (6 * np)) + 1 : Nat) : Int)) (aAdd_n (a := 2 + (6 * np)) (b := 1) (by omega)) ?_
  refine TT.steps (cd := cd239) 1 (c' := ((if decide (¬ ((tl : Nat) : Int) = (((2 + (6 * np)) + 1 : Nat) : Int)) = true then 26 else 15), [(2, 0), (0, ((2 + (6 * np) : Nat) : Int)), (9, 0), (9, 0)], [], σ)) rfl rfl ?_
  refine TT.br (p := ¬ ((tl : Nat) : Int) = (((2 + (6 * np)) + 1 : Nat) : Int)) (fun h1 => absurd h1 (show ¬ (¬ ((tl : Nat) : Int) = (((2 + (6 * np)) + 1 : Nat) : Int)) by omega)) (fun h1 => ?_)
  refine TT.steps (cd := cd239) 4 (c' := (19, [(2, 0), (0, ((2 + (6 * np) : Nat) : Int)), (9, 0), (9, 0)], [(0, ((2 + (6 * np) : Nat) : Int)), (2, 2)], σ)) rfl rfl ?_
  refine TT.aldN (cd := cd239) (2) (2 + (6 * np)) rfl rfl rfl rfl (show 2 + (6 * np) < 1600 by omega) ?_
  refine TT.top0 (z := (ρ 296 (2 + 6 * np))) (t4 _ (by omega)).1 ?_
  refine TT.steps (cd := cd239) 4 (c' := (24, [(2, 0), (0, ((2 + (6 * np) : Nat) : Int)), (9, 0), (9, 0)], [(0, ((2 + (6 * np) : Nat) : Int)), (2, 2), (0, (ρ 296 (2 + 6 * np)))], σ)) rfl rfl ?_
  refine TT.call (cd := cd239) rfl rfl rfl (by decide) rfl (u_checksum_2 X (2 + (6 * np)) (by omega) σ) (fun r2 σ2 hq => ?_)
  rw [hq.1, hq.2, sumI_c (f := σ 2) (g := fun k => ρ 296 k) _ (fun k hk => (t4 k (by omega)).1)]
  refine TT.steps (cd := cd239) 1 (c' := ((if decide ((ρ 296 (2 + 6 * np)) = (sumI (fun k => ρ 296 k) (2 + 6 * np))) = true then 28 else 26), [(2, 0), (0, ((2 + (6 * np) : Nat) : Int)), (9, 0), (9, 0)], [], σ)) rfl rfl ?_
  refine TT.br (p := (ρ 296 (2 + 6 * np)) = (sumI (fun k => ρ 296 k) (2 + 6 * np))) (fun h3 => ?_) (fun h3 => ?_)
  · refine TT.steps (cd := cd239) 4 (c' := (32, [(2, 0), (0, ((2 + (6 * np) : Nat) : Int)), (9, 0), (9, 0)], [(0, 0), (2, 2)], σ)) rfl rfl ?_
    refine TT.aldN (cd := cd239) (2) (0) rfl rfl rfl rfl (show 0 < 1600 by omega) ?_
    refine TT.top0 (z := ((yA : Nat) : Int)) ((t4 0 (by omega)).1.trans e0) ?_
    refine TT.steps (cd := cd239) 2 (c' := (35, [(2, 0), (0, ((2 + (6 * np) : Nat) : Int)), (9, 0), (9, 0)], [(0, (aMul ((yA : Nat) : Int) 256))], σ)) rfl rfl ?_
    refine TT.top0 (z := (aMul ((yA : Nat) : Int) 256)) rfl ?_
    refine TT.steps (cd := cd239) 4 (c' := (39, [(2, 0), (0, ((2 + (6 * np) : Nat) : Int)), (9, 0), (9, 0)], [(0, 1), (2, 2), (0, (aMul ((yA : Nat) : Int) 256))], σ)) rfl rfl ?_
    refine TT.aldN (cd := cd239) (2) (1) rfl rfl rfl rfl (show 1 < 1600 by omega) ?_
    refine TT.top0 (z := ((yB : Nat) : Int)) ((t4 1 (by omega)).1.trans e1) ?_
    refine TT.steps (cd := cd239) 1 (c' := (41, [(2, 0), (0, ((2 + (6 * np) : Nat) : Int)), (9, 0), (9, 0)], [(0, (aAdd (aMul ((yA : Nat) : Int) 256) ((yB : Nat) : Int)))], σ)) rfl rfl ?_
    refine TT.top0 (z := ((256 * yA + yB : Nat) : Int)) (yr_eq yeA yeB).2 ?_
    refine TT.steps (cd := cd239) 2 (c' := ((if decide (9999 < ((256 * yA + yB : Nat) : Int)) = true then 45 else 43), [(2, 0), (0, ((2 + (6 * np) : Nat) : Int)), (9, 0), (9, 0)], [], σ)) rfl rfl ?_
    refine TT.br (p := 9999 < ((256 * yA + yB : Nat) : Int)) (fun h4 => ?_) (fun h4 => ?_)
    · refine TT.steps (cd := cd239) 4 (c' := (49, [(2, 0), (0, ((2 + (6 * np) : Nat) : Int)), (0, 0), (0, 0)], [], σ)) rfl rfl ?_
      refine TT.ls0 (ls' := [(2, 0), (0, ((2 + (6 * np) : Nat) : Int)), (0, (if (((256 * yA + yB : Nat) : Int) ≤ 9999) ∧ anyN (fun p => decide (¬ mPOn ρ b ns p)) 0 = false then 1 else 0)), (0, 0)]) (congrArg (fun z : Int => [((2 : Nat), (0 : Int)), (0, ((2 + (6 * np) : Nat) : Int)), (0, z), (0, 0)]) (img_0 (c := ((256 * yA + yB : Nat) : Int) ≤ 9999) (by omega))) ?_
      refine kl_isImage X _ h htl yA yB ?_ np 0 (by omega)
      refine TT.steps (cd := cd239) 1 (c' := (68, [(2, 0), (0, ((2 + (6 * np) : Nat) : Int)), (0, (if (((256 * yA + yB : Nat) : Int) ≤ 9999) ∧ anyN (fun p => decide (¬ mPOn ρ b ns p)) np = false then 1 else 0)), (0, ((np : Nat) : Int))], [(0, (if (((256 * yA + yB : Nat) : Int) ≤ 9999) ∧ anyN (fun p => decide (¬ mPOn ρ b ns p)) np = false then 1 else 0))], σ)) rfl rfl ?_
      by_cases hc : (((256 * yA + yB : Nat) : Int) ≤ 9999) ∧ anyN (fun p => decide (¬ mPOn ρ b ns p)) np = false
      · rw [if_pos hc]
        refine TT.ret (cd := cd239) rfl rfl rfl rfl ⟨?_, rfl⟩
        rw [if_pos ⟨htl, by rw [e0, e1, (yr_eq yeA yeB).1]; exact hc.1, by assumption, hc.2⟩]
      · rw [if_neg hc]
        refine TT.ret (cd := cd239) rfl rfl rfl rfl ⟨?_, rfl⟩
        rw [if_neg (fun hd => hc ⟨by have h9 := hd.2.1; rw [e0, e1, (yr_eq yeA yeB).1] at h9; exact h9, hd.2.2.2⟩)]
    · refine TT.steps (cd := cd239) 5 (c' := (49, [(2, 0), (0, ((2 + (6 * np) : Nat) : Int)), (0, 1), (0, 0)], [], σ)) rfl rfl ?_
      refine TT.ls0 (ls' := [(2, 0), (0, ((2 + (6 * np) : Nat) : Int)), (0, (if (((256 * yA + yB : Nat) : Int) ≤ 9999) ∧ anyN (fun p => decide (¬ mPOn ρ b ns p)) 0 = false then 1 else 0)), (0, 0)]) (congrArg (fun z : Int => [((2 : Nat), (0 : Int)), (0, ((2 + (6 * np) : Nat) : Int)), (0, z), (0, 0)]) (img_0 (c := ((256 * yA + yB : Nat) : Int) ≤ 9999) (by omega))) ?_
      refine kl_isImage X _ h htl yA yB ?_ np 0 (by omega)
      refine TT.steps (cd := cd239) 1 (c' := (68, [(2, 0), (0, ((2 + (6 * np) : Nat) : Int)), (0, (if (((256 * yA + yB : Nat) : Int) ≤ 9999) ∧ anyN (fun p => decide (¬ mPOn ρ b ns p)) np = false then 1 else 0)), (0, ((np : Nat) : Int))], [(0, (if (((256 * yA + yB : Nat) : Int) ≤ 9999) ∧ anyN (fun p => decide (¬ mPOn ρ b ns p)) np = false then 1 else 0))], σ)) rfl rfl ?_
      by_cases hc : (((256 * yA + yB : Nat) : Int) ≤ 9999) ∧ anyN (fun p => decide (¬ mPOn ρ b ns p)) np = false
      · rw [if_pos hc]
        refine TT.ret (cd := cd239) rfl rfl rfl rfl ⟨?_, rfl⟩
        rw [if_pos ⟨htl, by rw [e0, e1, (yr_eq yeA yeB).1]; exact hc.1, by assumption, hc.2⟩]
      · rw [if_neg hc]
        refine TT.ret (cd := cd239) rfl rfl rfl rfl ⟨?_, rfl⟩
        rw [if_neg (fun hd => hc ⟨by have h9 := hd.2.1; rw [e0, e1, (yr_eq yeA yeB).1] at h9; exact h9, hd.2.2.2⟩)]
  · refine TT.steps (cd := cd239) 1 (c' := (27, [(2, 0), (0, ((2 + (6 * np) : Nat) : Int)), (9, 0), (9, 0)], [(0, 0)], σ)) rfl rfl ?_
    refine TT.ret (cd := cd239) rfl rfl rfl rfl ⟨?_, rfl⟩
    rw [if_neg (fun hc => absurd hc.2.2.1 (by assumption))]
theorem vl_take (X : AX) (Q : Option AV → AH → Prop) {σ ρ : AH} {np : Nat} {y : Int} (c1 : np ≤ 10) (h36 : σ 36 0 = (np : Int)) (hT : ∀ j, j < 3 + 6 * np → σ 2 j = ρ 296 j) (h5 : ∀ p, p < np → ρ 296 (2 + (6 * p) + 5) = 0 ∨ ρ 296 (2 + (6 * p) + 5) = 1)  (kk : ∀ (τ : AH) (y0_ : AV), TK σ τ (ρ 296) y np → TT X 241 (112, [(2, 0), (0, ((np : Nat) : Int)), y0_], [], τ) Q) : ∀ (d n : Nat), n + d = np → ∀ (τ : AH) (y0_ : AV), TK σ τ (ρ 296) y n → TT X 241 (22, [(2, 0), (0, ((n : Nat) : Int)), y0_], [], τ) Q := by
  intro d
  induction d with
  | zero =>
    intro n hn τ y0_ hP
    have hnn : n = np := by omega
    rw [hnn] at hP ⊢
    refine TT.steps (cd := cd241) 4 (c' := (26, [(2, 0), (0, ((np : Nat) : Int)), y0_], [(0, (τ 36 0)), (0, ((np : Nat) : Int))], τ)) rfl rfl ?_
    refine TT.top0 (z := ((np : Nat) : Int)) (hP.2.1.1.trans h36) ?_
    refine TT.steps (cd := cd241) 1 (c' := ((if decide (((np : Nat) : Int) ≤ ((np : Nat) : Int)) = true then 112 else 27), [(2, 0), (0, ((np : Nat) : Int)), y0_], [], τ)) rfl rfl ?_
    refine TT.br (p := ((np : Nat) : Int) ≤ ((np : Nat) : Int)) (fun h1 => ?_) (fun h1 => absurd (show ((np : Nat) : Int) ≤ ((np : Nat) : Int) by omega) h1)
    exact kk _ _ hP
  | succ d ih =>
    intro n hn τ y0_ hP
    refine TT.steps (cd := cd241) 4 (c' := (26, [(2, 0), (0, ((n : Nat) : Int)), y0_], [(0, (τ 36 0)), (0, ((n : Nat) : Int))], τ)) rfl rfl ?_
    refine TT.top0 (z := ((np : Nat) : Int)) (hP.2.1.1.trans h36) ?_
    refine TT.steps (cd := cd241) 1 (c' := ((if decide (((np : Nat) : Int) ≤ ((n : Nat) : Int)) = true then 112 else 27), [(2, 0), (0, ((n : Nat) : Int)), y0_], [], τ)) rfl rfl ?_
    refine TT.br (p := ((np : Nat) : Int) ≤ ((n : Nat) : Int)) (fun h1 => absurd h1 (show ¬ (((np : Nat) : Int) ≤ ((n : Nat) : Int)) by omega)) (fun h1 => ?_)
    refine TT.steps (cd := cd241) 4 (c' := (31, [(2, 0), (0, ((n : Nat) : Int)), y0_], [(0, (aMul 6 ((n : Nat) : Int))), (0, 2)], τ)) rfl rfl ?_
    refine TT.top0 (z := ((6 * n : Nat) : Int)) (aMul_n (a := 6) (b := n) (by omega)) ?_
    refine TT.steps (cd := cd241) 1 (c' := (32, [(2, 0), (0, ((n : Nat) : Int)), y0_], [(0, (aAdd 2 ((6 * n : Nat) : Int)))], τ)) rfl rfl ?_
    refine TT.top0 (z := ((2 + (6 * n) : Nat) : Int)) (aAdd_n (a := 2) (b := 6 * n) (by omega)) ?_
    refine TT.steps (cd := cd241) 9 (c' := (41, [(2, 0), (0, ((n : Nat) : Int)), (0, ((2 + (6 * n) : Nat) : Int))], [(0, ((2 + (6 * n) : Nat) : Int)), (2, 2), (0, ((n : Nat) : Int)), (2, 37)], τ)) rfl rfl ?_
    refine TT.aldN (cd := cd241) (2) (2 + (6 * n)) rfl rfl rfl rfl (show 2 + (6 * n) < 1600 by omega) ?_
    refine TT.top0 (z := (ρ 296 (2 + (6 * n)))) ((hP.1 _ _ (by decide)).trans (hT _ (by omega))) ?_
    refine TT.astN (cd := cd241) (37) (n) rfl rfl rfl rfl (show n < 10 by omega) ?_
    refine TT.steps (cd := cd241) 10 (c' := (53, [(2, 0), (0, ((n : Nat) : Int)), (0, ((2 + (6 * n) : Nat) : Int))], [(0, (aAdd ((2 + (6 * n) : Nat) : Int) 1)), (2, 2), (0, ((n : Nat) : Int)), (2, 38)], (up2 τ 37 n (ρ 296 (2 + (6 * n)))))) rfl rfl ?_
    refine TT.top0 (z := (((2 + (6 * n)) + 1 : Nat) : Int)) (aAdd_n (a := 2 + (6 * n)) (b := 1) (by omega)) ?_
    refine TT.aldN (cd := cd241) (2) ((2 + (6 * n)) + 1) rfl rfl rfl rfl (show (2 + (6 * n)) + 1 < 1600 by omega) ?_
    refine TT.top0 (z := (ρ 296 ((2 + (6 * n)) + 1))) ((up2_far (k := 37) (k' := 2) _ _ _ _ (by decide)).trans ((hP.1 _ _ (by decide)).trans (hT _ (by omega)))) ?_
    refine TT.steps (cd := cd241) 2 (c' := (56, [(2, 0), (0, ((n : Nat) : Int)), (0, ((2 + (6 * n) : Nat) : Int))], [(0, (aSub (ρ 296 ((2 + (6 * n)) + 1)) 1)), (0, ((n : Nat) : Int)), (2, 38)], (up2 τ 37 n (ρ 296 (2 + (6 * n)))))) rfl rfl ?_
    refine TT.astN (cd := cd241) (38) (n) rfl rfl rfl rfl (show n < 10 by omega) ?_
    refine TT.steps (cd := cd241) 10 (c' := (67, [(2, 0), (0, ((n : Nat) : Int)), (0, ((2 + (6 * n) : Nat) : Int))], [(0, (aAdd ((2 + (6 * n) : Nat) : Int) 2)), (2, 2), (0, ((n : Nat) : Int)), (2, 39)], (up2 (up2 τ 37 n (ρ 296 (2 + (6 * n)))) 38 n (aSub (ρ 296 ((2 + (6 * n)) + 1)) 1)))) rfl rfl ?_
    refine TT.top0 (z := (((2 + (6 * n)) + 2 : Nat) : Int)) (aAdd_n (a := 2 + (6 * n)) (b := 2) (by omega)) ?_
    refine TT.aldN (cd := cd241) (2) ((2 + (6 * n)) + 2) rfl rfl rfl rfl (show (2 + (6 * n)) + 2 < 1600 by omega) ?_
    refine TT.top0 (z := (ρ 296 ((2 + (6 * n)) + 2))) (((up2_far (k := 38) (k' := 2) _ _ _ _ (by decide)).trans (up2_far (k := 37) (k' := 2) _ _ _ _ (by decide))).trans ((hP.1 _ _ (by decide)).trans (hT _ (by omega)))) ?_
    refine TT.steps (cd := cd241) 2 (c' := (70, [(2, 0), (0, ((n : Nat) : Int)), (0, ((2 + (6 * n) : Nat) : Int))], [(0, (aSub (ρ 296 ((2 + (6 * n)) + 2)) 1)), (0, ((n : Nat) : Int)), (2, 39)], (up2 (up2 τ 37 n (ρ 296 (2 + (6 * n)))) 38 n (aSub (ρ 296 ((2 + (6 * n)) + 1)) 1)))) rfl rfl ?_
    refine TT.astN (cd := cd241) (39) (n) rfl rfl rfl rfl (show n < 10 by omega) ?_
    refine TT.steps (cd := cd241) 10 (c' := (81, [(2, 0), (0, ((n : Nat) : Int)), (0, ((2 + (6 * n) : Nat) : Int))], [(0, (aAdd ((2 + (6 * n) : Nat) : Int) 3)), (2, 2), (0, ((n : Nat) : Int)), (2, 40)], (up2 (up2 (up2 τ 37 n (ρ 296 (2 + (6 * n)))) 38 n (aSub (ρ 296 ((2 + (6 * n)) + 1)) 1)) 39 n (aSub (ρ 296 ((2 + (6 * n)) + 2)) 1)))) rfl rfl ?_
    refine TT.top0 (z := (((2 + (6 * n)) + 3 : Nat) : Int)) (aAdd_n (a := 2 + (6 * n)) (b := 3) (by omega)) ?_
    refine TT.aldN (cd := cd241) (2) ((2 + (6 * n)) + 3) rfl rfl rfl rfl (show (2 + (6 * n)) + 3 < 1600 by omega) ?_
    refine TT.top0 (z := (ρ 296 ((2 + (6 * n)) + 3))) ((((up2_far (k := 39) (k' := 2) _ _ _ _ (by decide)).trans (up2_far (k := 38) (k' := 2) _ _ _ _ (by decide))).trans (up2_far (k := 37) (k' := 2) _ _ _ _ (by decide))).trans ((hP.1 _ _ (by decide)).trans (hT _ (by omega)))) ?_
    refine TT.astN (cd := cd241) (40) (n) rfl rfl rfl rfl (show n < 10 by omega) ?_
    refine TT.steps (cd := cd241) 10 (c' := (93, [(2, 0), (0, ((n : Nat) : Int)), (0, ((2 + (6 * n) : Nat) : Int))], [(0, (aAdd ((2 + (6 * n) : Nat) : Int) 4)), (2, 2), (0, ((n : Nat) : Int)), (2, 41)], (up2 (up2 (up2 (up2 τ 37 n (ρ 296 (2 + (6 * n)))) 38 n (aSub (ρ 296 ((2 + (6 * n)) + 1)) 1)) 39 n (aSub (ρ 296 ((2 + (6 * n)) + 2)) 1)) 40 n (ρ 296 ((2 + (6 * n)) + 3))))) rfl rfl ?_
    refine TT.top0 (z := (((2 + (6 * n)) + 4 : Nat) : Int)) (aAdd_n (a := 2 + (6 * n)) (b := 4) (by omega)) ?_
    refine TT.aldN (cd := cd241) (2) ((2 + (6 * n)) + 4) rfl rfl rfl rfl (show (2 + (6 * n)) + 4 < 1600 by omega) ?_
    refine TT.top0 (z := (ρ 296 ((2 + (6 * n)) + 4))) (((((up2_far (k := 40) (k' := 2) _ _ _ _ (by decide)).trans (up2_far (k := 39) (k' := 2) _ _ _ _ (by decide))).trans (up2_far (k := 38) (k' := 2) _ _ _ _ (by decide))).trans (up2_far (k := 37) (k' := 2) _ _ _ _ (by decide))).trans ((hP.1 _ _ (by decide)).trans (hT _ (by omega)))) ?_
    refine TT.astN (cd := cd241) (41) (n) rfl rfl rfl rfl (show n < 10 by omega) ?_
    refine TT.steps (cd := cd241) 4 (c' := (99, [(2, 0), (0, ((n : Nat) : Int)), (0, ((2 + (6 * n) : Nat) : Int))], [(0, ((up2 (up2 (up2 (up2 (up2 τ 37 n (ρ 296 (2 + (6 * n)))) 38 n (aSub (ρ 296 ((2 + (6 * n)) + 1)) 1)) 39 n (aSub (ρ 296 ((2 + (6 * n)) + 2)) 1)) 40 n (ρ 296 ((2 + (6 * n)) + 3))) 41 n (ρ 296 ((2 + (6 * n)) + 4))) 36 2)), (2, 36)], (up2 (up2 (up2 (up2 (up2 τ 37 n (ρ 296 (2 + (6 * n)))) 38 n (aSub (ρ 296 ((2 + (6 * n)) + 1)) 1)) 39 n (aSub (ρ 296 ((2 + (6 * n)) + 2)) 1)) 40 n (ρ 296 ((2 + (6 * n)) + 3))) 41 n (ρ 296 ((2 + (6 * n)) + 4))))) rfl rfl ?_
    refine TT.top0 (z := ((bs (fun q => decide (ρ 296 (2 + (6 * q) + 5) = 1)) n : Nat) : Int)) ((((((up2_far (k := 41) (k' := 36) _ _ _ _ (by decide)).trans (up2_far (k := 40) (k' := 36) _ _ _ _ (by decide))).trans (up2_far (k := 39) (k' := 36) _ _ _ _ (by decide))).trans (up2_far (k := 38) (k' := 36) _ _ _ _ (by decide))).trans (up2_far (k := 37) (k' := 36) _ _ _ _ (by decide))).trans hP.2.1.2.2) ?_
    refine TT.steps (cd := cd241) 6 (c' := (105, [(2, 0), (0, ((n : Nat) : Int)), (0, ((2 + (6 * n) : Nat) : Int))], [(0, (aAdd ((2 + (6 * n) : Nat) : Int) 5)), (2, 2), (0, ((bs (fun q => decide (ρ 296 (2 + (6 * q) + 5) = 1)) n : Nat) : Int)), (2, 36)], (up2 (up2 (up2 (up2 (up2 τ 37 n (ρ 296 (2 + (6 * n)))) 38 n (aSub (ρ 296 ((2 + (6 * n)) + 1)) 1)) 39 n (aSub (ρ 296 ((2 + (6 * n)) + 2)) 1)) 40 n (ρ 296 ((2 + (6 * n)) + 3))) 41 n (ρ 296 ((2 + (6 * n)) + 4))))) rfl rfl ?_
    refine TT.top0 (z := (((2 + (6 * n)) + 5 : Nat) : Int)) (aAdd_n (a := 2 + (6 * n)) (b := 5) (by omega)) ?_
    refine TT.aldN (cd := cd241) (2) ((2 + (6 * n)) + 5) rfl rfl rfl rfl (show (2 + (6 * n)) + 5 < 1600 by omega) ?_
    refine TT.top0 (z := (ρ 296 ((2 + (6 * n)) + 5))) ((((((up2_far (k := 41) (k' := 2) _ _ _ _ (by decide)).trans (up2_far (k := 40) (k' := 2) _ _ _ _ (by decide))).trans (up2_far (k := 39) (k' := 2) _ _ _ _ (by decide))).trans (up2_far (k := 38) (k' := 2) _ _ _ _ (by decide))).trans (up2_far (k := 37) (k' := 2) _ _ _ _ (by decide))).trans ((hP.1 _ _ (by decide)).trans (hT _ (by omega)))) ?_
    refine TT.steps (cd := cd241) 3 (c' := (109, [(2, 0), (0, ((n : Nat) : Int)), (0, ((2 + (6 * n) : Nat) : Int))], [(0, (aOr ((bs (fun q => decide (ρ 296 (2 + (6 * q) + 5) = 1)) n : Nat) : Int) (aShl (ρ 296 ((2 + (6 * n)) + 5)) ((n : Nat) : Int)))), (2, 36)], (up2 (up2 (up2 (up2 (up2 τ 37 n (ρ 296 (2 + (6 * n)))) 38 n (aSub (ρ 296 ((2 + (6 * n)) + 1)) 1)) 39 n (aSub (ρ 296 ((2 + (6 * n)) + 2)) 1)) 40 n (ρ 296 ((2 + (6 * n)) + 3))) 41 n (ρ 296 ((2 + (6 * n)) + 4))))) rfl rfl ?_
    refine TT.top0 (z := (aOr ((bs (fun q => decide (ρ 296 (2 + (6 * q) + 5) = 1)) n : Nat) : Int) (aShl (ρ 296 ((2 + (6 * n)) + 5)) ((n : Nat) : Int)))) rfl ?_
    refine TT.steps (cd := cd241) 1 (c' := (110, [(2, 0), (0, ((n : Nat) : Int)), (0, ((2 + (6 * n) : Nat) : Int))], [], (up2 (up2 (up2 (up2 (up2 (up2 τ 37 n (ρ 296 (2 + (6 * n)))) 38 n (aSub (ρ 296 ((2 + (6 * n)) + 1)) 1)) 39 n (aSub (ρ 296 ((2 + (6 * n)) + 2)) 1)) 40 n (ρ 296 ((2 + (6 * n)) + 3))) 41 n (ρ 296 ((2 + (6 * n)) + 4))) 36 2 (aOr ((bs (fun q => decide (ρ 296 (2 + (6 * q) + 5) = 1)) n : Nat) : Int) (aShl (ρ 296 ((2 + (6 * n)) + 5)) ((n : Nat) : Int)))))) rfl rfl ?_
    refine TT.inc (cd := cd241) ((n + 1 : Nat) : Int) rfl rfl rfl rfl (fun h => absurd h.2 (show ¬ (2 = 1) by decide)) (aAdd_n (a := n) (b := 1) (by omega)) (ls' := [(2, 0), (0, ((n + 1 : Nat) : Int)), (0, ((2 + (6 * n) : Nat) : Int))]) rfl ?_
    refine TT.steps (cd := cd241) 1 (c' := (22, [(2, 0), (0, ((n + 1 : Nat) : Int)), (0, ((2 + (6 * n) : Nat) : Int))], [], (up2 (up2 (up2 (up2 (up2 (up2 τ 37 n (ρ 296 (2 + (6 * n)))) 38 n (aSub (ρ 296 ((2 + (6 * n)) + 1)) 1)) 39 n (aSub (ρ 296 ((2 + (6 * n)) + 2)) 1)) 40 n (ρ 296 ((2 + (6 * n)) + 3))) 41 n (ρ 296 ((2 + (6 * n)) + 4))) 36 2 (aOr ((bs (fun q => decide (ρ 296 (2 + (6 * q) + 5) = 1)) n : Nat) : Int) (aShl (ρ 296 ((2 + (6 * n)) + 5)) ((n : Nat) : Int)))))) rfl rfl ?_
    have e1 : ((n + 1 : Nat) : Int) = (((n + 1) : Nat) : Int) := by omega
    rw [e1]
    clear e1
    exact ih (n + 1) (by omega) _ _ (TK_s hP (by omega) (h5 n (by omega)))
theorem v_take (X : AX) {l : Nat} {σ ρ : AH} {b np nt ns : Nat} {L : Nat → Nat} {C : Nat → Nat → Nat} {w tp u tl oc : Nat} (h : IV σ ρ l b np nt ns L C w tp u tl oc) (htl : tl = 3 + 6 * np) (yA yB : Nat) (yeA : yA ≤ 255) (yeB : yB ≤ 255) (e0 : ρ 296 0 = (yA : Int)) (e1 : ρ 296 1 = (yB : Int)) (h5 : ∀ p, p < np → ρ 296 (2 + (6 * p) + 5) = 0 ∨ ρ 296 (2 + (6 * p) + 5) = 1)  : TT X 241 (0, [(2, 0), (9, 0), (9, 0)], [], σ) (fun r σ' => r = none ∧ TK σ σ' (ρ 296) ((256 * yA + yB : Nat) : Int) np) := by
  obtain ⟨⟨hl, h05, h33⟩, hL, hN, hPT, hF, hA, hTp, hO, hM, hH⟩ := id h
  obtain ⟨⟨a1, a2, a3, a4⟩, ⟨b1, b2, b3, b4, b5⟩, ⟨c1, c2, c3, c4, c5⟩, hTr, hCa, hAf, hPr, hDi⟩ := id hL
  obtain ⟨hPb, ⟨y1, y2, y3⟩, hhi, hPp⟩ := id hPT
  obtain ⟨t1, t2, t3, t4⟩ := id hTp
  refine TT.steps (cd := cd241) 6 (c' := (6, [(2, 0), (9, 0), (9, 0)], [(0, 0), (2, 2), (2, 36)], σ)) rfl rfl ?_
  refine TT.aldN (cd := cd241) (2) (0) rfl rfl rfl rfl (show 0 < 1600 by omega) ?_
  refine TT.top0 (z := ((yA : Nat) : Int)) ((t4 0 (by omega)).1.trans e0) ?_
  refine TT.steps (cd := cd241) 2 (c' := (9, [(2, 0), (9, 0), (9, 0)], [(0, (aMul ((yA : Nat) : Int) 256)), (2, 36)], σ)) rfl rfl ?_
  refine TT.top0 (z := (aMul ((yA : Nat) : Int) 256)) rfl ?_
  refine TT.steps (cd := cd241) 4 (c' := (13, [(2, 0), (9, 0), (9, 0)], [(0, 1), (2, 2), (0, (aMul ((yA : Nat) : Int) 256)), (2, 36)], σ)) rfl rfl ?_
  refine TT.aldN (cd := cd241) (2) (1) rfl rfl rfl rfl (show 1 < 1600 by omega) ?_
  refine TT.top0 (z := ((yB : Nat) : Int)) ((t4 1 (by omega)).1.trans e1) ?_
  refine TT.steps (cd := cd241) 1 (c' := (15, [(2, 0), (9, 0), (9, 0)], [(0, (aAdd (aMul ((yA : Nat) : Int) 256) ((yB : Nat) : Int))), (2, 36)], σ)) rfl rfl ?_
  refine TT.top0 (z := ((256 * yA + yB : Nat) : Int)) (yr_eq yeA yeB).2 ?_
  refine TT.steps (cd := cd241) 7 (c' := (22, [(2, 0), (0, 0), (9, 0)], [], (up2 (up2 σ 36 1 ((256 * yA + yB : Nat) : Int)) 36 2 0))) rfl rfl ?_
  refine vl_take X _ c1 hPb.1 (fun j hj => (t4 j (by omega)).1) h5 (fun τ y0_ hK => ?_) np 0 (by omega) _ _ (⟨fun K j hK => by rw [up2_nq _ (by omega), up2_nq _ (by omega)], ⟨by rw [up2_nq _ (by omega), up2_nq _ (by omega)], by rw [up2_nq _ (by omega), up2_hit], by rw [up2_hit]; rfl⟩, fun q hq => by omega⟩)
  exact TT.ret (cd := cd241) rfl rfl rfl rfl (⟨rfl, hK⟩)
theorem v_startAnew (X : AX) (σ : AH)  : TT X 228 (0, [(2, 0)], [], σ) (fun r σ' => r = none ∧ σ' = up2 (up2 σ 48 0 0) 289 0 0) := by
  refine TT.steps (cd := cd228) 8 (c' := (8, [(2, 0)], [], (up2 (up2 σ 48 0 0) 289 0 0))) rfl rfl ?_
  exact TT.ret (cd := cd228) rfl rfl rfl rfl (⟨rfl, rfl⟩)

theorem K_on0a (X : AX) {l : Nat} {σ ρ : AH} {b np nt ns : Nat} {L : Nat → Nat} {C : Nat → Nat → Nat} {w tp u tl oc : Nat} (h : IV σ ρ l b np nt ns L C w tp u tl oc) (htl : ¬ tl = 3 + 6 * np)  : TT X 217 (0, [(2, 0), (9, 0)], [], σ) (fun r σ' => r = some (0, 0) ∧ EX σ' (up2 (up2 ρ 295 1 0) 315 5 (aAdd (ρ 315 5) 1)) ∧ (∀ K j, (295 ≤ K ∨ K = 30 ∨ K = 192) → σ' K j = σ K j)) := by
  obtain ⟨⟨hl, h05, h33⟩, hL, hN, hPT, hF, hA, hTp, hO, hM, hH⟩ := id h
  obtain ⟨⟨a1, a2, a3, a4⟩, ⟨b1, b2, b3, b4, b5⟩, ⟨c1, c2, c3, c4, c5⟩, hTr, hCa, hAf, hPr, hDi⟩ := id hL
  obtain ⟨hPb, ⟨y1, y2, y3⟩, hhi, hPp⟩ := id hPT
  refine TT.steps (cd := cd217) 1 (c' := (1, [(2, 0), (9, 0)], [(2, 0)], σ)) rfl rfl ?_
  refine TT.call (cd := cd217) rfl rfl rfl (by decide) rfl ((v_isImage0 X h htl)) (fun r1 σ1 hq => ?_)
  rw [hq.1, hq.2]
  refine TT.steps (cd := cd217) 11 (c' := (17, [(2, 0), (0, 0)], [(0, 5), (2, 0)], (up2 σ 1 1 0))) rfl rfl ?_
  refine TT.call (cd := cd217) rfl rfl rfl (by decide) rfl (w_deny X 5 (by decide) (up2 σ 1 1 0)) (fun r2 σ2 hq => ?_)
  rw [hq.1, hq.2]
  refine TT.steps (cd := cd217) 2 (c' := (22, [(2, 0), (0, 0)], [(0, 0)], (up2 (up2 σ 1 1 0) 293 5 (aAdd ((up2 σ 1 1 0) 293 5) 1)))) rfl rfl ?_
  exact TT.ret (cd := cd217) rfl rfl rfl rfl (⟨rfl, ⟨_, _, _, _, _, _, _, _, _, _, _, _, (by have hh := IV_ref (IV_end h 0 (by omega)) 5 (by decide); rw [show (up2 ρ 295 1 ((0 : Nat) : Int)) 315 5 = ρ 315 5 from up2_far _ _ _ _ (by decide)] at hh; exact hh)⟩, fun K j hK => by rw [up2_far _ _ _ _ (by omega), up2_far _ _ _ _ (by omega)]⟩)
theorem K_on0b (X : AX) {l : Nat} {σ ρ : AH} {b np nt ns : Nat} {L : Nat → Nat} {C : Nat → Nat → Nat} {w tp u tl oc : Nat} (h : IV σ ρ l b np nt ns L C w tp u tl oc) (htl : tl = 3 + 6 * np) (hi : ¬ mImgC ρ b np ns tl)  : TT X 217 (0, [(2, 0), (9, 0)], [], σ) (fun r σ' => r = some (0, 0) ∧ EX σ' (up2 (up2 ρ 295 1 0) 315 5 (aAdd (ρ 315 5) 1)) ∧ (∀ K j, (295 ≤ K ∨ K = 30 ∨ K = 192) → σ' K j = σ K j)) := by
  obtain ⟨⟨hl, h05, h33⟩, hL, hN, hPT, hF, hA, hTp, hO, hM, hH⟩ := id h
  obtain ⟨⟨a1, a2, a3, a4⟩, ⟨b1, b2, b3, b4, b5⟩, ⟨c1, c2, c3, c4, c5⟩, hTr, hCa, hAf, hPr, hDi⟩ := id hL
  obtain ⟨hPb, ⟨y1, y2, y3⟩, hhi, hPp⟩ := id hPT
  refine TT.steps (cd := cd217) 1 (c' := (1, [(2, 0), (9, 0)], [(2, 0)], σ)) rfl rfl ?_
  refine TT.call (cd := cd217) rfl rfl rfl (by decide) rfl (v_isImage1 X h htl) (fun r1 σ1 hq => ?_)
  rw [hq.1, hq.2, if_neg hi]
  refine TT.steps (cd := cd217) 11 (c' := (17, [(2, 0), (0, 0)], [(0, 5), (2, 0)], (up2 σ 1 1 0))) rfl rfl ?_
  refine TT.call (cd := cd217) rfl rfl rfl (by decide) rfl (w_deny X 5 (by decide) (up2 σ 1 1 0)) (fun r2 σ2 hq => ?_)
  rw [hq.1, hq.2]
  refine TT.steps (cd := cd217) 2 (c' := (22, [(2, 0), (0, 0)], [(0, 0)], (up2 (up2 σ 1 1 0) 293 5 (aAdd ((up2 σ 1 1 0) 293 5) 1)))) rfl rfl ?_
  exact TT.ret (cd := cd217) rfl rfl rfl rfl (⟨rfl, ⟨_, _, _, _, _, _, _, _, _, _, _, _, (by have hh := IV_ref (IV_end h 0 (by omega)) 5 (by decide); rw [show (up2 ρ 295 1 ((0 : Nat) : Int)) 315 5 = ρ 315 5 from up2_far _ _ _ _ (by decide)] at hh; exact hh)⟩, fun K j hK => by rw [up2_far _ _ _ _ (by omega), up2_far _ _ _ _ (by omega)]⟩)
theorem K_on1 (X : AX) {l : Nat} {σ ρ : AH} {b np nt ns : Nat} {L : Nat → Nat} {C : Nat → Nat → Nat} {w tp u tl oc : Nat} (h : IV σ ρ l b np nt ns L C w tp u tl oc) (htl : tl = 3 + 6 * np) (hi : mImgC ρ b np ns tl)  : TT X 217 (0, [(2, 0), (9, 0)], [], σ) (fun r σ' => r = some (0, 1) ∧ EX σ' (up2 (mOnP (up2 (up2 ρ 295 1 0) 316 0 (aOr (aShl (ρ 296 0) 8) (ρ 296 1))) np) 295 42 0) ∧ (∀ K j, (295 ≤ K ∨ K = 30 ∨ K = 192) → σ' K j = σ K j)) := by
  obtain ⟨⟨hl, h05, h33⟩, hL, hN, hPT, hF, hA, hTp, hO, hM, hH⟩ := id h
  obtain ⟨⟨a1, a2, a3, a4⟩, ⟨b1, b2, b3, b4, b5⟩, ⟨c1, c2, c3, c4, c5⟩, hTr, hCa, hAf, hPr, hDi⟩ := id hL
  obtain ⟨hPb, ⟨y1, y2, y3⟩, hhi, hPp⟩ := id hPT
  obtain ⟨t1, t2, t3, t4⟩ := id hTp
  obtain ⟨yA, e0⟩ : ∃ yA : Nat, ρ 296 0 = (yA : Int) := ⟨(ρ 296 0).toNat, by have := (t4 0 (by omega)).2; omega⟩
  obtain ⟨yB, e1⟩ : ∃ yB : Nat, ρ 296 1 = (yB : Int) := ⟨(ρ 296 1).toNat, by have := (t4 1 (by omega)).2; omega⟩
  have yeA : yA ≤ 255 := by have := (t4 0 (by omega)).2; omega
  have yeB : yB ≤ 255 := by have := (t4 1 (by omega)).2; omega
  have hall : ∀ p, p < np → mPOn ρ b ns p := fun p hp => Decidable.not_not.mp (fun hn => by have h9 := anyN_t (f := fun p => decide (¬ mPOn ρ b ns p)) hp (decide_eq_true hn); rw [hi.2.2.2] at h9; cases h9)
  have h5 : ∀ p, p < np → ρ 296 (2 + (6 * p) + 5) = 0 ∨ ρ 296 (2 + (6 * p) + 5) = 1 := fun p hp => by
    have g1 := (hall p hp).2.2.2.2.2.2
    have g2 := (t4 (2 + (6 * p) + 5) (by omega)).2
    omega
  have hy : ((256 * yA + yB : Nat) : Int) ≤ 9999 := by have h9 := hi.2.1; rw [e0, e1, (yr_eq yeA yeB).1] at h9; exact h9
  refine TT.steps (cd := cd217) 1 (c' := (1, [(2, 0), (9, 0)], [(2, 0)], σ)) rfl rfl ?_
  refine TT.call (cd := cd217) rfl rfl rfl (by decide) rfl (v_isImage1 X h htl) (fun r1 σ1 hq => ?_)
  rw [hq.1, hq.2, if_pos hi]
  refine TT.steps (cd := cd217) 4 (c' := (6, [(2, 0), (0, 1)], [(2, 0)], σ)) rfl rfl ?_
  refine TT.call (cd := cd217) rfl rfl rfl (by decide) rfl (v_take X h htl yA yB yeA yeB e0 e1 h5) (fun r2 σ2 hq => ?_)
  obtain ⟨rfl, hK⟩ := hq
  refine TT.steps (cd := cd217) 1 (c' := (8, [(2, 0), (0, 1)], [(2, 0)], σ2)) rfl rfl ?_
  refine TT.call (cd := cd217) rfl rfl rfl (by decide) rfl (v_startAnew X σ2) (fun r3 σ3 hq => ?_)
  rw [hq.1, hq.2]
  refine TT.steps (cd := cd217) 8 (c' := (22, [(2, 0), (0, 1)], [(0, 1)], (up2 (up2 (up2 σ2 48 0 0) 289 0 0) 1 1 0))) rfl rfl ?_
  exact TT.ret (cd := cd217) rfl rfl rfl rfl (⟨rfl, ⟨_, _, _, _, _, _, _, _, _, _, _, _, on_end h htl (by omega) (by rw [e0, e1, (yr_eq yeA yeB).1]) hall hK⟩, fun K j hK2 => by rw [up2_far _ _ _ _ (by omega), up2_far _ _ _ _ (by omega), up2_far _ _ _ _ (by omega)]; exact hK.1 K j (by omega)⟩)
