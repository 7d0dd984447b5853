/-! on of the class. -/
theorem ul_ck_2 (X : AX) (Q : Option AV → AH → Prop) (m : Nat) (hm : m ≤ 63) (σ : AH)  (kk : TT X 238 (23, [(2, 2), (0, ((m : Nat) : Int)), (0, (sumI (σ 2) m)), (0, ((m : Nat) : Int))], [], σ) Q) : ∀ (d n : Nat), n + d = m → TT X 238 (4, [(2, 2), (0, ((m : Nat) : Int)), (0, (sumI (σ 2) n)), (0, ((n : Nat) : Int))], [], σ) Q := by
  intro d
  induction d with
  | zero =>
    intro n hn
    have hnn : n = m := by omega
    rw [hnn]
    refine TT.steps (cd := cd238) 3 (c' := ((if decide (((m : Nat) : Int) ≤ ((m : Nat) : Int)) = true then 23 else 7), [(2, 2), (0, ((m : Nat) : Int)), (0, (sumI (σ 2) m)), (0, ((m : Nat) : Int))], [], σ)) rfl rfl ?_
    refine TT.br (p := ((m : Nat) : Int) ≤ ((m : Nat) : Int)) (fun h1 => ?_) (fun h1 => absurd (show ((m : Nat) : Int) ≤ ((m : Nat) : Int) by omega) h1)
    exact kk
  | succ d ih =>
    intro n hn
    refine TT.steps (cd := cd238) 3 (c' := ((if decide (((m : Nat) : Int) ≤ ((n : Nat) : Int)) = true then 23 else 7), [(2, 2), (0, ((m : Nat) : Int)), (0, (sumI (σ 2) n)), (0, ((n : Nat) : Int))], [], σ)) rfl rfl ?_
    refine TT.br (p := ((m : Nat) : Int) ≤ ((n : Nat) : Int)) (fun h1 => absurd h1 (show ¬ (((m : Nat) : Int) ≤ ((n : Nat) : Int)) by omega)) (fun h1 => ?_)
    refine TT.steps (cd := cd238) 4 (c' := ((if decide (1600 ≤ ((n : Nat) : Int)) = true then 23 else 11), [(2, 2), (0, ((m : Nat) : Int)), (0, (sumI (σ 2) n)), (0, ((n : Nat) : Int))], [], σ)) rfl rfl ?_
    refine TT.br (p := 1600 ≤ ((n : Nat) : Int)) (fun h2 => absurd h2 (show ¬ (1600 ≤ ((n : Nat) : Int)) by omega)) (fun h2 => ?_)
    refine TT.steps (cd := cd238) 3 (c' := (14, [(2, 2), (0, ((m : Nat) : Int)), (0, (sumI (σ 2) n)), (0, ((n : Nat) : Int))], [(0, (aMul 5 (sumI (σ 2) n)))], σ)) rfl rfl ?_
    refine TT.steps (cd := cd238) 2 (c' := (16, [(2, 2), (0, ((m : Nat) : Int)), (0, (sumI (σ 2) n)), (0, ((n : Nat) : Int))], [(0, ((n : Nat) : Int)), (2, 2), (0, (aMul 5 (sumI (σ 2) n)))], σ)) rfl rfl ?_
    refine TT.aldN (cd := cd238) (2) (n) rfl rfl rfl rfl (show n < 1600 by omega) ?_
    refine TT.top0 (z := (σ 2 n)) rfl ?_
    refine TT.steps (cd := cd238) 1 (c' := (18, [(2, 2), (0, ((m : Nat) : Int)), (0, (sumI (σ 2) n)), (0, ((n : Nat) : Int))], [(0, (aAdd (aMul 5 (sumI (σ 2) n)) (σ 2 n)))], σ)) rfl rfl ?_
    refine TT.steps (cd := cd238) 3 (c' := (21, [(2, 2), (0, ((m : Nat) : Int)), (0, (aRem (aAdd (aMul 5 (sumI (σ 2) n)) (σ 2 n)) 249)), (0, ((n : Nat) : Int))], [], σ)) rfl rfl ?_
    refine TT.inc (cd := cd238) ((n + 1 : Nat) : Int) rfl rfl rfl rfl (fun h => absurd h.2 (show ¬ (0 = 1) by decide)) (aAdd_n (a := n) (b := 1) (by omega)) (ls' := [(2, 2), (0, ((m : Nat) : Int)), (0, (aRem (aAdd (aMul 5 (sumI (σ 2) n)) (σ 2 n)) 249)), (0, ((n + 1 : Nat) : Int))]) rfl ?_
    refine TT.steps (cd := cd238) 1 (c' := (4, [(2, 2), (0, ((m : Nat) : Int)), (0, (aRem (aAdd (aMul 5 (sumI (σ 2) n)) (σ 2 n)) 249)), (0, ((n + 1 : Nat) : Int))], [], σ)) rfl rfl ?_
    have e2 : (aRem (aAdd (aMul 5 (sumI (σ 2) n)) (σ 2 n)) 249) = (sumI (σ 2) (n + 1)) := by rw [sumI]
    rw [e2]
    clear e2
    have e3 : ((n + 1 : Nat) : Int) = (((n + 1) : Nat) : Int) := by omega
    rw [e3]
    clear e3
    exact ih (n + 1) (by omega)
theorem u_checksum_2 (X : AX) (m : Nat) (hm : m ≤ 63) (σ : AH)  : TT X 238 (0, [(2, 2), (0, ((m : Nat) : Int)), (9, 0), (9, 0)], [], σ) (fun r σ' => r = some (0, (sumI (σ 2) m)) ∧ σ' = σ) := by
  refine TT.steps (cd := cd238) 4 (c' := (4, [(2, 2), (0, ((m : Nat) : Int)), (0, 67), (0, 0)], [], σ)) rfl rfl ?_
  refine ul_ck_2 X _ m hm σ ?_ m 0 (by omega)
  refine TT.steps (cd := cd238) 1 (c' := (24, [(2, 2), (0, ((m : Nat) : Int)), (0, (sumI (σ 2) m)), (0, ((m : Nat) : Int))], [(0, (sumI (σ 2) m))], σ)) rfl rfl ?_
  exact TT.ret (cd := cd238) rfl rfl rfl rfl (⟨rfl, rfl⟩)
theorem u_isPersonImage_8 (X : AX) {σ ρ : AH} {b np nt ns : Nat} {L : Nat → Nat} {C : Nat → Nat → Nat} {w tp u tl oc : Nat} (h : IV σ ρ 8 b np nt ns L C w tp u tl oc) (p x0 x1 x2 x3 x4 x5 : Nat) (hp : p < np) (hB : B6 (σ 2) x0 x1 x2 x3 x4 x5 (2 + (6 * p)))  : TT X 240 (0, [(2, 0), (0, ((p : Nat) : Int)), (0, ((2 + (6 * p) : Nat) : Int)), (9, 0), (9, 0), (9, 0)], [], σ) (fun r σ' => r = some (0, if pOK x0 x1 x2 x3 x4 x5 ns (ρ 314 (10 * b + p)) then 1 else 0) ∧ σ' = σ) := by
  obtain ⟨⟨hl, h05, h33⟩, hL, hN, hPT, hF, hA, hTp, hO, hM, hH⟩ := id h
  obtain ⟨⟨a1, a2, a3, a4⟩, ⟨b1, b2, b3, b4, b5⟩, ⟨c1, c2, c3, c4, c5⟩, hTr, hCa, hAf, hPr, hDi⟩ := id hL
  obtain ⟨hPb, ⟨y1, y2, y3⟩, hhi, hPp⟩ := id hPT
  obtain ⟨q0, q1, q2, q3, q4, q5⟩ := hB.2
  have hp3 := (hPr p hp).2
  refine TT.steps (cd := cd240) 6 (c' := (6, [(2, 0), (0, ((p : Nat) : Int)), (0, ((2 + (6 * p) : Nat) : Int)), (9, 0), (9, 0), (9, 0)], [(0, (aAdd ((2 + (6 * p) : Nat) : Int) 1)), (2, 2)], σ)) rfl rfl ?_
  refine TT.top0 (z := (((2 + (6 * p)) + 1 : Nat) : Int)) (aAdd_n (a := 2 + (6 * p)) (b := 1) (by omega)) ?_
  refine TT.aldN (cd := cd240) (2) ((2 + (6 * p)) + 1) rfl rfl rfl rfl (show (2 + (6 * p)) + 1 < 1600 by omega) ?_
  refine TT.top0 (z := ((x1 : Nat) : Int)) hB.1.2.1 ?_
  refine TT.steps (cd := cd240) 7 (c' := (14, [(2, 0), (0, ((p : Nat) : Int)), (0, ((2 + (6 * p) : Nat) : Int)), (0, ((x1 : Nat) : Int)), (9, 0), (9, 0)], [(0, (aAdd ((2 + (6 * p) : Nat) : Int) 2)), (2, 2)], σ)) rfl rfl ?_
  refine TT.top0 (z := (((2 + (6 * p)) + 2 : Nat) : Int)) (aAdd_n (a := 2 + (6 * p)) (b := 2) (by omega)) ?_
  refine TT.aldN (cd := cd240) (2) ((2 + (6 * p)) + 2) rfl rfl rfl rfl (show (2 + (6 * p)) + 2 < 1600 by omega) ?_
  refine TT.top0 (z := ((x2 : Nat) : Int)) hB.1.2.2.1 ?_
  refine TT.steps (cd := cd240) 7 (c' := (22, [(2, 0), (0, ((p : Nat) : Int)), (0, ((2 + (6 * p) : Nat) : Int)), (0, ((x1 : Nat) : Int)), (0, ((x2 : Nat) : Int)), (9, 0)], [(0, (aAdd ((2 + (6 * p) : Nat) : Int) 5)), (2, 2)], σ)) rfl rfl ?_
  refine TT.top0 (z := (((2 + (6 * p)) + 5 : Nat) : Int)) (aAdd_n (a := 2 + (6 * p)) (b := 5) (by omega)) ?_
  refine TT.aldN (cd := cd240) (2) ((2 + (6 * p)) + 5) rfl rfl rfl rfl (show (2 + (6 * p)) + 5 < 1600 by omega) ?_
  refine TT.top0 (z := ((x5 : Nat) : Int)) hB.1.2.2.2.2.2 ?_
  refine TT.steps (cd := cd240) 5 (c' := (28, [(2, 0), (0, ((p : Nat) : Int)), (0, ((2 + (6 * p) : Nat) : Int)), (0, ((x1 : Nat) : Int)), (0, ((x2 : Nat) : Int)), (0, ((x5 : Nat) : Int))], [(0, ((2 + (6 * p) : Nat) : Int)), (2, 2)], σ)) rfl rfl ?_
  refine TT.aldN (cd := cd240) (2) (2 + (6 * p)) rfl rfl rfl rfl (show 2 + (6 * p) < 1600 by omega) ?_
  refine TT.top0 (z := ((x0 : Nat) : Int)) hB.1.1 ?_
  refine TT.steps (cd := cd240) 2 (c' := ((if decide (99 < ((x0 : Nat) : Int)) = true then 81 else 31), [(2, 0), (0, ((p : Nat) : Int)), (0, ((2 + (6 * p) : Nat) : Int)), (0, ((x1 : Nat) : Int)), (0, ((x2 : Nat) : Int)), (0, ((x5 : Nat) : Int))], [], σ)) rfl rfl ?_
  refine TT.br (p := 99 < ((x0 : Nat) : Int)) (fun h1 => ?_) (fun h1 => ?_)
  · refine TT.steps (cd := cd240) 1 (c' := (82, [(2, 0), (0, ((p : Nat) : Int)), (0, ((2 + (6 * p) : Nat) : Int)), (0, ((x1 : Nat) : Int)), (0, ((x2 : Nat) : Int)), (0, ((x5 : Nat) : Int))], [(0, 0)], σ)) rfl rfl ?_
    refine TT.ret (cd := cd240) rfl rfl rfl rfl ⟨?_, rfl⟩
    first | rw [if_pos (show pOK x0 x1 x2 x3 x4 x5 ns (ρ 314 (10 * b + p)) by unfold pOK; omega)] | rw [if_neg (show ¬ pOK x0 x1 x2 x3 x4 x5 ns (ρ 314 (10 * b + p)) by unfold pOK; omega)]
  · refine TT.steps (cd := cd240) 4 (c' := (35, [(2, 0), (0, ((p : Nat) : Int)), (0, ((2 + (6 * p) : Nat) : Int)), (0, ((x1 : Nat) : Int)), (0, ((x2 : Nat) : Int)), (0, ((x5 : Nat) : Int))], [(0, (aSub ((x1 : Nat) : Int) 1)), (2, 0)], σ)) rfl rfl ?_
    refine TT.top0 (z := (((x1 : Nat) : Int) - 1)) (aSub_of (by omega) (by omega)) ?_
    refine TT.call (cd := cd240) rfl rfl rfl (by decide) rfl (w_isStation X hl (((x1 : Nat) : Int) - 1) σ h05) (fun r2 σ2 hq => ?_)
    rw [hq.1, hq.2, a1]
    refine TT.steps (cd := cd240) 1 (c' := ((if decide (((if 0 ≤ (((x1 : Nat) : Int) - 1) ∧ (((x1 : Nat) : Int) - 1) < ((ns : Nat) : Int) then 1 else 0) : Int) = 0) = true then 81 else 37), [(2, 0), (0, ((p : Nat) : Int)), (0, ((2 + (6 * p) : Nat) : Int)), (0, ((x1 : Nat) : Int)), (0, ((x2 : Nat) : Int)), (0, ((x5 : Nat) : Int))], [], σ)) rfl rfl ?_
    refine TT.br (p := ((if 0 ≤ (((x1 : Nat) : Int) - 1) ∧ (((x1 : Nat) : Int) - 1) < ((ns : Nat) : Int) then 1 else 0) : Int) = 0) (fun h3 => ?_) (fun h3 => ?_)
    · replace h3 := ite_f h3
      refine TT.steps (cd := cd240) 1 (c' := (82, [(2, 0), (0, ((p : Nat) : Int)), (0, ((2 + (6 * p) : Nat) : Int)), (0, ((x1 : Nat) : Int)), (0, ((x2 : Nat) : Int)), (0, ((x5 : Nat) : Int))], [(0, 0)], σ)) rfl rfl ?_
      refine TT.ret (cd := cd240) rfl rfl rfl rfl ⟨?_, rfl⟩
      first | rw [if_pos (show pOK x0 x1 x2 x3 x4 x5 ns (ρ 314 (10 * b + p)) by unfold pOK; omega)] | rw [if_neg (show ¬ pOK x0 x1 x2 x3 x4 x5 ns (ρ 314 (10 * b + p)) by unfold pOK; omega)]
    · replace h3 := ite_t h3
      refine TT.steps (cd := cd240) 2 (c' := ((if decide (((x2 : Nat) : Int) = 0) = true then 48 else 39), [(2, 0), (0, ((p : Nat) : Int)), (0, ((2 + (6 * p) : Nat) : Int)), (0, ((x1 : Nat) : Int)), (0, ((x2 : Nat) : Int)), (0, ((x5 : Nat) : Int))], [], σ)) rfl rfl ?_
      refine TT.br (p := ((x2 : Nat) : Int) = 0) (fun h4 => ?_) (fun h4 => ?_)
      · refine TT.steps (cd := cd240) 7 (c' := (55, [(2, 0), (0, ((p : Nat) : Int)), (0, ((2 + (6 * p) : Nat) : Int)), (0, ((x1 : Nat) : Int)), (0, ((x2 : Nat) : Int)), (0, ((x5 : Nat) : Int))], [(0, (aAdd ((2 + (6 * p) : Nat) : Int) 3)), (2, 2), (2, 0)], σ)) rfl rfl ?_
        refine TT.top0 (z := (((2 + (6 * p)) + 3 : Nat) : Int)) (aAdd_n (a := 2 + (6 * p)) (b := 3) (by omega)) ?_
        refine TT.aldN (cd := cd240) (2) ((2 + (6 * p)) + 3) rfl rfl rfl rfl (show (2 + (6 * p)) + 3 < 1600 by omega) ?_
        refine TT.top0 (z := ((x3 : Nat) : Int)) hB.1.2.2.2.1 ?_
        refine TT.call (cd := cd240) rfl rfl rfl (by decide) rfl (w_isStation X hl ((x3 : Nat) : Int) σ h05) (fun r5 σ5 hq => ?_)
        rw [hq.1, hq.2, a1]
        refine TT.steps (cd := cd240) 1 (c' := ((if decide (((if 0 ≤ ((x3 : Nat) : Int) ∧ ((x3 : Nat) : Int) < ((ns : Nat) : Int) then 1 else 0) : Int) = 0) = true then 81 else 58), [(2, 0), (0, ((p : Nat) : Int)), (0, ((2 + (6 * p) : Nat) : Int)), (0, ((x1 : Nat) : Int)), (0, ((x2 : Nat) : Int)), (0, ((x5 : Nat) : Int))], [], σ)) rfl rfl ?_
        refine TT.br (p := ((if 0 ≤ ((x3 : Nat) : Int) ∧ ((x3 : Nat) : Int) < ((ns : Nat) : Int) then 1 else 0) : Int) = 0) (fun h6 => ?_) (fun h6 => ?_)
        · replace h6 := ite_f h6
          refine TT.steps (cd := cd240) 1 (c' := (82, [(2, 0), (0, ((p : Nat) : Int)), (0, ((2 + (6 * p) : Nat) : Int)), (0, ((x1 : Nat) : Int)), (0, ((x2 : Nat) : Int)), (0, ((x5 : Nat) : Int))], [(0, 0)], σ)) rfl rfl ?_
          refine TT.ret (cd := cd240) rfl rfl rfl rfl ⟨?_, rfl⟩
          first | rw [if_pos (show pOK x0 x1 x2 x3 x4 x5 ns (ρ 314 (10 * b + p)) by unfold pOK; omega)] | rw [if_neg (show ¬ pOK x0 x1 x2 x3 x4 x5 ns (ρ 314 (10 * b + p)) by unfold pOK; omega)]
        · replace h6 := ite_t h6
          refine TT.steps (cd := cd240) 7 (c' := (65, [(2, 0), (0, ((p : Nat) : Int)), (0, ((2 + (6 * p) : Nat) : Int)), (0, ((x1 : Nat) : Int)), (0, ((x2 : Nat) : Int)), (0, ((x5 : Nat) : Int))], [(0, (aAdd ((2 + (6 * p) : Nat) : Int) 4)), (2, 2), (2, 0)], σ)) rfl rfl ?_
          refine TT.top0 (z := (((2 + (6 * p)) + 4 : Nat) : Int)) (aAdd_n (a := 2 + (6 * p)) (b := 4) (by omega)) ?_
          refine TT.aldN (cd := cd240) (2) ((2 + (6 * p)) + 4) rfl rfl rfl rfl (show (2 + (6 * p)) + 4 < 1600 by omega) ?_
          refine TT.top0 (z := ((x4 : Nat) : Int)) hB.1.2.2.2.2.1 ?_
          refine TT.call (cd := cd240) rfl rfl rfl (by decide) rfl (w_isStation X hl ((x4 : Nat) : Int) σ h05) (fun r7 σ7 hq => ?_)
          rw [hq.1, hq.2, a1]
          refine TT.steps (cd := cd240) 1 (c' := ((if decide (((if 0 ≤ ((x4 : Nat) : Int) ∧ ((x4 : Nat) : Int) < ((ns : Nat) : Int) then 1 else 0) : Int) = 0) = true then 81 else 68), [(2, 0), (0, ((p : Nat) : Int)), (0, ((2 + (6 * p) : Nat) : Int)), (0, ((x1 : Nat) : Int)), (0, ((x2 : Nat) : Int)), (0, ((x5 : Nat) : Int))], [], σ)) rfl rfl ?_
          refine TT.br (p := ((if 0 ≤ ((x4 : Nat) : Int) ∧ ((x4 : Nat) : Int) < ((ns : Nat) : Int) then 1 else 0) : Int) = 0) (fun h8 => ?_) (fun h8 => ?_)
          · replace h8 := ite_f h8
            refine TT.steps (cd := cd240) 1 (c' := (82, [(2, 0), (0, ((p : Nat) : Int)), (0, ((2 + (6 * p) : Nat) : Int)), (0, ((x1 : Nat) : Int)), (0, ((x2 : Nat) : Int)), (0, ((x5 : Nat) : Int))], [(0, 0)], σ)) rfl rfl ?_
            refine TT.ret (cd := cd240) rfl rfl rfl rfl ⟨?_, rfl⟩
            first | rw [if_pos (show pOK x0 x1 x2 x3 x4 x5 ns (ρ 314 (10 * b + p)) by unfold pOK; omega)] | rw [if_neg (show ¬ pOK x0 x1 x2 x3 x4 x5 ns (ρ 314 (10 * b + p)) by unfold pOK; omega)]
          · replace h8 := ite_t h8
            refine TT.steps (cd := cd240) 2 (c' := ((if decide (((x5 : Nat) : Int) = 0) = true then 79 else 70), [(2, 0), (0, ((p : Nat) : Int)), (0, ((2 + (6 * p) : Nat) : Int)), (0, ((x1 : Nat) : Int)), (0, ((x2 : Nat) : Int)), (0, ((x5 : Nat) : Int))], [], σ)) rfl rfl ?_
            refine TT.br (p := ((x5 : Nat) : Int) = 0) (fun h9 => ?_) (fun h9 => ?_)
            · refine TT.steps (cd := cd240) 2 (c' := (82, [(2, 0), (0, ((p : Nat) : Int)), (0, ((2 + (6 * p) : Nat) : Int)), (0, ((x1 : Nat) : Int)), (0, ((x2 : Nat) : Int)), (0, ((x5 : Nat) : Int))], [(0, 1)], σ)) rfl rfl ?_
              refine TT.ret (cd := cd240) rfl rfl rfl rfl ⟨?_, rfl⟩
              first | rw [if_pos (show pOK x0 x1 x2 x3 x4 x5 ns (ρ 314 (10 * b + p)) by unfold pOK; omega)] | rw [if_neg (show ¬ pOK x0 x1 x2 x3 x4 x5 ns (ρ 314 (10 * b + p)) by unfold pOK; omega)]
            · refine TT.steps (cd := cd240) 3 (c' := ((if decide (¬ ((x5 : Nat) : Int) = 1) = true then 81 else 73), [(2, 0), (0, ((p : Nat) : Int)), (0, ((2 + (6 * p) : Nat) : Int)), (0, ((x1 : Nat) : Int)), (0, ((x2 : Nat) : Int)), (0, ((x5 : Nat) : Int))], [], σ)) rfl rfl ?_
              refine TT.br (p := ¬ ((x5 : Nat) : Int) = 1) (fun h10 => ?_) (fun h10 => ?_)
              · refine TT.steps (cd := cd240) 1 (c' := (82, [(2, 0), (0, ((p : Nat) : Int)), (0, ((2 + (6 * p) : Nat) : Int)), (0, ((x1 : Nat) : Int)), (0, ((x2 : Nat) : Int)), (0, ((x5 : Nat) : Int))], [(0, 0)], σ)) rfl rfl ?_
                refine TT.ret (cd := cd240) rfl rfl rfl rfl ⟨?_, rfl⟩
                first | rw [if_pos (show pOK x0 x1 x2 x3 x4 x5 ns (ρ 314 (10 * b + p)) by unfold pOK; omega)] | rw [if_neg (show ¬ pOK x0 x1 x2 x3 x4 x5 ns (ρ 314 (10 * b + p)) by unfold pOK; omega)]
              · refine TT.steps (cd := cd240) 2 (c' := (75, [(2, 0), (0, ((p : Nat) : Int)), (0, ((2 + (6 * p) : Nat) : Int)), (0, ((x1 : Nat) : Int)), (0, ((x2 : Nat) : Int)), (0, ((x5 : Nat) : Int))], [(2, (σ 0 5))], σ)) rfl rfl ?_
                refine TT.top0 (z := 8) h05 ?_
                refine TT.steps (cd := cd240) 2 (c' := (77, [(2, 0), (0, ((p : Nat) : Int)), (0, ((2 + (6 * p) : Nat) : Int)), (0, ((x1 : Nat) : Int)), (0, ((x2 : Nat) : Int)), (0, ((x5 : Nat) : Int))], [(0, ((p : Nat) : Int)), (2, 12)], σ)) rfl rfl ?_
                refine TT.aldN (cd := cd240) (12) (p) rfl rfl rfl rfl (show p < 10 by omega) ?_
                refine TT.top0 (z := (ρ 314 (10 * b + p))) (hPr p hp).1 ?_
                refine TT.steps (cd := cd240) 1 (c' := ((if decide ((ρ 314 (10 * b + p)) ≤ 0) = true then 81 else 79), [(2, 0), (0, ((p : Nat) : Int)), (0, ((2 + (6 * p) : Nat) : Int)), (0, ((x1 : Nat) : Int)), (0, ((x2 : Nat) : Int)), (0, ((x5 : Nat) : Int))], [], σ)) rfl rfl ?_
                refine TT.br (p := (ρ 314 (10 * b + p)) ≤ 0) (fun h11 => ?_) (fun h11 => ?_)
                · refine TT.steps (cd := cd240) 1 (c' := (82, [(2, 0), (0, ((p : Nat) : Int)), (0, ((2 + (6 * p) : Nat) : Int)), (0, ((x1 : Nat) : Int)), (0, ((x2 : Nat) : Int)), (0, ((x5 : Nat) : Int))], [(0, 0)], σ)) rfl rfl ?_
                  refine TT.ret (cd := cd240) rfl rfl rfl rfl ⟨?_, rfl⟩
                  first | rw [if_pos (show pOK x0 x1 x2 x3 x4 x5 ns (ρ 314 (10 * b + p)) by unfold pOK; omega)] | rw [if_neg (show ¬ pOK x0 x1 x2 x3 x4 x5 ns (ρ 314 (10 * b + p)) by unfold pOK; omega)]
                · refine TT.steps (cd := cd240) 2 (c' := (82, [(2, 0), (0, ((p : Nat) : Int)), (0, ((2 + (6 * p) : Nat) : Int)), (0, ((x1 : Nat) : Int)), (0, ((x2 : Nat) : Int)), (0, ((x5 : Nat) : Int))], [(0, 1)], σ)) rfl rfl ?_
                  refine TT.ret (cd := cd240) rfl rfl rfl rfl ⟨?_, rfl⟩
                  first | rw [if_pos (show pOK x0 x1 x2 x3 x4 x5 ns (ρ 314 (10 * b + p)) by unfold pOK; omega)] | rw [if_neg (show ¬ pOK x0 x1 x2 x3 x4 x5 ns (ρ 314 (10 * b + p)) by unfold pOK; omega)]
      · refine TT.steps (cd := cd240) 4 (c' := (43, [(2, 0), (0, ((p : Nat) : Int)), (0, ((2 + (6 * p) : Nat) : Int)), (0, ((x1 : Nat) : Int)), (0, ((x2 : Nat) : Int)), (0, ((x5 : Nat) : Int))], [(0, (aSub ((x2 : Nat) : Int) 1)), (2, 0)], σ)) rfl rfl ?_
        refine TT.top0 (z := (((x2 : Nat) : Int) - 1)) (aSub_of (by omega) (by omega)) ?_
        refine TT.call (cd := cd240) rfl rfl rfl (by decide) rfl (w_isStation X hl (((x2 : Nat) : Int) - 1) σ h05) (fun r12 σ12 hq => ?_)
        rw [hq.1, hq.2, a1]
        refine TT.steps (cd := cd240) 1 (c' := ((if decide (((if 0 ≤ (((x2 : Nat) : Int) - 1) ∧ (((x2 : Nat) : Int) - 1) < ((ns : Nat) : Int) then 1 else 0) : Int) = 0) = true then 81 else 45), [(2, 0), (0, ((p : Nat) : Int)), (0, ((2 + (6 * p) : Nat) : Int)), (0, ((x1 : Nat) : Int)), (0, ((x2 : Nat) : Int)), (0, ((x5 : Nat) : Int))], [], σ)) rfl rfl ?_
        refine TT.br (p := ((if 0 ≤ (((x2 : Nat) : Int) - 1) ∧ (((x2 : Nat) : Int) - 1) < ((ns : Nat) : Int) then 1 else 0) : Int) = 0) (fun h13 => ?_) (fun h13 => ?_)
        · replace h13 := ite_f h13
          refine TT.steps (cd := cd240) 1 (c' := (82, [(2, 0), (0, ((p : Nat) : Int)), (0, ((2 + (6 * p) : Nat) : Int)), (0, ((x1 : Nat) : Int)), (0, ((x2 : Nat) : Int)), (0, ((x5 : Nat) : Int))], [(0, 0)], σ)) rfl rfl ?_
          refine TT.ret (cd := cd240) rfl rfl rfl rfl ⟨?_, rfl⟩
          first | rw [if_pos (show pOK x0 x1 x2 x3 x4 x5 ns (ρ 314 (10 * b + p)) by unfold pOK; omega)] | rw [if_neg (show ¬ pOK x0 x1 x2 x3 x4 x5 ns (ρ 314 (10 * b + p)) by unfold pOK; omega)]
        · replace h13 := ite_t h13
          refine TT.steps (cd := cd240) 3 (c' := ((if decide (((x2 : Nat) : Int) = ((x1 : Nat) : Int)) = true then 81 else 48), [(2, 0), (0, ((p : Nat) : Int)), (0, ((2 + (6 * p) : Nat) : Int)), (0, ((x1 : Nat) : Int)), (0, ((x2 : Nat) : Int)), (0, ((x5 : Nat) : Int))], [], σ)) rfl rfl ?_
          refine TT.br (p := ((x2 : Nat) : Int) = ((x1 : Nat) : Int)) (fun h14 => ?_) (fun h14 => ?_)
          · refine TT.steps (cd := cd240) 1 (c' := (82, [(2, 0), (0, ((p : Nat) : Int)), (0, ((2 + (6 * p) : Nat) : Int)), (0, ((x1 : Nat) : Int)), (0, ((x2 : Nat) : Int)), (0, ((x5 : Nat) : Int))], [(0, 0)], σ)) rfl rfl ?_
            refine TT.ret (cd := cd240) rfl rfl rfl rfl ⟨?_, rfl⟩
            first | rw [if_pos (show pOK x0 x1 x2 x3 x4 x5 ns (ρ 314 (10 * b + p)) by unfold pOK; omega)] | rw [if_neg (show ¬ pOK x0 x1 x2 x3 x4 x5 ns (ρ 314 (10 * b + p)) by unfold pOK; omega)]
          · refine TT.steps (cd := cd240) 7 (c' := (55, [(2, 0), (0, ((p : Nat) : Int)), (0, ((2 + (6 * p) : Nat) : Int)), (0, ((x1 : Nat) : Int)), (0, ((x2 : Nat) : Int)), (0, ((x5 : Nat) : Int))], [(0, (aAdd ((2 + (6 * p) : Nat) : Int) 3)), (2, 2), (2, 0)], σ)) rfl rfl ?_
            refine TT.top0 (z := (((2 + (6 * p)) + 3 : Nat) : Int)) (aAdd_n (a := 2 + (6 * p)) (b := 3) (by omega)) ?_
            refine TT.aldN (cd := cd240) (2) ((2 + (6 * p)) + 3) rfl rfl rfl rfl (show (2 + (6 * p)) + 3 < 1600 by omega) ?_
            refine TT.top0 (z := ((x3 : Nat) : Int)) hB.1.2.2.2.1 ?_
            refine TT.call (cd := cd240) rfl rfl rfl (by decide) rfl (w_isStation X hl ((x3 : Nat) : Int) σ h05) (fun r15 σ15 hq => ?_)
            rw [hq.1, hq.2, a1]
            refine TT.steps (cd := cd240) 1 (c' := ((if decide (((if 0 ≤ ((x3 : Nat) : Int) ∧ ((x3 : Nat) : Int) < ((ns : Nat) : Int) then 1 else 0) : Int) = 0) = true then 81 else 58), [(2, 0), (0, ((p : Nat) : Int)), (0, ((2 + (6 * p) : Nat) : Int)), (0, ((x1 : Nat) : Int)), (0, ((x2 : Nat) : Int)), (0, ((x5 : Nat) : Int))], [], σ)) rfl rfl ?_
            refine TT.br (p := ((if 0 ≤ ((x3 : Nat) : Int) ∧ ((x3 : Nat) : Int) < ((ns : Nat) : Int) then 1 else 0) : Int) = 0) (fun h16 => ?_) (fun h16 => ?_)
            · replace h16 := ite_f h16
              refine TT.steps (cd := cd240) 1 (c' := (82, [(2, 0), (0, ((p : Nat) : Int)), (0, ((2 + (6 * p) : Nat) : Int)), (0, ((x1 : Nat) : Int)), (0, ((x2 : Nat) : Int)), (0, ((x5 : Nat) : Int))], [(0, 0)], σ)) rfl rfl ?_
              refine TT.ret (cd := cd240) rfl rfl rfl rfl ⟨?_, rfl⟩
              first | rw [if_pos (show pOK x0 x1 x2 x3 x4 x5 ns (ρ 314 (10 * b + p)) by unfold pOK; omega)] | rw [if_neg (show ¬ pOK x0 x1 x2 x3 x4 x5 ns (ρ 314 (10 * b + p)) by unfold pOK; omega)]
            · replace h16 := ite_t h16
              refine TT.steps (cd := cd240) 7 (c' := (65, [(2, 0), (0, ((p : Nat) : Int)), (0, ((2 + (6 * p) : Nat) : Int)), (0, ((x1 : Nat) : Int)), (0, ((x2 : Nat) : Int)), (0, ((x5 : Nat) : Int))], [(0, (aAdd ((2 + (6 * p) : Nat) : Int) 4)), (2, 2), (2, 0)], σ)) rfl rfl ?_
              refine TT.top0 (z := (((2 + (6 * p)) + 4 : Nat) : Int)) (aAdd_n (a := 2 + (6 * p)) (b := 4) (by omega)) ?_
              refine TT.aldN (cd := cd240) (2) ((2 + (6 * p)) + 4) rfl rfl rfl rfl (show (2 + (6 * p)) + 4 < 1600 by omega) ?_
              refine TT.top0 (z := ((x4 : Nat) : Int)) hB.1.2.2.2.2.1 ?_
              refine TT.call (cd := cd240) rfl rfl rfl (by decide) rfl (w_isStation X hl ((x4 : Nat) : Int) σ h05) (fun r17 σ17 hq => ?_)
              rw [hq.1, hq.2, a1]
              refine TT.steps (cd := cd240) 1 (c' := ((if decide (((if 0 ≤ ((x4 : Nat) : Int) ∧ ((x4 : Nat) : Int) < ((ns : Nat) : Int) then 1 else 0) : Int) = 0) = true then 81 else 68), [(2, 0), (0, ((p : Nat) : Int)), (0, ((2 + (6 * p) : Nat) : Int)), (0, ((x1 : Nat) : Int)), (0, ((x2 : Nat) : Int)), (0, ((x5 : Nat) : Int))], [], σ)) rfl rfl ?_
              refine TT.br (p := ((if 0 ≤ ((x4 : Nat) : Int) ∧ ((x4 : Nat) : Int) < ((ns : Nat) : Int) then 1 else 0) : Int) = 0) (fun h18 => ?_) (fun h18 => ?_)
              · replace h18 := ite_f h18
                refine TT.steps (cd := cd240) 1 (c' := (82, [(2, 0), (0, ((p : Nat) : Int)), (0, ((2 + (6 * p) : Nat) : Int)), (0, ((x1 : Nat) : Int)), (0, ((x2 : Nat) : Int)), (0, ((x5 : Nat) : Int))], [(0, 0)], σ)) rfl rfl ?_
                refine TT.ret (cd := cd240) rfl rfl rfl rfl ⟨?_, rfl⟩
                first | rw [if_pos (show pOK x0 x1 x2 x3 x4 x5 ns (ρ 314 (10 * b + p)) by unfold pOK; omega)] | rw [if_neg (show ¬ pOK x0 x1 x2 x3 x4 x5 ns (ρ 314 (10 * b + p)) by unfold pOK; omega)]
              · replace h18 := ite_t h18
                refine TT.steps (cd := cd240) 2 (c' := ((if decide (((x5 : Nat) : Int) = 0) = true then 79 else 70), [(2, 0), (0, ((p : Nat) : Int)), (0, ((2 + (6 * p) : Nat) : Int)), (0, ((x1 : Nat) : Int)), (0, ((x2 : Nat) : Int)), (0, ((x5 : Nat) : Int))], [], σ)) rfl rfl ?_
                refine TT.br (p := ((x5 : Nat) : Int) = 0) (fun h19 => ?_) (fun h19 => ?_)
                · refine TT.steps (cd := cd240) 2 (c' := (82, [(2, 0), (0, ((p : Nat) : Int)), (0, ((2 + (6 * p) : Nat) : Int)), (0, ((x1 : Nat) : Int)), (0, ((x2 : Nat) : Int)), (0, ((x5 : Nat) : Int))], [(0, 1)], σ)) rfl rfl ?_
                  refine TT.ret (cd := cd240) rfl rfl rfl rfl ⟨?_, rfl⟩
                  first | rw [if_pos (show pOK x0 x1 x2 x3 x4 x5 ns (ρ 314 (10 * b + p)) by unfold pOK; omega)] | rw [if_neg (show ¬ pOK x0 x1 x2 x3 x4 x5 ns (ρ 314 (10 * b + p)) by unfold pOK; omega)]
                · refine TT.steps (cd := cd240) 3 (c' := ((if decide (¬ ((x5 : Nat) : Int) = 1) = true then 81 else 73), [(2, 0), (0, ((p : Nat) : Int)), (0, ((2 + (6 * p) : Nat) : Int)), (0, ((x1 : Nat) : Int)), (0, ((x2 : Nat) : Int)), (0, ((x5 : Nat) : Int))], [], σ)) rfl rfl ?_
                  refine TT.br (p := ¬ ((x5 : Nat) : Int) = 1) (fun h20 => ?_) (fun h20 => ?_)
                  · refine TT.steps (cd := cd240) 1 (c' := (82, [(2, 0), (0, ((p : Nat) : Int)), (0, ((2 + (6 * p) : Nat) : Int)), (0, ((x1 : Nat) : Int)), (0, ((x2 : Nat) : Int)), (0, ((x5 : Nat) : Int))], [(0, 0)], σ)) rfl rfl ?_
                    refine TT.ret (cd := cd240) rfl rfl rfl rfl ⟨?_, rfl⟩
                    first | rw [if_pos (show pOK x0 x1 x2 x3 x4 x5 ns (ρ 314 (10 * b + p)) by unfold pOK; omega)] | rw [if_neg (show ¬ pOK x0 x1 x2 x3 x4 x5 ns (ρ 314 (10 * b + p)) by unfold pOK; omega)]
                  · refine TT.steps (cd := cd240) 2 (c' := (75, [(2, 0), (0, ((p : Nat) : Int)), (0, ((2 + (6 * p) : Nat) : Int)), (0, ((x1 : Nat) : Int)), (0, ((x2 : Nat) : Int)), (0, ((x5 : Nat) : Int))], [(2, (σ 0 5))], σ)) rfl rfl ?_
                    refine TT.top0 (z := 8) h05 ?_
                    refine TT.steps (cd := cd240) 2 (c' := (77, [(2, 0), (0, ((p : Nat) : Int)), (0, ((2 + (6 * p) : Nat) : Int)), (0, ((x1 : Nat) : Int)), (0, ((x2 : Nat) : Int)), (0, ((x5 : Nat) : Int))], [(0, ((p : Nat) : Int)), (2, 12)], σ)) rfl rfl ?_
                    refine TT.aldN (cd := cd240) (12) (p) rfl rfl rfl rfl (show p < 10 by omega) ?_
                    refine TT.top0 (z := (ρ 314 (10 * b + p))) (hPr p hp).1 ?_
                    refine TT.steps (cd := cd240) 1 (c' := ((if decide ((ρ 314 (10 * b + p)) ≤ 0) = true then 81 else 79), [(2, 0), (0, ((p : Nat) : Int)), (0, ((2 + (6 * p) : Nat) : Int)), (0, ((x1 : Nat) : Int)), (0, ((x2 : Nat) : Int)), (0, ((x5 : Nat) : Int))], [], σ)) rfl rfl ?_
                    refine TT.br (p := (ρ 314 (10 * b + p)) ≤ 0) (fun h21 => ?_) (fun h21 => ?_)
                    · refine TT.steps (cd := cd240) 1 (c' := (82, [(2, 0), (0, ((p : Nat) : Int)), (0, ((2 + (6 * p) : Nat) : Int)), (0, ((x1 : Nat) : Int)), (0, ((x2 : Nat) : Int)), (0, ((x5 : Nat) : Int))], [(0, 0)], σ)) rfl rfl ?_
                      refine TT.ret (cd := cd240) rfl rfl rfl rfl ⟨?_, rfl⟩
                      first | rw [if_pos (show pOK x0 x1 x2 x3 x4 x5 ns (ρ 314 (10 * b + p)) by unfold pOK; omega)] | rw [if_neg (show ¬ pOK x0 x1 x2 x3 x4 x5 ns (ρ 314 (10 * b + p)) by unfold pOK; omega)]
                    · refine TT.steps (cd := cd240) 2 (c' := (82, [(2, 0), (0, ((p : Nat) : Int)), (0, ((2 + (6 * p) : Nat) : Int)), (0, ((x1 : Nat) : Int)), (0, ((x2 : Nat) : Int)), (0, ((x5 : Nat) : Int))], [(0, 1)], σ)) rfl rfl ?_
                      refine TT.ret (cd := cd240) rfl rfl rfl rfl ⟨?_, rfl⟩
                      first | rw [if_pos (show pOK x0 x1 x2 x3 x4 x5 ns (ρ 314 (10 * b + p)) by unfold pOK; omega)] | rw [if_neg (show ¬ pOK x0 x1 x2 x3 x4 x5 ns (ρ 314 (10 * b + p)) by unfold pOK; omega)]
theorem u_isPersonImage_170 (X : AX) {σ ρ : AH} {b np nt ns : Nat} {L : Nat → Nat} {C : Nat → Nat → Nat} {w tp u tl oc : Nat} (h : IV σ ρ 170 b np nt ns L C w tp u tl oc) (p x0 x1 x2 x3 x4 x5 : Nat) (hp : p < np) (hB : B6 (σ 2) x0 x1 x2 x3 x4 x5 (2 + (6 * p)))  : TT X 240 (0, [(2, 0), (0, ((p : Nat) : Int)), (0, ((2 + (6 * p) : Nat) : Int)), (9, 0), (9, 0), (9, 0)], [], σ) (fun r σ' => r = some (0, if pOK x0 x1 x2 x3 x4 x5 ns (ρ 314 (10 * b + p)) then 1 else 0) ∧ σ' = σ) := by
  obtain ⟨⟨hl, h05, h33⟩, hL, hN, hPT, hF, hA, hTp, hO, hM, hH⟩ := id h
  obtain ⟨⟨a1, a2, a3, a4⟩, ⟨b1, b2, b3, b4, b5⟩, ⟨c1, c2, c3, c4, c5⟩, hTr, hCa, hAf, hPr, hDi⟩ := id hL
  obtain ⟨hPb, ⟨y1, y2, y3⟩, hhi, hPp⟩ := id hPT
  obtain ⟨q0, q1, q2, q3, q4, q5⟩ := hB.2
  have hp3 := (hPr p hp).2
  refine TT.steps (cd := cd240) 6 (c' := (6, [(2, 0), (0, ((p : Nat) : Int)), (0, ((2 + (6 * p) : Nat) : Int)), (9, 0), (9, 0), (9, 0)], [(0, (aAdd ((2 + (6 * p) : Nat) : Int) 1)), (2, 2)], σ)) rfl rfl ?_
  refine TT.top0 (z := (((2 + (6 * p)) + 1 : Nat) : Int)) (aAdd_n (a := 2 + (6 * p)) (b := 1) (by omega)) ?_
  refine TT.aldN (cd := cd240) (2) ((2 + (6 * p)) + 1) rfl rfl rfl rfl (show (2 + (6 * p)) + 1 < 1600 by omega) ?_
  refine TT.top0 (z := ((x1 : Nat) : Int)) hB.1.2.1 ?_
  refine TT.steps (cd := cd240) 7 (c' := (14, [(2, 0), (0, ((p : Nat) : Int)), (0, ((2 + (6 * p) : Nat) : Int)), (0, ((x1 : Nat) : Int)), (9, 0), (9, 0)], [(0, (aAdd ((2 + (6 * p) : Nat) : Int) 2)), (2, 2)], σ)) rfl rfl ?_
  refine TT.top0 (z := (((2 + (6 * p)) + 2 : Nat) : Int)) (aAdd_n (a := 2 + (6 * p)) (b := 2) (by omega)) ?_
  refine TT.aldN (cd := cd240) (2) ((2 + (6 * p)) + 2) rfl rfl rfl rfl (show (2 + (6 * p)) + 2 < 1600 by omega) ?_
  refine TT.top0 (z := ((x2 : Nat) : Int)) hB.1.2.2.1 ?_
  refine TT.steps (cd := cd240) 7 (c' := (22, [(2, 0), (0, ((p : Nat) : Int)), (0, ((2 + (6 * p) : Nat) : Int)), (0, ((x1 : Nat) : Int)), (0, ((x2 : Nat) : Int)), (9, 0)], [(0, (aAdd ((2 + (6 * p) : Nat) : Int) 5)), (2, 2)], σ)) rfl rfl ?_
  refine TT.top0 (z := (((2 + (6 * p)) + 5 : Nat) : Int)) (aAdd_n (a := 2 + (6 * p)) (b := 5) (by omega)) ?_
  refine TT.aldN (cd := cd240) (2) ((2 + (6 * p)) + 5) rfl rfl rfl rfl (show (2 + (6 * p)) + 5 < 1600 by omega) ?_
  refine TT.top0 (z := ((x5 : Nat) : Int)) hB.1.2.2.2.2.2 ?_
  refine TT.steps (cd := cd240) 5 (c' := (28, [(2, 0), (0, ((p : Nat) : Int)), (0, ((2 + (6 * p) : Nat) : Int)), (0, ((x1 : Nat) : Int)), (0, ((x2 : Nat) : Int)), (0, ((x5 : Nat) : Int))], [(0, ((2 + (6 * p) : Nat) : Int)), (2, 2)], σ)) rfl rfl ?_
  refine TT.aldN (cd := cd240) (2) (2 + (6 * p)) rfl rfl rfl rfl (show 2 + (6 * p) < 1600 by omega) ?_
  refine TT.top0 (z := ((x0 : Nat) : Int)) hB.1.1 ?_
  refine TT.steps (cd := cd240) 2 (c' := ((if decide (99 < ((x0 : Nat) : Int)) = true then 81 else 31), [(2, 0), (0, ((p : Nat) : Int)), (0, ((2 + (6 * p) : Nat) : Int)), (0, ((x1 : Nat) : Int)), (0, ((x2 : Nat) : Int)), (0, ((x5 : Nat) : Int))], [], σ)) rfl rfl ?_
  refine TT.br (p := 99 < ((x0 : Nat) : Int)) (fun h1 => ?_) (fun h1 => ?_)
  · refine TT.steps (cd := cd240) 1 (c' := (82, [(2, 0), (0, ((p : Nat) : Int)), (0, ((2 + (6 * p) : Nat) : Int)), (0, ((x1 : Nat) : Int)), (0, ((x2 : Nat) : Int)), (0, ((x5 : Nat) : Int))], [(0, 0)], σ)) rfl rfl ?_
    refine TT.ret (cd := cd240) rfl rfl rfl rfl ⟨?_, rfl⟩
    first | rw [if_pos (show pOK x0 x1 x2 x3 x4 x5 ns (ρ 314 (10 * b + p)) by unfold pOK; omega)] | rw [if_neg (show ¬ pOK x0 x1 x2 x3 x4 x5 ns (ρ 314 (10 * b + p)) by unfold pOK; omega)]
  · refine TT.steps (cd := cd240) 4 (c' := (35, [(2, 0), (0, ((p : Nat) : Int)), (0, ((2 + (6 * p) : Nat) : Int)), (0, ((x1 : Nat) : Int)), (0, ((x2 : Nat) : Int)), (0, ((x5 : Nat) : Int))], [(0, (aSub ((x1 : Nat) : Int) 1)), (2, 0)], σ)) rfl rfl ?_
    refine TT.top0 (z := (((x1 : Nat) : Int) - 1)) (aSub_of (by omega) (by omega)) ?_
    refine TT.call (cd := cd240) rfl rfl rfl (by decide) rfl (w_isStation X hl (((x1 : Nat) : Int) - 1) σ h05) (fun r2 σ2 hq => ?_)
    rw [hq.1, hq.2, a1]
    refine TT.steps (cd := cd240) 1 (c' := ((if decide (((if 0 ≤ (((x1 : Nat) : Int) - 1) ∧ (((x1 : Nat) : Int) - 1) < ((ns : Nat) : Int) then 1 else 0) : Int) = 0) = true then 81 else 37), [(2, 0), (0, ((p : Nat) : Int)), (0, ((2 + (6 * p) : Nat) : Int)), (0, ((x1 : Nat) : Int)), (0, ((x2 : Nat) : Int)), (0, ((x5 : Nat) : Int))], [], σ)) rfl rfl ?_
    refine TT.br (p := ((if 0 ≤ (((x1 : Nat) : Int) - 1) ∧ (((x1 : Nat) : Int) - 1) < ((ns : Nat) : Int) then 1 else 0) : Int) = 0) (fun h3 => ?_) (fun h3 => ?_)
    · replace h3 := ite_f h3
      refine TT.steps (cd := cd240) 1 (c' := (82, [(2, 0), (0, ((p : Nat) : Int)), (0, ((2 + (6 * p) : Nat) : Int)), (0, ((x1 : Nat) : Int)), (0, ((x2 : Nat) : Int)), (0, ((x5 : Nat) : Int))], [(0, 0)], σ)) rfl rfl ?_
      refine TT.ret (cd := cd240) rfl rfl rfl rfl ⟨?_, rfl⟩
      first | rw [if_pos (show pOK x0 x1 x2 x3 x4 x5 ns (ρ 314 (10 * b + p)) by unfold pOK; omega)] | rw [if_neg (show ¬ pOK x0 x1 x2 x3 x4 x5 ns (ρ 314 (10 * b + p)) by unfold pOK; omega)]
    · replace h3 := ite_t h3
      refine TT.steps (cd := cd240) 2 (c' := ((if decide (((x2 : Nat) : Int) = 0) = true then 48 else 39), [(2, 0), (0, ((p : Nat) : Int)), (0, ((2 + (6 * p) : Nat) : Int)), (0, ((x1 : Nat) : Int)), (0, ((x2 : Nat) : Int)), (0, ((x5 : Nat) : Int))], [], σ)) rfl rfl ?_
      refine TT.br (p := ((x2 : Nat) : Int) = 0) (fun h4 => ?_) (fun h4 => ?_)
      · refine TT.steps (cd := cd240) 7 (c' := (55, [(2, 0), (0, ((p : Nat) : Int)), (0, ((2 + (6 * p) : Nat) : Int)), (0, ((x1 : Nat) : Int)), (0, ((x2 : Nat) : Int)), (0, ((x5 : Nat) : Int))], [(0, (aAdd ((2 + (6 * p) : Nat) : Int) 3)), (2, 2), (2, 0)], σ)) rfl rfl ?_
        refine TT.top0 (z := (((2 + (6 * p)) + 3 : Nat) : Int)) (aAdd_n (a := 2 + (6 * p)) (b := 3) (by omega)) ?_
        refine TT.aldN (cd := cd240) (2) ((2 + (6 * p)) + 3) rfl rfl rfl rfl (show (2 + (6 * p)) + 3 < 1600 by omega) ?_
        refine TT.top0 (z := ((x3 : Nat) : Int)) hB.1.2.2.2.1 ?_
        refine TT.call (cd := cd240) rfl rfl rfl (by decide) rfl (w_isStation X hl ((x3 : Nat) : Int) σ h05) (fun r5 σ5 hq => ?_)
        rw [hq.1, hq.2, a1]
        refine TT.steps (cd := cd240) 1 (c' := ((if decide (((if 0 ≤ ((x3 : Nat) : Int) ∧ ((x3 : Nat) : Int) < ((ns : Nat) : Int) then 1 else 0) : Int) = 0) = true then 81 else 58), [(2, 0), (0, ((p : Nat) : Int)), (0, ((2 + (6 * p) : Nat) : Int)), (0, ((x1 : Nat) : Int)), (0, ((x2 : Nat) : Int)), (0, ((x5 : Nat) : Int))], [], σ)) rfl rfl ?_
        refine TT.br (p := ((if 0 ≤ ((x3 : Nat) : Int) ∧ ((x3 : Nat) : Int) < ((ns : Nat) : Int) then 1 else 0) : Int) = 0) (fun h6 => ?_) (fun h6 => ?_)
        · replace h6 := ite_f h6
          refine TT.steps (cd := cd240) 1 (c' := (82, [(2, 0), (0, ((p : Nat) : Int)), (0, ((2 + (6 * p) : Nat) : Int)), (0, ((x1 : Nat) : Int)), (0, ((x2 : Nat) : Int)), (0, ((x5 : Nat) : Int))], [(0, 0)], σ)) rfl rfl ?_
          refine TT.ret (cd := cd240) rfl rfl rfl rfl ⟨?_, rfl⟩
          first | rw [if_pos (show pOK x0 x1 x2 x3 x4 x5 ns (ρ 314 (10 * b + p)) by unfold pOK; omega)] | rw [if_neg (show ¬ pOK x0 x1 x2 x3 x4 x5 ns (ρ 314 (10 * b + p)) by unfold pOK; omega)]
        · replace h6 := ite_t h6
          refine TT.steps (cd := cd240) 7 (c' := (65, [(2, 0), (0, ((p : Nat) : Int)), (0, ((2 + (6 * p) : Nat) : Int)), (0, ((x1 : Nat) : Int)), (0, ((x2 : Nat) : Int)), (0, ((x5 : Nat) : Int))], [(0, (aAdd ((2 + (6 * p) : Nat) : Int) 4)), (2, 2), (2, 0)], σ)) rfl rfl ?_
          refine TT.top0 (z := (((2 + (6 * p)) + 4 : Nat) : Int)) (aAdd_n (a := 2 + (6 * p)) (b := 4) (by omega)) ?_
          refine TT.aldN (cd := cd240) (2) ((2 + (6 * p)) + 4) rfl rfl rfl rfl (show (2 + (6 * p)) + 4 < 1600 by omega) ?_
          refine TT.top0 (z := ((x4 : Nat) : Int)) hB.1.2.2.2.2.1 ?_
          refine TT.call (cd := cd240) rfl rfl rfl (by decide) rfl (w_isStation X hl ((x4 : Nat) : Int) σ h05) (fun r7 σ7 hq => ?_)
          rw [hq.1, hq.2, a1]
          refine TT.steps (cd := cd240) 1 (c' := ((if decide (((if 0 ≤ ((x4 : Nat) : Int) ∧ ((x4 : Nat) : Int) < ((ns : Nat) : Int) then 1 else 0) : Int) = 0) = true then 81 else 68), [(2, 0), (0, ((p : Nat) : Int)), (0, ((2 + (6 * p) : Nat) : Int)), (0, ((x1 : Nat) : Int)), (0, ((x2 : Nat) : Int)), (0, ((x5 : Nat) : Int))], [], σ)) rfl rfl ?_
          refine TT.br (p := ((if 0 ≤ ((x4 : Nat) : Int) ∧ ((x4 : Nat) : Int) < ((ns : Nat) : Int) then 1 else 0) : Int) = 0) (fun h8 => ?_) (fun h8 => ?_)
          · replace h8 := ite_f h8
            refine TT.steps (cd := cd240) 1 (c' := (82, [(2, 0), (0, ((p : Nat) : Int)), (0, ((2 + (6 * p) : Nat) : Int)), (0, ((x1 : Nat) : Int)), (0, ((x2 : Nat) : Int)), (0, ((x5 : Nat) : Int))], [(0, 0)], σ)) rfl rfl ?_
            refine TT.ret (cd := cd240) rfl rfl rfl rfl ⟨?_, rfl⟩
            first | rw [if_pos (show pOK x0 x1 x2 x3 x4 x5 ns (ρ 314 (10 * b + p)) by unfold pOK; omega)] | rw [if_neg (show ¬ pOK x0 x1 x2 x3 x4 x5 ns (ρ 314 (10 * b + p)) by unfold pOK; omega)]
          · replace h8 := ite_t h8
            refine TT.steps (cd := cd240) 2 (c' := ((if decide (((x5 : Nat) : Int) = 0) = true then 79 else 70), [(2, 0), (0, ((p : Nat) : Int)), (0, ((2 + (6 * p) : Nat) : Int)), (0, ((x1 : Nat) : Int)), (0, ((x2 : Nat) : Int)), (0, ((x5 : Nat) : Int))], [], σ)) rfl rfl ?_
            refine TT.br (p := ((x5 : Nat) : Int) = 0) (fun h9 => ?_) (fun h9 => ?_)
            · refine TT.steps (cd := cd240) 2 (c' := (82, [(2, 0), (0, ((p : Nat) : Int)), (0, ((2 + (6 * p) : Nat) : Int)), (0, ((x1 : Nat) : Int)), (0, ((x2 : Nat) : Int)), (0, ((x5 : Nat) : Int))], [(0, 1)], σ)) rfl rfl ?_
              refine TT.ret (cd := cd240) rfl rfl rfl rfl ⟨?_, rfl⟩
              first | rw [if_pos (show pOK x0 x1 x2 x3 x4 x5 ns (ρ 314 (10 * b + p)) by unfold pOK; omega)] | rw [if_neg (show ¬ pOK x0 x1 x2 x3 x4 x5 ns (ρ 314 (10 * b + p)) by unfold pOK; omega)]
            · refine TT.steps (cd := cd240) 3 (c' := ((if decide (¬ ((x5 : Nat) : Int) = 1) = true then 81 else 73), [(2, 0), (0, ((p : Nat) : Int)), (0, ((2 + (6 * p) : Nat) : Int)), (0, ((x1 : Nat) : Int)), (0, ((x2 : Nat) : Int)), (0, ((x5 : Nat) : Int))], [], σ)) rfl rfl ?_
              refine TT.br (p := ¬ ((x5 : Nat) : Int) = 1) (fun h10 => ?_) (fun h10 => ?_)
              · refine TT.steps (cd := cd240) 1 (c' := (82, [(2, 0), (0, ((p : Nat) : Int)), (0, ((2 + (6 * p) : Nat) : Int)), (0, ((x1 : Nat) : Int)), (0, ((x2 : Nat) : Int)), (0, ((x5 : Nat) : Int))], [(0, 0)], σ)) rfl rfl ?_
                refine TT.ret (cd := cd240) rfl rfl rfl rfl ⟨?_, rfl⟩
                first | rw [if_pos (show pOK x0 x1 x2 x3 x4 x5 ns (ρ 314 (10 * b + p)) by unfold pOK; omega)] | rw [if_neg (show ¬ pOK x0 x1 x2 x3 x4 x5 ns (ρ 314 (10 * b + p)) by unfold pOK; omega)]
              · refine TT.steps (cd := cd240) 2 (c' := (75, [(2, 0), (0, ((p : Nat) : Int)), (0, ((2 + (6 * p) : Nat) : Int)), (0, ((x1 : Nat) : Int)), (0, ((x2 : Nat) : Int)), (0, ((x5 : Nat) : Int))], [(2, (σ 0 5))], σ)) rfl rfl ?_
                refine TT.top0 (z := 170) h05 ?_
                refine TT.steps (cd := cd240) 2 (c' := (77, [(2, 0), (0, ((p : Nat) : Int)), (0, ((2 + (6 * p) : Nat) : Int)), (0, ((x1 : Nat) : Int)), (0, ((x2 : Nat) : Int)), (0, ((x5 : Nat) : Int))], [(0, ((p : Nat) : Int)), (2, 174)], σ)) rfl rfl ?_
                refine TT.aldN (cd := cd240) (174) (p) rfl rfl rfl rfl (show p < 10 by omega) ?_
                refine TT.top0 (z := (ρ 314 (10 * b + p))) (hPr p hp).1 ?_
                refine TT.steps (cd := cd240) 1 (c' := ((if decide ((ρ 314 (10 * b + p)) ≤ 0) = true then 81 else 79), [(2, 0), (0, ((p : Nat) : Int)), (0, ((2 + (6 * p) : Nat) : Int)), (0, ((x1 : Nat) : Int)), (0, ((x2 : Nat) : Int)), (0, ((x5 : Nat) : Int))], [], σ)) rfl rfl ?_
                refine TT.br (p := (ρ 314 (10 * b + p)) ≤ 0) (fun h11 => ?_) (fun h11 => ?_)
                · refine TT.steps (cd := cd240) 1 (c' := (82, [(2, 0), (0, ((p : Nat) : Int)), (0, ((2 + (6 * p) : Nat) : Int)), (0, ((x1 : Nat) : Int)), (0, ((x2 : Nat) : Int)), (0, ((x5 : Nat) : Int))], [(0, 0)], σ)) rfl rfl ?_
                  refine TT.ret (cd := cd240) rfl rfl rfl rfl ⟨?_, rfl⟩
                  first | rw [if_pos (show pOK x0 x1 x2 x3 x4 x5 ns (ρ 314 (10 * b + p)) by unfold pOK; omega)] | rw [if_neg (show ¬ pOK x0 x1 x2 x3 x4 x5 ns (ρ 314 (10 * b + p)) by unfold pOK; omega)]
                · refine TT.steps (cd := cd240) 2 (c' := (82, [(2, 0), (0, ((p : Nat) : Int)), (0, ((2 + (6 * p) : Nat) : Int)), (0, ((x1 : Nat) : Int)), (0, ((x2 : Nat) : Int)), (0, ((x5 : Nat) : Int))], [(0, 1)], σ)) rfl rfl ?_
                  refine TT.ret (cd := cd240) rfl rfl rfl rfl ⟨?_, rfl⟩
                  first | rw [if_pos (show pOK x0 x1 x2 x3 x4 x5 ns (ρ 314 (10 * b + p)) by unfold pOK; omega)] | rw [if_neg (show ¬ pOK x0 x1 x2 x3 x4 x5 ns (ρ 314 (10 * b + p)) by unfold pOK; omega)]
      · refine TT.steps (cd := cd240) 4 (c' := (43, [(2, 0), (0, ((p : Nat) : Int)), (0, ((2 + (6 * p) : Nat) : Int)), (0, ((x1 : Nat) : Int)), (0, ((x2 : Nat) : Int)), (0, ((x5 : Nat) : Int))], [(0, (aSub ((x2 : Nat) : Int) 1)), (2, 0)], σ)) rfl rfl ?_
        refine TT.top0 (z := (((x2 : Nat) : Int) - 1)) (aSub_of (by omega) (by omega)) ?_
        refine TT.call (cd := cd240) rfl rfl rfl (by decide) rfl (w_isStation X hl (((x2 : Nat) : Int) - 1) σ h05) (fun r12 σ12 hq => ?_)
        rw [hq.1, hq.2, a1]
        refine TT.steps (cd := cd240) 1 (c' := ((if decide (((if 0 ≤ (((x2 : Nat) : Int) - 1) ∧ (((x2 : Nat) : Int) - 1) < ((ns : Nat) : Int) then 1 else 0) : Int) = 0) = true then 81 else 45), [(2, 0), (0, ((p : Nat) : Int)), (0, ((2 + (6 * p) : Nat) : Int)), (0, ((x1 : Nat) : Int)), (0, ((x2 : Nat) : Int)), (0, ((x5 : Nat) : Int))], [], σ)) rfl rfl ?_
        refine TT.br (p := ((if 0 ≤ (((x2 : Nat) : Int) - 1) ∧ (((x2 : Nat) : Int) - 1) < ((ns : Nat) : Int) then 1 else 0) : Int) = 0) (fun h13 => ?_) (fun h13 => ?_)
        · replace h13 := ite_f h13
          refine TT.steps (cd := cd240) 1 (c' := (82, [(2, 0), (0, ((p : Nat) : Int)), (0, ((2 + (6 * p) : Nat) : Int)), (0, ((x1 : Nat) : Int)), (0, ((x2 : Nat) : Int)), (0, ((x5 : Nat) : Int))], [(0, 0)], σ)) rfl rfl ?_
          refine TT.ret (cd := cd240) rfl rfl rfl rfl ⟨?_, rfl⟩
          first | rw [if_pos (show pOK x0 x1 x2 x3 x4 x5 ns (ρ 314 (10 * b + p)) by unfold pOK; omega)] | rw [if_neg (show ¬ pOK x0 x1 x2 x3 x4 x5 ns (ρ 314 (10 * b + p)) by unfold pOK; omega)]
        · replace h13 := ite_t h13
          refine TT.steps (cd := cd240) 3 (c' := ((if decide (((x2 : Nat) : Int) = ((x1 : Nat) : Int)) = true then 81 else 48), [(2, 0), (0, ((p : Nat) : Int)), (0, ((2 + (6 * p) : Nat) : Int)), (0, ((x1 : Nat) : Int)), (0, ((x2 : Nat) : Int)), (0, ((x5 : Nat) : Int))], [], σ)) rfl rfl ?_
          refine TT.br (p := ((x2 : Nat) : Int) = ((x1 : Nat) : Int)) (fun h14 => ?_) (fun h14 => ?_)
          · refine TT.steps (cd := cd240) 1 (c' := (82, [(2, 0), (0, ((p : Nat) : Int)), (0, ((2 + (6 * p) : Nat) : Int)), (0, ((x1 : Nat) : Int)), (0, ((x2 : Nat) : Int)), (0, ((x5 : Nat) : Int))], [(0, 0)], σ)) rfl rfl ?_
            refine TT.ret (cd := cd240) rfl rfl rfl rfl ⟨?_, rfl⟩
            first | rw [if_pos (show pOK x0 x1 x2 x3 x4 x5 ns (ρ 314 (10 * b + p)) by unfold pOK; omega)] | rw [if_neg (show ¬ pOK x0 x1 x2 x3 x4 x5 ns (ρ 314 (10 * b + p)) by unfold pOK; omega)]
          · refine TT.steps (cd := cd240) 7 (c' := (55, [(2, 0), (0, ((p : Nat) : Int)), (0, ((2 + (6 * p) : Nat) : Int)), (0, ((x1 : Nat) : Int)), (0, ((x2 : Nat) : Int)), (0, ((x5 : Nat) : Int))], [(0, (aAdd ((2 + (6 * p) : Nat) : Int) 3)), (2, 2), (2, 0)], σ)) rfl rfl ?_
            refine TT.top0 (z := (((2 + (6 * p)) + 3 : Nat) : Int)) (aAdd_n (a := 2 + (6 * p)) (b := 3) (by omega)) ?_
            refine TT.aldN (cd := cd240) (2) ((2 + (6 * p)) + 3) rfl rfl rfl rfl (show (2 + (6 * p)) + 3 < 1600 by omega) ?_
            refine TT.top0 (z := ((x3 : Nat) : Int)) hB.1.2.2.2.1 ?_
            refine TT.call (cd := cd240) rfl rfl rfl (by decide) rfl (w_isStation X hl ((x3 : Nat) : Int) σ h05) (fun r15 σ15 hq => ?_)
            rw [hq.1, hq.2, a1]
            refine TT.steps (cd := cd240) 1 (c' := ((if decide (((if 0 ≤ ((x3 : Nat) : Int) ∧ ((x3 : Nat) : Int) < ((ns : Nat) : Int) then 1 else 0) : Int) = 0) = true then 81 else 58), [(2, 0), (0, ((p : Nat) : Int)), (0, ((2 + (6 * p) : Nat) : Int)), (0, ((x1 : Nat) : Int)), (0, ((x2 : Nat) : Int)), (0, ((x5 : Nat) : Int))], [], σ)) rfl rfl ?_
            refine TT.br (p := ((if 0 ≤ ((x3 : Nat) : Int) ∧ ((x3 : Nat) : Int) < ((ns : Nat) : Int) then 1 else 0) : Int) = 0) (fun h16 => ?_) (fun h16 => ?_)
            · replace h16 := ite_f h16
              refine TT.steps (cd := cd240) 1 (c' := (82, [(2, 0), (0, ((p : Nat) : Int)), (0, ((2 + (6 * p) : Nat) : Int)), (0, ((x1 : Nat) : Int)), (0, ((x2 : Nat) : Int)), (0, ((x5 : Nat) : Int))], [(0, 0)], σ)) rfl rfl ?_
              refine TT.ret (cd := cd240) rfl rfl rfl rfl ⟨?_, rfl⟩
              first | rw [if_pos (show pOK x0 x1 x2 x3 x4 x5 ns (ρ 314 (10 * b + p)) by unfold pOK; omega)] | rw [if_neg (show ¬ pOK x0 x1 x2 x3 x4 x5 ns (ρ 314 (10 * b + p)) by unfold pOK; omega)]
            · replace h16 := ite_t h16
              refine TT.steps (cd := cd240) 7 (c' := (65, [(2, 0), (0, ((p : Nat) : Int)), (0, ((2 + (6 * p) : Nat) : Int)), (0, ((x1 : Nat) : Int)), (0, ((x2 : Nat) : Int)), (0, ((x5 : Nat) : Int))], [(0, (aAdd ((2 + (6 * p) : Nat) : Int) 4)), (2, 2), (2, 0)], σ)) rfl rfl ?_
              refine TT.top0 (z := (((2 + (6 * p)) + 4 : Nat) : Int)) (aAdd_n (a := 2 + (6 * p)) (b := 4) (by omega)) ?_
              refine TT.aldN (cd := cd240) (2) ((2 + (6 * p)) + 4) rfl rfl rfl rfl (show (2 + (6 * p)) + 4 < 1600 by omega) ?_
              refine TT.top0 (z := ((x4 : Nat) : Int)) hB.1.2.2.2.2.1 ?_
              refine TT.call (cd := cd240) rfl rfl rfl (by decide) rfl (w_isStation X hl ((x4 : Nat) : Int) σ h05) (fun r17 σ17 hq => ?_)
              rw [hq.1, hq.2, a1]
              refine TT.steps (cd := cd240) 1 (c' := ((if decide (((if 0 ≤ ((x4 : Nat) : Int) ∧ ((x4 : Nat) : Int) < ((ns : Nat) : Int) then 1 else 0) : Int) = 0) = true then 81 else 68), [(2, 0), (0, ((p : Nat) : Int)), (0, ((2 + (6 * p) : Nat) : Int)), (0, ((x1 : Nat) : Int)), (0, ((x2 : Nat) : Int)), (0, ((x5 : Nat) : Int))], [], σ)) rfl rfl ?_
              refine TT.br (p := ((if 0 ≤ ((x4 : Nat) : Int) ∧ ((x4 : Nat) : Int) < ((ns : Nat) : Int) then 1 else 0) : Int) = 0) (fun h18 => ?_) (fun h18 => ?_)
              · replace h18 := ite_f h18
                refine TT.steps (cd := cd240) 1 (c' := (82, [(2, 0), (0, ((p : Nat) : Int)), (0, ((2 + (6 * p) : Nat) : Int)), (0, ((x1 : Nat) : Int)), (0, ((x2 : Nat) : Int)), (0, ((x5 : Nat) : Int))], [(0, 0)], σ)) rfl rfl ?_
                refine TT.ret (cd := cd240) rfl rfl rfl rfl ⟨?_, rfl⟩
                first | rw [if_pos (show pOK x0 x1 x2 x3 x4 x5 ns (ρ 314 (10 * b + p)) by unfold pOK; omega)] | rw [if_neg (show ¬ pOK x0 x1 x2 x3 x4 x5 ns (ρ 314 (10 * b + p)) by unfold pOK; omega)]
              · replace h18 := ite_t h18
                refine TT.steps (cd := cd240) 2 (c' := ((if decide (((x5 : Nat) : Int) = 0) = true then 79 else 70), [(2, 0), (0, ((p : Nat) : Int)), (0, ((2 + (6 * p) : Nat) : Int)), (0, ((x1 : Nat) : Int)), (0, ((x2 : Nat) : Int)), (0, ((x5 : Nat) : Int))], [], σ)) rfl rfl ?_
                refine TT.br (p := ((x5 : Nat) : Int) = 0) (fun h19 => ?_) (fun h19 => ?_)
                · refine TT.steps (cd := cd240) 2 (c' := (82, [(2, 0), (0, ((p : Nat) : Int)), (0, ((2 + (6 * p) : Nat) : Int)), (0, ((x1 : Nat) : Int)), (0, ((x2 : Nat) : Int)), (0, ((x5 : Nat) : Int))], [(0, 1)], σ)) rfl rfl ?_
                  refine TT.ret (cd := cd240) rfl rfl rfl rfl ⟨?_, rfl⟩
                  first | rw [if_pos (show pOK x0 x1 x2 x3 x4 x5 ns (ρ 314 (10 * b + p)) by unfold pOK; omega)] | rw [if_neg (show ¬ pOK x0 x1 x2 x3 x4 x5 ns (ρ 314 (10 * b + p)) by unfold pOK; omega)]
                · refine TT.steps (cd := cd240) 3 (c' := ((if decide (¬ ((x5 : Nat) : Int) = 1) = true then 81 else 73), [(2, 0), (0, ((p : Nat) : Int)), (0, ((2 + (6 * p) : Nat) : Int)), (0, ((x1 : Nat) : Int)), (0, ((x2 : Nat) : Int)), (0, ((x5 : Nat) : Int))], [], σ)) rfl rfl ?_
                  refine TT.br (p := ¬ ((x5 : Nat) : Int) = 1) (fun h20 => ?_) (fun h20 => ?_)
                  · refine TT.steps (cd := cd240) 1 (c' := (82, [(2, 0), (0, ((p : Nat) : Int)), (0, ((2 + (6 * p) : Nat) : Int)), (0, ((x1 : Nat) : Int)), (0, ((x2 : Nat) : Int)), (0, ((x5 : Nat) : Int))], [(0, 0)], σ)) rfl rfl ?_
                    refine TT.ret (cd := cd240) rfl rfl rfl rfl ⟨?_, rfl⟩
                    first | rw [if_pos (show pOK x0 x1 x2 x3 x4 x5 ns (ρ 314 (10 * b + p)) by unfold pOK; omega)] | rw [if_neg (show ¬ pOK x0 x1 x2 x3 x4 x5 ns (ρ 314 (10 * b + p)) by unfold pOK; omega)]
                  · refine TT.steps (cd := cd240) 2 (c' := (75, [(2, 0), (0, ((p : Nat) : Int)), (0, ((2 + (6 * p) : Nat) : Int)), (0, ((x1 : Nat) : Int)), (0, ((x2 : Nat) : Int)), (0, ((x5 : Nat) : Int))], [(2, (σ 0 5))], σ)) rfl rfl ?_
                    refine TT.top0 (z := 170) h05 ?_
                    refine TT.steps (cd := cd240) 2 (c' := (77, [(2, 0), (0, ((p : Nat) : Int)), (0, ((2 + (6 * p) : Nat) : Int)), (0, ((x1 : Nat) : Int)), (0, ((x2 : Nat) : Int)), (0, ((x5 : Nat) : Int))], [(0, ((p : Nat) : Int)), (2, 174)], σ)) rfl rfl ?_
                    refine TT.aldN (cd := cd240) (174) (p) rfl rfl rfl rfl (show p < 10 by omega) ?_
                    refine TT.top0 (z := (ρ 314 (10 * b + p))) (hPr p hp).1 ?_
                    refine TT.steps (cd := cd240) 1 (c' := ((if decide ((ρ 314 (10 * b + p)) ≤ 0) = true then 81 else 79), [(2, 0), (0, ((p : Nat) : Int)), (0, ((2 + (6 * p) : Nat) : Int)), (0, ((x1 : Nat) : Int)), (0, ((x2 : Nat) : Int)), (0, ((x5 : Nat) : Int))], [], σ)) rfl rfl ?_
                    refine TT.br (p := (ρ 314 (10 * b + p)) ≤ 0) (fun h21 => ?_) (fun h21 => ?_)
                    · refine TT.steps (cd := cd240) 1 (c' := (82, [(2, 0), (0, ((p : Nat) : Int)), (0, ((2 + (6 * p) : Nat) : Int)), (0, ((x1 : Nat) : Int)), (0, ((x2 : Nat) : Int)), (0, ((x5 : Nat) : Int))], [(0, 0)], σ)) rfl rfl ?_
                      refine TT.ret (cd := cd240) rfl rfl rfl rfl ⟨?_, rfl⟩
                      first | rw [if_pos (show pOK x0 x1 x2 x3 x4 x5 ns (ρ 314 (10 * b + p)) by unfold pOK; omega)] | rw [if_neg (show ¬ pOK x0 x1 x2 x3 x4 x5 ns (ρ 314 (10 * b + p)) by unfold pOK; omega)]
                    · refine TT.steps (cd := cd240) 2 (c' := (82, [(2, 0), (0, ((p : Nat) : Int)), (0, ((2 + (6 * p) : Nat) : Int)), (0, ((x1 : Nat) : Int)), (0, ((x2 : Nat) : Int)), (0, ((x5 : Nat) : Int))], [(0, 1)], σ)) rfl rfl ?_
                      refine TT.ret (cd := cd240) rfl rfl rfl rfl ⟨?_, rfl⟩
                      first | rw [if_pos (show pOK x0 x1 x2 x3 x4 x5 ns (ρ 314 (10 * b + p)) by unfold pOK; omega)] | rw [if_neg (show ¬ pOK x0 x1 x2 x3 x4 x5 ns (ρ 314 (10 * b + p)) by unfold pOK; omega)]
theorem u_isPersonImage (X : AX) {l : Nat} {σ ρ : AH} {b np nt ns : Nat} {L : Nat → Nat} {C : Nat → Nat → Nat} {w tp u tl oc : Nat} (h : IV σ ρ l b np nt ns L C w tp u tl oc) (p x0 x1 x2 x3 x4 x5 : Nat) (hp : p < np) (hB : B6 (σ 2) x0 x1 x2 x3 x4 x5 (2 + (6 * p)))  : TT X 240 (0, [(2, 0), (0, ((p : Nat) : Int)), (0, ((2 + (6 * p) : Nat) : Int)), (9, 0), (9, 0), (9, 0)], [], σ) (fun r σ' => r = some (0, if pOK x0 x1 x2 x3 x4 x5 ns (ρ 314 (10 * b + p)) then 1 else 0) ∧ σ' = σ) := by
  rcases h.1.1 with rfl | rfl
  · exact u_isPersonImage_8 X h p x0 x1 x2 x3 x4 x5 hp hB
  · exact u_isPersonImage_170 X h p x0 x1 x2 x3 x4 x5 hp hB
