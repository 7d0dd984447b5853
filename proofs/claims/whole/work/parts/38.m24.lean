/-- a person of an image may be so -/
abbrev mPOn (σ : AH) (b ns p : Nat) : Prop := ¬ 99 < σ 296 (2 + (6 * p)) ∧ (0 ≤ aSub (σ 296 (2 + (6 * p) + 1)) 1 ∧ aSub (σ 296 (2 + (6 * p) + 1)) 1 < (ns : Int)) ∧ ¬ (ns : Int) < σ 296 (2 + (6 * p) + 2) ∧ ¬ σ 296 (2 + (6 * p) + 2) = σ 296 (2 + (6 * p) + 1) ∧ (0 ≤ σ 296 (2 + (6 * p) + 3) ∧ σ 296 (2 + (6 * p) + 3) < (ns : Int)) ∧ (0 ≤ σ 296 (2 + (6 * p) + 4) ∧ σ 296 (2 + (6 * p) + 4) < (ns : Int)) ∧ (σ 296 (2 + (6 * p) + 5) ≤ 0 ∨ (0 < σ 314 (10 * b + p) ∧ σ 296 (2 + (6 * p) + 5) ≤ 1))
theorem t_isPersonOn (X : AX) (p ns : Nat) (hp : p < 10) (σ : AH) {b : Nat} (hb : σ 295 13 = (b : Int)) (hb2 : b < 2) (hns : σ 297 b = (ns : Int)) (hns2 : ns ≤ 14)  : TT X 108 (0, [(2, 295), (0, ((p : Nat) : Int)), (9, 0)], [], σ) (fun r σ' => r = some (0, if mPOn σ b ns p then 1 else 0) ∧ σ' = σ) := by
  refine TT.steps (cd := cd108) 4 (c' := (4, [(2, 295), (0, ((p : Nat) : Int)), (9, 0)], [(0, (aMul 6 ((p : Nat) : Int))), (0, 2)], σ)) rfl rfl ?_
  refine TT.top0 (z := ((6 * p : Nat) : Int)) (aMul_n (a := 6) (b := p) (by omega)) ?_
  refine TT.steps (cd := cd108) 1 (c' := (5, [(2, 295), (0, ((p : Nat) : Int)), (9, 0)], [(0, (aAdd 2 ((6 * p : Nat) : Int)))], σ)) rfl rfl ?_
  refine TT.top0 (z := ((2 + (6 * p) : Nat) : Int)) (aAdd_n (a := 2) (b := 6 * p) (by omega)) ?_
  refine TT.steps (cd := cd108) 4 (c' := (9, [(2, 295), (0, ((p : Nat) : Int)), (0, ((2 + (6 * p) : Nat) : Int))], [(0, ((2 + (6 * p) : Nat) : Int)), (2, 296)], σ)) rfl rfl ?_
  refine TT.aldN (cd := cd108) (296) (2 + (6 * p)) rfl rfl rfl rfl (show 2 + (6 * p) < 1800 by omega) ?_
  refine TT.steps (cd := cd108) 2 (c' := ((if decide (99 < (σ 296 (2 + (6 * p)))) = true then 48 else 12), [(2, 295), (0, ((p : Nat) : Int)), (0, ((2 + (6 * p) : Nat) : Int))], [], σ)) rfl rfl ?_
  refine TT.br (p := 99 < (σ 296 (2 + (6 * p)))) (fun h1 => ?_) (fun h1 => ?_)
  · refine TT.steps (cd := cd108) 1 (c' := (49, [(2, 295), (0, ((p : Nat) : Int)), (0, ((2 + (6 * p) : Nat) : Int))], [(0, 0)], σ)) rfl rfl ?_
    exact TT.ret (cd := cd108) rfl rfl rfl rfl (⟨by first | (rw [if_pos (by omega)]; done) | (rw [if_neg (by omega)]; done), rfl⟩)
  · refine TT.steps (cd := cd108) 6 (c' := (18, [(2, 295), (0, ((p : Nat) : Int)), (0, ((2 + (6 * p) : Nat) : Int))], [(0, (aAdd ((2 + (6 * p) : Nat) : Int) 1)), (2, 296), (2, 295)], σ)) rfl rfl ?_
    refine TT.top0 (z := (((2 + (6 * p)) + 1 : Nat) : Int)) (aAdd_n (a := 2 + (6 * p)) (b := 1) (by omega)) ?_
    refine TT.aldN (cd := cd108) (296) ((2 + (6 * p)) + 1) rfl rfl rfl rfl (show (2 + (6 * p)) + 1 < 1800 by omega) ?_
    refine TT.steps (cd := cd108) 2 (c' := (21, [(2, 295), (0, ((p : Nat) : Int)), (0, ((2 + (6 * p) : Nat) : Int))], [(0, (aSub (σ 296 ((2 + (6 * p)) + 1)) 1)), (2, 295)], σ)) rfl rfl ?_
    refine TT.call (cd := cd108) rfl rfl rfl (by decide) rfl (t_isStation X (aSub (σ 296 ((2 + (6 * p)) + 1)) 1) σ hb hb2) (fun r2 σ2 hq => ?_)
    rw [hq.1, hq.2, hns]
    refine TT.steps (cd := cd108) 1 (c' := ((if decide (((if 0 ≤ (aSub (σ 296 ((2 + (6 * p)) + 1)) 1) ∧ (aSub (σ 296 ((2 + (6 * p)) + 1)) 1) < (ns : Int) then 1 else 0) : Int) = 0) = true then 48 else 23), [(2, 295), (0, ((p : Nat) : Int)), (0, ((2 + (6 * p) : Nat) : Int))], [], σ)) rfl rfl ?_
    refine TT.br (p := ((if 0 ≤ (aSub (σ 296 ((2 + (6 * p)) + 1)) 1) ∧ (aSub (σ 296 ((2 + (6 * p)) + 1)) 1) < (ns : Int) then 1 else 0) : Int) = 0) (fun h3 => ?_) (fun h3 => ?_)
    · replace h3 := ite_f h3
      refine TT.steps (cd := cd108) 1 (c' := (49, [(2, 295), (0, ((p : Nat) : Int)), (0, ((2 + (6 * p) : Nat) : Int))], [(0, 0)], σ)) rfl rfl ?_
      exact TT.ret (cd := cd108) rfl rfl rfl rfl (⟨by first | (rw [if_pos (by omega)]; done) | (rw [if_neg (by omega)]; done), rfl⟩)
    · replace h3 := ite_t h3
      refine TT.steps (cd := cd108) 5 (c' := (28, [(2, 295), (0, ((p : Nat) : Int)), (0, ((2 + (6 * p) : Nat) : Int))], [(0, (aAdd ((2 + (6 * p) : Nat) : Int) 2)), (2, 296)], σ)) rfl rfl ?_
      refine TT.top0 (z := (((2 + (6 * p)) + 2 : Nat) : Int)) (aAdd_n (a := 2 + (6 * p)) (b := 2) (by omega)) ?_
      refine TT.aldN (cd := cd108) (296) ((2 + (6 * p)) + 2) rfl rfl rfl rfl (show (2 + (6 * p)) + 2 < 1800 by omega) ?_
      refine TT.steps (cd := cd108) 4 (c' := (33, [(2, 295), (0, ((p : Nat) : Int)), (0, ((2 + (6 * p) : Nat) : Int))], [(0, (σ 295 13)), (2, 297), (0, (σ 296 ((2 + (6 * p)) + 2)))], σ)) rfl rfl ?_
      refine TT.top0 (z := ((b : Nat) : Int)) hb ?_
      refine TT.aldN (cd := cd108) (297) (b) rfl rfl rfl rfl (show b < 2 by omega) ?_
      refine TT.top0 (z := ((ns : Nat) : Int)) hns ?_
      refine TT.steps (cd := cd108) 1 (c' := ((if decide (((ns : Nat) : Int) < (σ 296 ((2 + (6 * p)) + 2))) = true then 48 else 35), [(2, 295), (0, ((p : Nat) : Int)), (0, ((2 + (6 * p) : Nat) : Int))], [], σ)) rfl rfl ?_
      refine TT.br (p := ((ns : Nat) : Int) < (σ 296 ((2 + (6 * p)) + 2))) (fun h4 => ?_) (fun h4 => ?_)
      · refine TT.steps (cd := cd108) 1 (c' := (49, [(2, 295), (0, ((p : Nat) : Int)), (0, ((2 + (6 * p) : Nat) : Int))], [(0, 0)], σ)) rfl rfl ?_
        exact TT.ret (cd := cd108) rfl rfl rfl rfl (⟨by first | (rw [if_pos (by omega)]; done) | (rw [if_neg (by omega)]; done), rfl⟩)
      · refine TT.steps (cd := cd108) 5 (c' := (40, [(2, 295), (0, ((p : Nat) : Int)), (0, ((2 + (6 * p) : Nat) : Int))], [(0, (aAdd ((2 + (6 * p) : Nat) : Int) 2)), (2, 296)], σ)) rfl rfl ?_
        refine TT.top0 (z := (((2 + (6 * p)) + 2 : Nat) : Int)) (aAdd_n (a := 2 + (6 * p)) (b := 2) (by omega)) ?_
        refine TT.aldN (cd := cd108) (296) ((2 + (6 * p)) + 2) rfl rfl rfl rfl (show (2 + (6 * p)) + 2 < 1800 by omega) ?_
        refine TT.steps (cd := cd108) 5 (c' := (46, [(2, 295), (0, ((p : Nat) : Int)), (0, ((2 + (6 * p) : Nat) : Int))], [(0, (aAdd ((2 + (6 * p) : Nat) : Int) 1)), (2, 296), (0, (σ 296 ((2 + (6 * p)) + 2)))], σ)) rfl rfl ?_
        refine TT.top0 (z := (((2 + (6 * p)) + 1 : Nat) : Int)) (aAdd_n (a := 2 + (6 * p)) (b := 1) (by omega)) ?_
        refine TT.aldN (cd := cd108) (296) ((2 + (6 * p)) + 1) rfl rfl rfl rfl (show (2 + (6 * p)) + 1 < 1800 by omega) ?_
        refine TT.steps (cd := cd108) 1 (c' := ((if decide (¬ (σ 296 ((2 + (6 * p)) + 2)) = (σ 296 ((2 + (6 * p)) + 1))) = true then 50 else 48), [(2, 295), (0, ((p : Nat) : Int)), (0, ((2 + (6 * p) : Nat) : Int))], [], σ)) rfl rfl ?_
        refine TT.br (p := ¬ (σ 296 ((2 + (6 * p)) + 2)) = (σ 296 ((2 + (6 * p)) + 1))) (fun h5 => ?_) (fun h5 => ?_)
        · refine TT.steps (cd := cd108) 6 (c' := (56, [(2, 295), (0, ((p : Nat) : Int)), (0, ((2 + (6 * p) : Nat) : Int))], [(0, (aAdd ((2 + (6 * p) : Nat) : Int) 3)), (2, 296), (2, 295)], σ)) rfl rfl ?_
          refine TT.top0 (z := (((2 + (6 * p)) + 3 : Nat) : Int)) (aAdd_n (a := 2 + (6 * p)) (b := 3) (by omega)) ?_
          refine TT.aldN (cd := cd108) (296) ((2 + (6 * p)) + 3) rfl rfl rfl rfl (show (2 + (6 * p)) + 3 < 1800 by omega) ?_
          refine TT.call (cd := cd108) rfl rfl rfl (by decide) rfl (t_isStation X (σ 296 ((2 + (6 * p)) + 3)) σ hb hb2) (fun r6 σ6 hq => ?_)
          rw [hq.1, hq.2, hns]
          refine TT.steps (cd := cd108) 1 (c' := ((if decide (((if 0 ≤ (σ 296 ((2 + (6 * p)) + 3)) ∧ (σ 296 ((2 + (6 * p)) + 3)) < (ns : Int) then 1 else 0) : Int) = 0) = true then 84 else 59), [(2, 295), (0, ((p : Nat) : Int)), (0, ((2 + (6 * p) : Nat) : Int))], [], σ)) rfl rfl ?_
          refine TT.br (p := ((if 0 ≤ (σ 296 ((2 + (6 * p)) + 3)) ∧ (σ 296 ((2 + (6 * p)) + 3)) < (ns : Int) then 1 else 0) : Int) = 0) (fun h7 => ?_) (fun h7 => ?_)
          · replace h7 := ite_f h7
            refine TT.steps (cd := cd108) 1 (c' := (85, [(2, 295), (0, ((p : Nat) : Int)), (0, ((2 + (6 * p) : Nat) : Int))], [(0, 0)], σ)) rfl rfl ?_
            exact TT.ret (cd := cd108) rfl rfl rfl rfl (⟨by first | (rw [if_pos (by omega)]; done) | (rw [if_neg (by omega)]; done), rfl⟩)
          · replace h7 := ite_t h7
            refine TT.steps (cd := cd108) 6 (c' := (65, [(2, 295), (0, ((p : Nat) : Int)), (0, ((2 + (6 * p) : Nat) : Int))], [(0, (aAdd ((2 + (6 * p) : Nat) : Int) 4)), (2, 296), (2, 295)], σ)) rfl rfl ?_
            refine TT.top0 (z := (((2 + (6 * p)) + 4 : Nat) : Int)) (aAdd_n (a := 2 + (6 * p)) (b := 4) (by omega)) ?_
            refine TT.aldN (cd := cd108) (296) ((2 + (6 * p)) + 4) rfl rfl rfl rfl (show (2 + (6 * p)) + 4 < 1800 by omega) ?_
            refine TT.call (cd := cd108) rfl rfl rfl (by decide) rfl (t_isStation X (σ 296 ((2 + (6 * p)) + 4)) σ hb hb2) (fun r8 σ8 hq => ?_)
            rw [hq.1, hq.2, hns]
            refine TT.steps (cd := cd108) 1 (c' := ((if decide (((if 0 ≤ (σ 296 ((2 + (6 * p)) + 4)) ∧ (σ 296 ((2 + (6 * p)) + 4)) < (ns : Int) then 1 else 0) : Int) = 0) = true then 84 else 68), [(2, 295), (0, ((p : Nat) : Int)), (0, ((2 + (6 * p) : Nat) : Int))], [], σ)) rfl rfl ?_
            refine TT.br (p := ((if 0 ≤ (σ 296 ((2 + (6 * p)) + 4)) ∧ (σ 296 ((2 + (6 * p)) + 4)) < (ns : Int) then 1 else 0) : Int) = 0) (fun h9 => ?_) (fun h9 => ?_)
            · replace h9 := ite_f h9
              refine TT.steps (cd := cd108) 1 (c' := (85, [(2, 295), (0, ((p : Nat) : Int)), (0, ((2 + (6 * p) : Nat) : Int))], [(0, 0)], σ)) rfl rfl ?_
              exact TT.ret (cd := cd108) rfl rfl rfl rfl (⟨by first | (rw [if_pos (by omega)]; done) | (rw [if_neg (by omega)]; done), rfl⟩)
            · replace h9 := ite_t h9
              refine TT.steps (cd := cd108) 5 (c' := (73, [(2, 295), (0, ((p : Nat) : Int)), (0, ((2 + (6 * p) : Nat) : Int))], [(0, (aAdd ((2 + (6 * p) : Nat) : Int) 5)), (2, 296)], σ)) rfl rfl ?_
              refine TT.top0 (z := (((2 + (6 * p)) + 5 : Nat) : Int)) (aAdd_n (a := 2 + (6 * p)) (b := 5) (by omega)) ?_
              refine TT.aldN (cd := cd108) (296) ((2 + (6 * p)) + 5) rfl rfl rfl rfl (show (2 + (6 * p)) + 5 < 1800 by omega) ?_
              refine TT.steps (cd := cd108) 2 (c' := (76, [(2, 295), (0, ((p : Nat) : Int)), (0, ((2 + (6 * p) : Nat) : Int))], [(0, ((p : Nat) : Int)), (2, 295), (0, (σ 296 ((2 + (6 * p)) + 5)))], σ)) rfl rfl ?_
              refine TT.call (cd := cd108) rfl rfl rfl (by decide) rfl (t_priceOf X p (by omega) σ hb hb2) (fun r10 σ10 hq => ?_)
              rw [hq.1, hq.2]
              refine TT.steps (cd := cd108) 1 (c' := ((if decide ((σ 314 (10 * b + p)) ≤ 0) = true then 80 else 78), [(2, 295), (0, ((p : Nat) : Int)), (0, ((2 + (6 * p) : Nat) : Int))], [(0, (σ 296 ((2 + (6 * p)) + 5)))], σ)) rfl rfl ?_
              refine TT.br (p := (σ 314 (10 * b + p)) ≤ 0) (fun h11 => ?_) (fun h11 => ?_)
              · refine TT.steps (cd := cd108) 2 (c' := ((if decide (0 < (σ 296 ((2 + (6 * p)) + 5))) = true then 84 else 82), [(2, 295), (0, ((p : Nat) : Int)), (0, ((2 + (6 * p) : Nat) : Int))], [], σ)) rfl rfl ?_
                refine TT.br (p := 0 < (σ 296 ((2 + (6 * p)) + 5))) (fun h12 => ?_) (fun h12 => ?_)
                · refine TT.steps (cd := cd108) 1 (c' := (85, [(2, 295), (0, ((p : Nat) : Int)), (0, ((2 + (6 * p) : Nat) : Int))], [(0, 0)], σ)) rfl rfl ?_
                  exact TT.ret (cd := cd108) rfl rfl rfl rfl (⟨by first | (rw [if_pos (by omega)]; done) | (rw [if_neg (by omega)]; done), rfl⟩)
                · refine TT.steps (cd := cd108) 2 (c' := (85, [(2, 295), (0, ((p : Nat) : Int)), (0, ((2 + (6 * p) : Nat) : Int))], [(0, 1)], σ)) rfl rfl ?_
                  exact TT.ret (cd := cd108) rfl rfl rfl rfl (⟨by first | (rw [if_pos (by omega)]; done) | (rw [if_neg (by omega)]; done), rfl⟩)
              · refine TT.steps (cd := cd108) 3 (c' := ((if decide (1 < (σ 296 ((2 + (6 * p)) + 5))) = true then 84 else 82), [(2, 295), (0, ((p : Nat) : Int)), (0, ((2 + (6 * p) : Nat) : Int))], [], σ)) rfl rfl ?_
                refine TT.br (p := 1 < (σ 296 ((2 + (6 * p)) + 5))) (fun h13 => ?_) (fun h13 => ?_)
                · refine TT.steps (cd := cd108) 1 (c' := (85, [(2, 295), (0, ((p : Nat) : Int)), (0, ((2 + (6 * p) : Nat) : Int))], [(0, 0)], σ)) rfl rfl ?_
                  exact TT.ret (cd := cd108) rfl rfl rfl rfl (⟨by first | (rw [if_pos (by omega)]; done) | (rw [if_neg (by omega)]; done), rfl⟩)
                · refine TT.steps (cd := cd108) 2 (c' := (85, [(2, 295), (0, ((p : Nat) : Int)), (0, ((2 + (6 * p) : Nat) : Int))], [(0, 1)], σ)) rfl rfl ?_
                  exact TT.ret (cd := cd108) rfl rfl rfl rfl (⟨by first | (rw [if_pos (by omega)]; done) | (rw [if_neg (by omega)]; done), rfl⟩)
        · refine TT.steps (cd := cd108) 1 (c' := (49, [(2, 295), (0, ((p : Nat) : Int)), (0, ((2 + (6 * p) : Nat) : Int))], [(0, 0)], σ)) rfl rfl ?_
          exact TT.ret (cd := cd108) rfl rfl rfl rfl (⟨by first | (rw [if_pos (by omega)]; done) | (rw [if_neg (by omega)]; done), rfl⟩)
theorem l_isImage1 (X : AX) (Q : Option AV → AH → Prop) (m : Nat) (hm : m ≤ 80) (σ : AH) (kk : ∀ x : AV, TT X 109 (48, [(2, 295), (0, ((m + 1 : Nat) : Int)), (0, (sumI (fun k => σ 296 k) m)), x], [], σ) Q) : ∀ (d n : Nat), n + d = m → TT X 109 (30, [(2, 295), (0, ((m + 1 : Nat) : Int)), (0, (sumI (fun k => σ 296 k) n)), (0, ((n : Nat) : Int))], [], σ) Q := by
  intro d
  induction d with
  | zero =>
    intro n hn 
    have hnn : n = m := by omega
    refine TT.steps (cd := cd109) 4 (c' := (34, [(2, 295), (0, ((m + 1 : Nat) : Int)), (0, (sumI (fun k => σ 296 k) n)), (0, ((n : Nat) : Int))], [(0, (aSub ((m + 1 : Nat) : Int) 1)), (0, ((n : Nat) : Int))], σ)) rfl rfl ?_
    refine TT.top0 (z := (((m + 1) - 1 : Nat) : Int)) (aSub_n (a := m + 1) (b := 1) (by omega) (by omega)) ?_
    refine TT.steps (cd := cd109) 1 (c' := ((if decide ((((m + 1) - 1 : Nat) : Int) ≤ ((n : Nat) : Int)) = true then 48 else 35), [(2, 295), (0, ((m + 1 : Nat) : Int)), (0, (sumI (fun k => σ 296 k) n)), (0, ((n : Nat) : Int))], [], σ)) rfl rfl ?_
    refine TT.br (p := (((m + 1) - 1 : Nat) : Int) ≤ ((n : Nat) : Int)) (fun h1 => ?_) (fun h1 => absurd (show (((m + 1) - 1 : Nat) : Int) ≤ ((n : Nat) : Int) by omega) h1)
    subst hnn
    exact kk _
  | succ d ih =>
    intro n hn 
    refine TT.steps (cd := cd109) 4 (c' := (34, [(2, 295), (0, ((m + 1 : Nat) : Int)), (0, (sumI (fun k => σ 296 k) n)), (0, ((n : Nat) : Int))], [(0, (aSub ((m + 1 : Nat) : Int) 1)), (0, ((n : Nat) : Int))], σ)) rfl rfl ?_
    refine TT.top0 (z := (((m + 1) - 1 : Nat) : Int)) (aSub_n (a := m + 1) (b := 1) (by omega) (by omega)) ?_
    refine TT.steps (cd := cd109) 1 (c' := ((if decide ((((m + 1) - 1 : Nat) : Int) ≤ ((n : Nat) : Int)) = true then 48 else 35), [(2, 295), (0, ((m + 1 : Nat) : Int)), (0, (sumI (fun k => σ 296 k) n)), (0, ((n : Nat) : Int))], [], σ)) rfl rfl ?_
    refine TT.br (p := (((m + 1) - 1 : Nat) : Int) ≤ ((n : Nat) : Int)) (fun h1 => absurd h1 (show ¬ ((((m + 1) - 1 : Nat) : Int) ≤ ((n : Nat) : Int)) by omega)) (fun h1 => ?_)
    refine TT.steps (cd := cd109) 3 (c' := (38, [(2, 295), (0, ((m + 1 : Nat) : Int)), (0, (sumI (fun k => σ 296 k) n)), (0, ((n : Nat) : Int))], [(0, (aMul 5 (sumI (fun k => σ 296 k) n)))], σ)) rfl rfl ?_
    refine TT.steps (cd := cd109) 3 (c' := (41, [(2, 295), (0, ((m + 1 : Nat) : Int)), (0, (sumI (fun k => σ 296 k) n)), (0, ((n : Nat) : Int))], [(0, ((n : Nat) : Int)), (2, 296), (0, (aMul 5 (sumI (fun k => σ 296 k) n)))], σ)) rfl rfl ?_
    refine TT.aldN (cd := cd109) (296) (n) rfl rfl rfl rfl (show n < 1800 by omega) ?_
    refine TT.steps (cd := cd109) 1 (c' := (43, [(2, 295), (0, ((m + 1 : Nat) : Int)), (0, (sumI (fun k => σ 296 k) n)), (0, ((n : Nat) : Int))], [(0, (aAdd (aMul 5 (sumI (fun k => σ 296 k) n)) (σ 296 n)))], σ)) rfl rfl ?_
    refine TT.steps (cd := cd109) 3 (c' := (46, [(2, 295), (0, ((m + 1 : Nat) : Int)), (0, (aRem (aAdd (aMul 5 (sumI (fun k => σ 296 k) n)) (σ 296 n)) 249)), (0, ((n : Nat) : Int))], [], σ)) rfl rfl ?_
    refine TT.inc (cd := cd109) ((n + 1 : Nat) : Int) rfl rfl rfl rfl (fun h => absurd h.2 (show ¬ (0 = 1) by decide)) (aAdd_n (a := n) (b := 1) (by omega)) (ls' := [(2, 295), (0, ((m + 1 : Nat) : Int)), (0, (aRem (aAdd (aMul 5 (sumI (fun k => σ 296 k) n)) (σ 296 n)) 249)), (0, ((n + 1 : Nat) : Int))]) rfl ?_
    refine TT.steps (cd := cd109) 1 (c' := (30, [(2, 295), (0, ((m + 1 : Nat) : Int)), (0, (aRem (aAdd (aMul 5 (sumI (fun k => σ 296 k) n)) (σ 296 n)) 249)), (0, ((n + 1 : Nat) : Int))], [], σ)) rfl rfl ?_
    exact ih (n + 1) (by omega)
abbrev mImgC (σ : AH) (b np ns tp : Nat) : Prop := tp = 3 + 6 * np ∧ aOr (aShl (σ 296 0) 8) (σ 296 1) ≤ 9999 ∧ σ 296 (2 + 6 * np) = sumI (fun k => σ 296 k) (2 + 6 * np) ∧ anyN (fun p => decide (¬ mPOn σ b ns p)) np = false
theorem l_isImage2 (X : AX) (x1 : Nat) (x2 : Int) (np ns : Nat) (σ : AH) {b : Nat} (hb : σ 295 13 = (b : Int)) (hb2 : b < 2) (hnp : σ 307 b = (np : Int)) (hnp2 : np ≤ 10) (hns : σ 297 b = (ns : Int)) (hns2 : ns ≤ 14) : ∀ (d n : Nat), n + d = np → (∀ p, p < n → (fun p => decide (¬ mPOn σ b ns p)) p = false) → TT X 109 (60, [(2, 295), (0, ((x1 : Nat) : Int)), (0, x2), (0, ((n : Nat) : Int))], [], σ) (fun r σ' => r = some (0, if anyN (fun p => decide (¬ mPOn σ b ns p)) np = false then 1 else 0) ∧ σ' = σ) := by
  intro d
  induction d with
  | zero =>
    intro n hn ha
    have hnn : n = np := by omega
    refine TT.steps (cd := cd109) 5 (c' := (65, [(2, 295), (0, ((x1 : Nat) : Int)), (0, x2), (0, ((n : Nat) : Int))], [(0, (σ 295 13)), (2, 307), (0, ((n : Nat) : Int))], σ)) rfl rfl ?_
    refine TT.top0 (z := ((b : Nat) : Int)) hb ?_
    refine TT.aldN (cd := cd109) (307) (b) rfl rfl rfl rfl (show b < 2 by omega) ?_
    refine TT.top0 (z := ((np : Nat) : Int)) hnp ?_
    refine TT.steps (cd := cd109) 1 (c' := ((if decide (((np : Nat) : Int) ≤ ((n : Nat) : Int)) = true then 75 else 67), [(2, 295), (0, ((x1 : Nat) : Int)), (0, x2), (0, ((n : Nat) : Int))], [], σ)) rfl rfl ?_
    refine TT.br (p := ((np : Nat) : Int) ≤ ((n : Nat) : Int)) (fun h1 => ?_) (fun h1 => absurd (show ((np : Nat) : Int) ≤ ((n : Nat) : Int) by omega) h1)
    refine TT.steps (cd := cd109) 1 (c' := (76, [(2, 295), (0, ((x1 : Nat) : Int)), (0, x2), (0, ((n : Nat) : Int))], [(0, 1)], σ)) rfl rfl ?_
    exact TT.ret (cd := cd109) rfl rfl rfl rfl (⟨by rw [if_pos (anyN_f (fun p hp => ha p (by omega)))], rfl⟩)
  | succ d ih =>
    intro n hn ha
    refine TT.steps (cd := cd109) 5 (c' := (65, [(2, 295), (0, ((x1 : Nat) : Int)), (0, x2), (0, ((n : Nat) : Int))], [(0, (σ 295 13)), (2, 307), (0, ((n : Nat) : Int))], σ)) rfl rfl ?_
    refine TT.top0 (z := ((b : Nat) : Int)) hb ?_
    refine TT.aldN (cd := cd109) (307) (b) rfl rfl rfl rfl (show b < 2 by omega) ?_
    refine TT.top0 (z := ((np : Nat) : Int)) hnp ?_
    refine TT.steps (cd := cd109) 1 (c' := ((if decide (((np : Nat) : Int) ≤ ((n : Nat) : Int)) = true then 75 else 67), [(2, 295), (0, ((x1 : Nat) : Int)), (0, x2), (0, ((n : Nat) : Int))], [], σ)) rfl rfl ?_
    refine TT.br (p := ((np : Nat) : Int) ≤ ((n : Nat) : Int)) (fun h1 => absurd h1 (show ¬ (((np : Nat) : Int) ≤ ((n : Nat) : Int)) by omega)) (fun h1 => ?_)
    refine TT.steps (cd := cd109) 2 (c' := (69, [(2, 295), (0, ((x1 : Nat) : Int)), (0, x2), (0, ((n : Nat) : Int))], [(0, ((n : Nat) : Int)), (2, 295)], σ)) rfl rfl ?_
    refine TT.call (cd := cd109) rfl rfl rfl (by decide) rfl (t_isPersonOn X n ns (by omega) σ hb hb2 hns hns2) (fun r2 σ2 hq => ?_)
    rw [hq.1, hq.2]
    refine TT.steps (cd := cd109) 1 (c' := ((if decide (¬ ((if mPOn σ b ns n then 1 else 0) : Int) = 0) = true then 73 else 71), [(2, 295), (0, ((x1 : Nat) : Int)), (0, x2), (0, ((n : Nat) : Int))], [], σ)) rfl rfl ?_
    refine TT.br (p := ¬ ((if mPOn σ b ns n then 1 else 0) : Int) = 0) (fun h3 => ?_) (fun h3 => ?_)
    · replace h3 := ite_t h3
      refine TT.inc (cd := cd109) ((n + 1 : Nat) : Int) rfl rfl rfl rfl (fun h => absurd h.2 (show ¬ (0 = 1) by decide)) (aAdd_n (a := n) (b := 1) (by omega)) (ls' := [(2, 295), (0, ((x1 : Nat) : Int)), (0, x2), (0, ((n + 1 : Nat) : Int))]) rfl ?_
      refine TT.steps (cd := cd109) 1 (c' := (60, [(2, 295), (0, ((x1 : Nat) : Int)), (0, x2), (0, ((n + 1 : Nat) : Int))], [], σ)) rfl rfl ?_
      exact ih (n + 1) (by omega) (fun p hp => by rcases (show p < n ∨ p = n by omega) with h | rfl; exact ha p h; exact decide_eq_false (fun hc => hc (by assumption)))
    · replace h3 := ite_f (Decidable.not_not.mp h3)
      refine TT.steps (cd := cd109) 1 (c' := (72, [(2, 295), (0, ((x1 : Nat) : Int)), (0, x2), (0, ((n : Nat) : Int))], [(0, 0)], σ)) rfl rfl ?_
      exact TT.ret (cd := cd109) rfl rfl rfl rfl (⟨by rw [anyN_t (p := n) (by omega) (decide_eq_true (by assumption))]; rfl, rfl⟩)
theorem t_isImage0 (X : AX) (tp : Nat) (np ns : Nat) (σ : AH) {b : Nat} (hb : σ 295 13 = (b : Int)) (hb2 : b < 2) (hnp : σ 307 b = (np : Int)) (hnp2 : np ≤ 10) (hns : σ 297 b = (ns : Int)) (hns2 : ns ≤ 14) (htp : ¬ tp = 3 + 6 * np)  : TT X 109 (0, [(2, 295), (0, ((tp : Nat) : Int)), (9, 0), (9, 0)], [], σ) (fun r σ' => r = some (0, if mImgC σ b np ns tp then 1 else 0) ∧ σ' = σ) := by
  refine TT.steps (cd := cd109) 7 (c' := (7, [(2, 295), (0, ((tp : Nat) : Int)), (9, 0), (9, 0)], [(0, (σ 295 13)), (2, 307), (0, 6), (0, 3), (0, ((tp : Nat) : Int))], σ)) rfl rfl ?_
  refine TT.top0 (z := ((b : Nat) : Int)) hb ?_
  refine TT.aldN (cd := cd109) (307) (b) rfl rfl rfl rfl (show b < 2 by omega) ?_
  refine TT.top0 (z := ((np : Nat) : Int)) hnp ?_
  refine TT.steps (cd := cd109) 1 (c' := (9, [(2, 295), (0, ((tp : Nat) : Int)), (9, 0), (9, 0)], [(0, (aMul 6 ((np : Nat) : Int))), (0, 3), (0, ((tp : Nat) : Int))], σ)) rfl rfl ?_
  refine TT.top0 (z := ((6 * np : Nat) : Int)) (aMul_n (a := 6) (b := np) (by omega)) ?_
  refine TT.steps (cd := cd109) 1 (c' := (10, [(2, 295), (0, ((tp : Nat) : Int)), (9, 0), (9, 0)], [(0, (aAdd 3 ((6 * np : Nat) : Int))), (0, ((tp : Nat) : Int))], σ)) rfl rfl ?_
  refine TT.top0 (z := ((3 + (6 * np) : Nat) : Int)) (aAdd_n (a := 3) (b := 6 * np) (by omega)) ?_
  refine TT.steps (cd := cd109) 1 (c' := ((if decide (¬ ((tp : Nat) : Int) = ((3 + (6 * np) : Nat) : Int)) = true then 24 else 11), [(2, 295), (0, ((tp : Nat) : Int)), (9, 0), (9, 0)], [], σ)) rfl rfl ?_
  refine TT.br (p := ¬ ((tp : Nat) : Int) = ((3 + (6 * np) : Nat) : Int)) (fun h1 => ?_) (fun h1 => absurd (show ¬ ((tp : Nat) : Int) = ((3 + (6 * np) : Nat) : Int) by omega) h1)
  refine TT.steps (cd := cd109) 1 (c' := (25, [(2, 295), (0, ((tp : Nat) : Int)), (9, 0), (9, 0)], [(0, 0)], σ)) rfl rfl ?_
  exact TT.ret (cd := cd109) rfl rfl rfl rfl (⟨by rw [if_neg (fun hc => htp hc.1)], rfl⟩)
theorem t_isImage1 (X : AX) (np ns : Nat) (σ : AH) {b : Nat} (hb : σ 295 13 = (b : Int)) (hb2 : b < 2) (hnp : σ 307 b = (np : Int)) (hnp2 : np ≤ 10) (hns : σ 297 b = (ns : Int)) (hns2 : ns ≤ 14)  : TT X 109 (0, [(2, 295), (0, ((2 + 6 * np + 1 : Nat) : Int)), (9, 0), (9, 0)], [], σ) (fun r σ' => r = some (0, if mImgC σ b np ns (2 + 6 * np + 1) then 1 else 0) ∧ σ' = σ) := by
  refine TT.steps (cd := cd109) 7 (c' := (7, [(2, 295), (0, ((2 + 6 * np + 1 : Nat) : Int)), (9, 0), (9, 0)], [(0, (σ 295 13)), (2, 307), (0, 6), (0, 3), (0, ((2 + 6 * np + 1 : Nat) : Int))], σ)) rfl rfl ?_
  refine TT.top0 (z := ((b : Nat) : Int)) hb ?_
  refine TT.aldN (cd := cd109) (307) (b) rfl rfl rfl rfl (show b < 2 by omega) ?_
  refine TT.top0 (z := ((np : Nat) : Int)) hnp ?_
  refine TT.steps (cd := cd109) 1 (c' := (9, [(2, 295), (0, ((2 + 6 * np + 1 : Nat) : Int)), (9, 0), (9, 0)], [(0, (aMul 6 ((np : Nat) : Int))), (0, 3), (0, ((2 + 6 * np + 1 : Nat) : Int))], σ)) rfl rfl ?_
  refine TT.top0 (z := ((6 * np : Nat) : Int)) (aMul_n (a := 6) (b := np) (by omega)) ?_
  refine TT.steps (cd := cd109) 1 (c' := (10, [(2, 295), (0, ((2 + 6 * np + 1 : Nat) : Int)), (9, 0), (9, 0)], [(0, (aAdd 3 ((6 * np : Nat) : Int))), (0, ((2 + 6 * np + 1 : Nat) : Int))], σ)) rfl rfl ?_
  refine TT.top0 (z := ((3 + (6 * np) : Nat) : Int)) (aAdd_n (a := 3) (b := 6 * np) (by omega)) ?_
  refine TT.steps (cd := cd109) 1 (c' := ((if decide (¬ ((2 + 6 * np + 1 : Nat) : Int) = ((3 + (6 * np) : Nat) : Int)) = true then 24 else 11), [(2, 295), (0, ((2 + 6 * np + 1 : Nat) : Int)), (9, 0), (9, 0)], [], σ)) rfl rfl ?_
  refine TT.br (p := ¬ ((2 + 6 * np + 1 : Nat) : Int) = ((3 + (6 * np) : Nat) : Int)) (fun h1 => absurd h1 (show ¬ (¬ ((2 + 6 * np + 1 : Nat) : Int) = ((3 + (6 * np) : Nat) : Int)) by omega)) (fun h1 => ?_)
  refine TT.steps (cd := cd109) 3 (c' := (14, [(2, 295), (0, ((2 + 6 * np + 1 : Nat) : Int)), (9, 0), (9, 0)], [(0, 0), (2, 296)], σ)) rfl rfl ?_
  refine TT.aldN (cd := cd109) (296) (0) rfl rfl rfl rfl (show 0 < 1800 by omega) ?_
  refine TT.steps (cd := cd109) 5 (c' := (20, [(2, 295), (0, ((2 + 6 * np + 1 : Nat) : Int)), (9, 0), (9, 0)], [(0, 1), (2, 296), (0, (aShl (σ 296 0) 8))], σ)) rfl rfl ?_
  refine TT.aldN (cd := cd109) (296) (1) rfl rfl rfl rfl (show 1 < 1800 by omega) ?_
  refine TT.steps (cd := cd109) 3 (c' := ((if decide ((aOr (aShl (σ 296 0) 8) (σ 296 1)) ≤ 9999) = true then 26 else 24), [(2, 295), (0, ((2 + 6 * np + 1 : Nat) : Int)), (9, 0), (9, 0)], [], σ)) rfl rfl ?_
  refine TT.br (p := (aOr (aShl (σ 296 0) 8) (σ 296 1)) ≤ 9999) (fun h2 => ?_) (fun h2 => ?_)
  · refine TT.steps (cd := cd109) 4 (c' := (30, [(2, 295), (0, ((2 + 6 * np + 1 : Nat) : Int)), (0, 67), (0, 0)], [], σ)) rfl rfl ?_
    refine l_isImage1 X _ (2 + 6 * np) (by omega) σ (fun x => ?_) (2 + 6 * np) 0 (by omega)
    refine TT.steps (cd := cd109) 5 (c' := (53, [(2, 295), (0, ((2 + 6 * np + 1 : Nat) : Int)), (0, (sumI (fun k => σ 296 k) (2 + 6 * np))), x], [(0, (aSub ((2 + 6 * np + 1 : Nat) : Int) 1)), (2, 296)], σ)) rfl rfl ?_
    refine TT.top0 (z := ((2 + 6 * np : Nat) : Int)) (aSub_n (a := 2 + 6 * np + 1) (b := 1) (by omega) (by omega)) ?_
    refine TT.aldN (cd := cd109) (296) (2 + 6 * np) rfl rfl rfl rfl (show 2 + 6 * np < 1800 by omega) ?_
    refine TT.steps (cd := cd109) 2 (c' := ((if decide ((σ 296 (2 + 6 * np)) = (sumI (fun k => σ 296 k) (2 + 6 * np))) = true then 58 else 56), [(2, 295), (0, ((2 + 6 * np + 1 : Nat) : Int)), (0, (sumI (fun k => σ 296 k) (2 + 6 * np))), x], [], σ)) rfl rfl ?_
    refine TT.br (p := (σ 296 (2 + 6 * np)) = (sumI (fun k => σ 296 k) (2 + 6 * np))) (fun h3 => ?_) (fun h3 => ?_)
    · refine TT.steps (cd := cd109) 2 (c' := (60, [(2, 295), (0, ((2 + 6 * np + 1 : Nat) : Int)), (0, (sumI (fun k => σ 296 k) (2 + 6 * np))), (0, 0)], [], σ)) rfl rfl ?_
      refine TT.mono (l_isImage2 X _ _ np ns σ hb hb2 hnp hnp2 hns hns2 np 0 (by omega) (fun p hp => by omega)) (fun r τ hq => ⟨?_, hq.2⟩)
      rw [hq.1]
      by_cases hc : anyN (fun p => decide (¬ mPOn σ b ns p)) np = false
      · rw [if_pos hc, if_pos ⟨by omega, by omega, by omega, hc⟩]
      · rw [if_neg hc, if_neg (fun h9 => hc h9.2.2.2)]
    · refine TT.steps (cd := cd109) 1 (c' := (57, [(2, 295), (0, ((2 + 6 * np + 1 : Nat) : Int)), (0, (sumI (fun k => σ 296 k) (2 + 6 * np))), x], [(0, 0)], σ)) rfl rfl ?_
      exact TT.ret (cd := cd109) rfl rfl rfl rfl (⟨by rw [if_neg (fun hc => by have h91 := hc.2.1; have h92 := hc.2.2.1; omega)], rfl⟩)
  · refine TT.steps (cd := cd109) 1 (c' := (25, [(2, 295), (0, ((2 + 6 * np + 1 : Nat) : Int)), (9, 0), (9, 0)], [(0, 0)], σ)) rfl rfl ?_
    exact TT.ret (cd := cd109) rfl rfl rfl rfl (⟨by rw [if_neg (fun hc => by have h91 := hc.2.1; have h92 := hc.2.2.1; omega)], rfl⟩)
/-- the line's people as they were told -/
def mBg (σ : AH) (b : Nat) : Nat → AH
  | 0 => up2 (up2 σ 316 0 0) 295 42 0
  | n + 1 => up2 (up2 (up2 (up2 (up2 (up2 (mBg σ b n) 317 n (σ 309 ((10 * b) + n))) 318 n (σ 310 ((10 * b) + n))) 319 n (σ 311 ((10 * b) + n))) 320 n (σ 312 ((10 * b) + n))) 321 n (σ 313 ((10 * b) + n))) 322 n 0
theorem mBg_fr (σ : AH) (b n c j : Nat) (h : c ≠ 295 ∧ (c < 316 ∨ 322 < c)) : mBg σ b n c j = σ c j := by
  induction n with
  | zero => rw [mBg, up2_far _ _ _ _ (by omega), up2_far _ _ _ _ (by omega)]
  | succ n ih => rw [mBg, up2_far _ _ _ _ (by omega), up2_far _ _ _ _ (by omega), up2_far _ _ _ _ (by omega), up2_far _ _ _ _ (by omega), up2_far _ _ _ _ (by omega), up2_far _ _ _ _ (by omega), ih]
theorem mBg_M (σ : AH) (b n j : Nat) (h : j ≠ 42) : mBg σ b n 295 j = σ 295 j := by
  induction n with
  | zero => rw [mBg, up2_by _ _ _ h, up2_far _ _ _ _ (by decide)]
  | succ n ih => rw [mBg, up2_far _ _ _ _ (by decide), up2_far _ _ _ _ (by decide), up2_far _ _ _ _ (by decide), up2_far _ _ _ _ (by decide), up2_far _ _ _ _ (by decide), up2_far _ _ _ _ (by decide), ih]
theorem l_begin (X : AX) (np : Nat) (σ : AH) {b : Nat} (hb : σ 295 13 = (b : Int)) (hb2 : b < 2) (hnp : σ 307 b = (np : Int)) (hnp2 : np ≤ 10) : ∀ (d n : Nat), n + d = np → ∀ y : AV, TT X 41 (10, [(2, 295), (0, ((n : Nat) : Int)), y], [], (mBg σ b n)) (fun r σ' => r = none ∧ σ' = mBg σ b np) := by
  intro d
  induction d with
  | zero =>
    intro n hn y
    have hnn : n = np := by omega
    refine TT.steps (cd := cd41) 5 (c' := (15, [(2, 295), (0, ((n : Nat) : Int)), y], [(0, ((mBg σ b n) 295 13)), (2, 307), (0, ((n : Nat) : Int))], (mBg σ b n))) rfl rfl ?_
    refine TT.top0 (z := ((b : Nat) : Int)) ((mBg_M _ _ _ (13) (by decide)).trans hb) ?_
    refine TT.aldN (cd := cd41) (307) (b) rfl rfl rfl rfl (show b < 2 by omega) ?_
    refine TT.top0 (z := ((np : Nat) : Int)) ((mBg_fr _ _ _ 307 (b) (by decide)).trans hnp) ?_
    refine TT.steps (cd := cd41) 1 (c' := ((if decide (((np : Nat) : Int) ≤ ((n : Nat) : Int)) = true then 71 else 17), [(2, 295), (0, ((n : Nat) : Int)), y], [], (mBg σ b n))) rfl rfl ?_
    refine TT.br (p := ((np : Nat) : Int) ≤ ((n : Nat) : Int)) (fun h1 => ?_) (fun h1 => absurd (show ((np : Nat) : Int) ≤ ((n : Nat) : Int) by omega) h1)
    exact TT.ret (cd := cd41) rfl rfl rfl rfl (⟨rfl, by rw [hnn]⟩)
  | succ d ih =>
    intro n hn y
    refine TT.steps (cd := cd41) 5 (c' := (15, [(2, 295), (0, ((n : Nat) : Int)), y], [(0, ((mBg σ b n) 295 13)), (2, 307), (0, ((n : Nat) : Int))], (mBg σ b n))) rfl rfl ?_
    refine TT.top0 (z := ((b : Nat) : Int)) ((mBg_M _ _ _ (13) (by decide)).trans hb) ?_
    refine TT.aldN (cd := cd41) (307) (b) rfl rfl rfl rfl (show b < 2 by omega) ?_
    refine TT.top0 (z := ((np : Nat) : Int)) ((mBg_fr _ _ _ 307 (b) (by decide)).trans hnp) ?_
    refine TT.steps (cd := cd41) 1 (c' := ((if decide (((np : Nat) : Int) ≤ ((n : Nat) : Int)) = true then 71 else 17), [(2, 295), (0, ((n : Nat) : Int)), y], [], (mBg σ b n))) rfl rfl ?_
    refine TT.br (p := ((np : Nat) : Int) ≤ ((n : Nat) : Int)) (fun h1 => absurd h1 (show ¬ (((np : Nat) : Int) ≤ ((n : Nat) : Int)) by omega)) (fun h1 => ?_)
    refine TT.steps (cd := cd41) 3 (c' := (20, [(2, 295), (0, ((n : Nat) : Int)), y], [(0, ((mBg σ b n) 295 13)), (0, 10)], (mBg σ b n))) rfl rfl ?_
    refine TT.top0 (z := ((b : Nat) : Int)) ((mBg_M _ _ _ (13) (by decide)).trans hb) ?_
    refine TT.steps (cd := cd41) 1 (c' := (21, [(2, 295), (0, ((n : Nat) : Int)), y], [(0, (aMul 10 ((b : Nat) : Int)))], (mBg σ b n))) rfl rfl ?_
    refine TT.top0 (z := ((10 * b : Nat) : Int)) (aMul_n (a := 10) (b := b) (by omega)) ?_
    refine TT.steps (cd := cd41) 2 (c' := (23, [(2, 295), (0, ((n : Nat) : Int)), y], [(0, (aAdd ((10 * b : Nat) : Int) ((n : Nat) : Int)))], (mBg σ b n))) rfl rfl ?_
    refine TT.top0 (z := (((10 * b) + n : Nat) : Int)) (aAdd_n (a := 10 * b) (b := n) (by omega)) ?_
    refine TT.steps (cd := cd41) 7 (c' := (30, [(2, 295), (0, ((n : Nat) : Int)), (0, (((10 * b) + n : Nat) : Int))], [(0, (((10 * b) + n : Nat) : Int)), (2, 309), (0, ((n : Nat) : Int)), (2, 317)], (mBg σ b n))) rfl rfl ?_
    refine TT.aldN (cd := cd41) (309) ((10 * b) + n) rfl rfl rfl rfl (show (10 * b) + n < 20 by omega) ?_
    refine TT.top0 (z := (σ 309 ((10 * b) + n))) (mBg_fr _ _ _ 309 ((10 * b) + n) (by decide)) ?_
    refine TT.astN (cd := cd41) (317) (n) rfl rfl rfl rfl (show n < 220 by omega) ?_
    refine TT.steps (cd := cd41) 6 (c' := (38, [(2, 295), (0, ((n : Nat) : Int)), (0, (((10 * b) + n : Nat) : Int))], [(0, (((10 * b) + n : Nat) : Int)), (2, 310), (0, ((n : Nat) : Int)), (2, 318)], (up2 (mBg σ b n) 317 n (σ 309 ((10 * b) + n))))) rfl rfl ?_
    refine TT.aldN (cd := cd41) (310) ((10 * b) + n) rfl rfl rfl rfl (show (10 * b) + n < 20 by omega) ?_
    refine TT.top0 (z := (σ 310 ((10 * b) + n))) ((up2_far (k := 317) (k' := 310) _ _ _ _ (by decide)).trans (mBg_fr _ _ _ 310 ((10 * b) + n) (by decide))) ?_
    refine TT.astN (cd := cd41) (318) (n) rfl rfl rfl rfl (show n < 220 by omega) ?_
    refine TT.steps (cd := cd41) 6 (c' := (46, [(2, 295), (0, ((n : Nat) : Int)), (0, (((10 * b) + n : Nat) : Int))], [(0, (((10 * b) + n : Nat) : Int)), (2, 311), (0, ((n : Nat) : Int)), (2, 319)], (up2 (up2 (mBg σ b n) 317 n (σ 309 ((10 * b) + n))) 318 n (σ 310 ((10 * b) + n))))) rfl rfl ?_
    refine TT.aldN (cd := cd41) (311) ((10 * b) + n) rfl rfl rfl rfl (show (10 * b) + n < 20 by omega) ?_
    refine TT.top0 (z := (σ 311 ((10 * b) + n))) (((up2_far (k := 318) (k' := 311) _ _ _ _ (by decide)).trans (up2_far (k := 317) (k' := 311) _ _ _ _ (by decide))).trans (mBg_fr _ _ _ 311 ((10 * b) + n) (by decide))) ?_
    refine TT.astN (cd := cd41) (319) (n) rfl rfl rfl rfl (show n < 220 by omega) ?_
    refine TT.steps (cd := cd41) 6 (c' := (54, [(2, 295), (0, ((n : Nat) : Int)), (0, (((10 * b) + n : Nat) : Int))], [(0, (((10 * b) + n : Nat) : Int)), (2, 312), (0, ((n : Nat) : Int)), (2, 320)], (up2 (up2 (up2 (mBg σ b n) 317 n (σ 309 ((10 * b) + n))) 318 n (σ 310 ((10 * b) + n))) 319 n (σ 311 ((10 * b) + n))))) rfl rfl ?_
    refine TT.aldN (cd := cd41) (312) ((10 * b) + n) rfl rfl rfl rfl (show (10 * b) + n < 20 by omega) ?_
    refine TT.top0 (z := (σ 312 ((10 * b) + n))) ((((up2_far (k := 319) (k' := 312) _ _ _ _ (by decide)).trans (up2_far (k := 318) (k' := 312) _ _ _ _ (by decide))).trans (up2_far (k := 317) (k' := 312) _ _ _ _ (by decide))).trans (mBg_fr _ _ _ 312 ((10 * b) + n) (by decide))) ?_
    refine TT.astN (cd := cd41) (320) (n) rfl rfl rfl rfl (show n < 220 by omega) ?_
    refine TT.steps (cd := cd41) 6 (c' := (62, [(2, 295), (0, ((n : Nat) : Int)), (0, (((10 * b) + n : Nat) : Int))], [(0, (((10 * b) + n : Nat) : Int)), (2, 313), (0, ((n : Nat) : Int)), (2, 321)], (up2 (up2 (up2 (up2 (mBg σ b n) 317 n (σ 309 ((10 * b) + n))) 318 n (σ 310 ((10 * b) + n))) 319 n (σ 311 ((10 * b) + n))) 320 n (σ 312 ((10 * b) + n))))) rfl rfl ?_
    refine TT.aldN (cd := cd41) (313) ((10 * b) + n) rfl rfl rfl rfl (show (10 * b) + n < 20 by omega) ?_
    refine TT.top0 (z := (σ 313 ((10 * b) + n))) (((((up2_far (k := 320) (k' := 313) _ _ _ _ (by decide)).trans (up2_far (k := 319) (k' := 313) _ _ _ _ (by decide))).trans (up2_far (k := 318) (k' := 313) _ _ _ _ (by decide))).trans (up2_far (k := 317) (k' := 313) _ _ _ _ (by decide))).trans (mBg_fr _ _ _ 313 ((10 * b) + n) (by decide))) ?_
    refine TT.astN (cd := cd41) (321) (n) rfl rfl rfl rfl (show n < 220 by omega) ?_
    refine TT.steps (cd := cd41) 4 (c' := (68, [(2, 295), (0, ((n : Nat) : Int)), (0, (((10 * b) + n : Nat) : Int))], [(0, 0), (0, ((n : Nat) : Int)), (2, 322)], (up2 (up2 (up2 (up2 (up2 (mBg σ b n) 317 n (σ 309 ((10 * b) + n))) 318 n (σ 310 ((10 * b) + n))) 319 n (σ 311 ((10 * b) + n))) 320 n (σ 312 ((10 * b) + n))) 321 n (σ 313 ((10 * b) + n))))) rfl rfl ?_
    refine TT.astN (cd := cd41) (322) (n) rfl rfl rfl rfl (show n < 220 by omega) ?_
    refine TT.inc (cd := cd41) ((n + 1 : Nat) : Int) rfl rfl rfl rfl (fun h => absurd h.2 (show ¬ (2 = 1) by decide)) (aAdd_n (a := n) (b := 1) (by omega)) (ls' := [(2, 295), (0, ((n + 1 : Nat) : Int)), (0, (((10 * b) + n : Nat) : Int))]) rfl ?_
    refine TT.steps (cd := cd41) 1 (c' := (10, [(2, 295), (0, ((n + 1 : Nat) : Int)), (0, (((10 * b) + n : Nat) : Int))], [], (up2 (up2 (up2 (up2 (up2 (up2 (mBg σ b n) 317 n (σ 309 ((10 * b) + n))) 318 n (σ 310 ((10 * b) + n))) 319 n (σ 311 ((10 * b) + n))) 320 n (σ 312 ((10 * b) + n))) 321 n (σ 313 ((10 * b) + n))) 322 n 0))) rfl rfl ?_
    exact ih (n + 1) (by omega) _
theorem t_begin (X : AX) (np : Nat) (σ : AH) {b : Nat} (hb : σ 295 13 = (b : Int)) (hb2 : b < 2) (hnp : σ 307 b = (np : Int)) (hnp2 : np ≤ 10)  : TT X 41 (0, [(2, 295), (9, 0), (9, 0)], [], σ) (fun r σ' => r = none ∧ σ' = mBg σ b np) := by
  refine TT.steps (cd := cd41) 4 (c' := (4, [(2, 295), (9, 0), (9, 0)], [(0, 0), (0, 0), (2, 316)], σ)) rfl rfl ?_
  refine TT.astN (cd := cd41) (316) (0) rfl rfl rfl rfl (show 0 < 22 by omega) ?_
  refine TT.steps (cd := cd41) 5 (c' := (10, [(2, 295), (0, 0), (9, 0)], [], (up2 (up2 σ 316 0 0) 295 42 0))) rfl rfl ?_
  exact l_begin X np σ hb hb2 hnp hnp2 np 0 (by omega) _
theorem t_manyOf (X : AX) (b : Nat) (hb2 : b < 2) (w : Int) (σ : AH)  : TT X 13 (0, [(2, 295), (0, ((b : Nat) : Int)), (0, w)], [], σ) (fun r σ' => r = some (0, if w = 0 then σ 297 b else if w = 1 then σ 300 b else σ 307 b) ∧ σ' = σ) := by
  refine TT.steps (cd := cd13) 2 (c' := ((if decide (¬ w = 0) = true then 7 else 2), [(2, 295), (0, ((b : Nat) : Int)), (0, w)], [], σ)) rfl rfl ?_
  refine TT.br (p := ¬ w = 0) (fun h1 => ?_) (fun h1 => ?_)
  · refine TT.steps (cd := cd13) 3 (c' := ((if decide (¬ w = 1) = true then 15 else 10), [(2, 295), (0, ((b : Nat) : Int)), (0, w)], [], σ)) rfl rfl ?_
    refine TT.br (p := ¬ w = 1) (fun h2 => ?_) (fun h2 => ?_)
    · refine TT.steps (cd := cd13) 3 (c' := (18, [(2, 295), (0, ((b : Nat) : Int)), (0, w)], [(0, ((b : Nat) : Int)), (2, 307)], σ)) rfl rfl ?_
      refine TT.aldN (cd := cd13) (307) (b) rfl rfl rfl rfl (show b < 2 by omega) ?_
      exact TT.ret (cd := cd13) rfl rfl rfl rfl (⟨by first | (rw [if_pos (by omega)]; done) | (rw [if_neg (by omega), if_pos (by omega)]; done) | (rw [if_neg (by omega), if_neg (by omega)]; done), rfl⟩)
    · refine TT.steps (cd := cd13) 3 (c' := (13, [(2, 295), (0, ((b : Nat) : Int)), (0, w)], [(0, ((b : Nat) : Int)), (2, 300)], σ)) rfl rfl ?_
      refine TT.aldN (cd := cd13) (300) (b) rfl rfl rfl rfl (show b < 2 by omega) ?_
      refine TT.steps (cd := cd13) 1 (c' := (19, [(2, 295), (0, ((b : Nat) : Int)), (0, w)], [(0, (σ 300 b))], σ)) rfl rfl ?_
      exact TT.ret (cd := cd13) rfl rfl rfl rfl (⟨by first | (rw [if_pos (by omega)]; done) | (rw [if_neg (by omega), if_pos (by omega)]; done) | (rw [if_neg (by omega), if_neg (by omega)]; done), rfl⟩)
  · refine TT.steps (cd := cd13) 3 (c' := (5, [(2, 295), (0, ((b : Nat) : Int)), (0, w)], [(0, ((b : Nat) : Int)), (2, 297)], σ)) rfl rfl ?_
    refine TT.aldN (cd := cd13) (297) (b) rfl rfl rfl rfl (show b < 2 by omega) ?_
    refine TT.steps (cd := cd13) 1 (c' := (19, [(2, 295), (0, ((b : Nat) : Int)), (0, w)], [(0, (σ 297 b))], σ)) rfl rfl ?_
    exact TT.ret (cd := cd13) rfl rfl rfl rfl (⟨by first | (rw [if_pos (by omega)]; done) | (rw [if_neg (by omega), if_pos (by omega)]; done) | (rw [if_neg (by omega), if_neg (by omega)]; done), rfl⟩)
theorem t_nameOf (X : AX) (b k : Nat) (hb2 : b < 2) (w : Int) (hw : 0 ≤ w ∧ w ≤ 2) (hk : (w = 0 → k < 14) ∧ (w = 1 → k < 6) ∧ (w = 2 → k < 10)) (σ : AH)  : TT X 14 (0, [(2, 295), (0, ((b : Nat) : Int)), (0, w), (0, ((k : Nat) : Int))], [], σ) (fun r σ' => r = some (1, if w = 0 then σ 298 (14 * b + k) else if w = 1 then σ 301 (6 * b + k) else σ 308 (10 * b + k)) ∧ σ' = σ) := by
  refine TT.steps (cd := cd14) 2 (c' := ((if decide (¬ w = 0) = true then 11 else 2), [(2, 295), (0, ((b : Nat) : Int)), (0, w), (0, ((k : Nat) : Int))], [], σ)) rfl rfl ?_
  refine TT.br (p := ¬ w = 0) (fun h1 => ?_) (fun h1 => ?_)
  · refine TT.steps (cd := cd14) 3 (c' := ((if decide (¬ w = 1) = true then 23 else 14), [(2, 295), (0, ((b : Nat) : Int)), (0, w), (0, ((k : Nat) : Int))], [], σ)) rfl rfl ?_
    refine TT.br (p := ¬ w = 1) (fun h2 => ?_) (fun h2 => ?_)
    · refine TT.steps (cd := cd14) 5 (c' := (28, [(2, 295), (0, ((b : Nat) : Int)), (0, w), (0, ((k : Nat) : Int))], [(0, (aMul 10 ((b : Nat) : Int))), (2, 308)], σ)) rfl rfl ?_
      refine TT.top0 (z := ((10 * b : Nat) : Int)) (aMul_n (a := 10) (b := b) (by (have h91 := hk.1; have h92 := hk.2.1; have h93 := hk.2.2; omega))) ?_
      refine TT.steps (cd := cd14) 2 (c' := (30, [(2, 295), (0, ((b : Nat) : Int)), (0, w), (0, ((k : Nat) : Int))], [(0, (aAdd ((10 * b : Nat) : Int) ((k : Nat) : Int))), (2, 308)], σ)) rfl rfl ?_
      refine TT.top0 (z := (((10 * b) + k : Nat) : Int)) (aAdd_n (a := 10 * b) (b := k) (by (have h91 := hk.1; have h92 := hk.2.1; have h93 := hk.2.2; omega))) ?_
      refine TT.lldN (cd := cd14) (308) ((10 * b) + k) rfl rfl rfl rfl (show (10 * b) + k < 20 by (have h91 := hk.1; have h92 := hk.2.1; have h93 := hk.2.2; omega)) ?_
      exact TT.ret (cd := cd14) rfl rfl rfl rfl (⟨by first | (rw [if_pos (by omega)]; done) | (rw [if_neg (by omega), if_pos (by omega)]; done) | (rw [if_neg (by omega), if_neg (by omega)]; done), rfl⟩)
    · refine TT.steps (cd := cd14) 5 (c' := (19, [(2, 295), (0, ((b : Nat) : Int)), (0, w), (0, ((k : Nat) : Int))], [(0, (aMul 6 ((b : Nat) : Int))), (2, 301)], σ)) rfl rfl ?_
      refine TT.top0 (z := ((6 * b : Nat) : Int)) (aMul_n (a := 6) (b := b) (by (have h91 := hk.1; have h92 := hk.2.1; have h93 := hk.2.2; omega))) ?_
      refine TT.steps (cd := cd14) 2 (c' := (21, [(2, 295), (0, ((b : Nat) : Int)), (0, w), (0, ((k : Nat) : Int))], [(0, (aAdd ((6 * b : Nat) : Int) ((k : Nat) : Int))), (2, 301)], σ)) rfl rfl ?_
      refine TT.top0 (z := (((6 * b) + k : Nat) : Int)) (aAdd_n (a := 6 * b) (b := k) (by (have h91 := hk.1; have h92 := hk.2.1; have h93 := hk.2.2; omega))) ?_
      refine TT.lldN (cd := cd14) (301) ((6 * b) + k) rfl rfl rfl rfl (show (6 * b) + k < 12 by (have h91 := hk.1; have h92 := hk.2.1; have h93 := hk.2.2; omega)) ?_
      refine TT.steps (cd := cd14) 1 (c' := (31, [(2, 295), (0, ((b : Nat) : Int)), (0, w), (0, ((k : Nat) : Int))], [(1, (σ 301 ((6 * b) + k)))], σ)) rfl rfl ?_
      exact TT.ret (cd := cd14) rfl rfl rfl rfl (⟨by first | (rw [if_pos (by omega)]; done) | (rw [if_neg (by omega), if_pos (by omega)]; done) | (rw [if_neg (by omega), if_neg (by omega)]; done), rfl⟩)
  · refine TT.steps (cd := cd14) 5 (c' := (7, [(2, 295), (0, ((b : Nat) : Int)), (0, w), (0, ((k : Nat) : Int))], [(0, (aMul 14 ((b : Nat) : Int))), (2, 298)], σ)) rfl rfl ?_
    refine TT.top0 (z := ((14 * b : Nat) : Int)) (aMul_n (a := 14) (b := b) (by (have h91 := hk.1; have h92 := hk.2.1; have h93 := hk.2.2; omega))) ?_
    refine TT.steps (cd := cd14) 2 (c' := (9, [(2, 295), (0, ((b : Nat) : Int)), (0, w), (0, ((k : Nat) : Int))], [(0, (aAdd ((14 * b : Nat) : Int) ((k : Nat) : Int))), (2, 298)], σ)) rfl rfl ?_
    refine TT.top0 (z := (((14 * b) + k : Nat) : Int)) (aAdd_n (a := 14 * b) (b := k) (by (have h91 := hk.1; have h92 := hk.2.1; have h93 := hk.2.2; omega))) ?_
    refine TT.lldN (cd := cd14) (298) ((14 * b) + k) rfl rfl rfl rfl (show (14 * b) + k < 28 by (have h91 := hk.1; have h92 := hk.2.1; have h93 := hk.2.2; omega)) ?_
    refine TT.steps (cd := cd14) 1 (c' := (31, [(2, 295), (0, ((b : Nat) : Int)), (0, w), (0, ((k : Nat) : Int))], [(1, (σ 298 ((14 * b) + k)))], σ)) rfl rfl ?_
    exact TT.ret (cd := cd14) rfl rfl rfl rfl (⟨by first | (rw [if_pos (by omega)]; done) | (rw [if_neg (by omega), if_pos (by omega)]; done) | (rw [if_neg (by omega), if_neg (by omega)]; done), rfl⟩)
