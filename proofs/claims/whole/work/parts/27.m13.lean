theorem t_status0 (X : AX) (w : Int) (σ : AH) (hw : ¬ (0 ≤ w ∧ w ≤ 5))  : TT X 32 (0, [(2, 295), (0, w)], [], σ) (fun r σ' => r = some (0, -1) ∧ σ' = σ) := by
  refine TT.steps (cd := cd32) 3 (c' := (3, [(2, 295), (0, w)], [(0, 5), (0, 0), (0, w)], σ)) rfl rfl ?_
  refine TT.call (cd := cd32) rfl rfl rfl (by decide) rfl (t_is X w 0 5 σ) (fun r1 σ1 hq => ?_)
  rw [hq.1, hq.2]
  refine TT.steps (cd := cd32) 1 (c' := ((if decide (((if 0 ≤ w ∧ w ≤ 5 then 1 else 0) : Int) = 0) = true then 10 else 5), [(2, 295), (0, w)], [], σ)) rfl rfl ?_
  refine TT.br (p := ((if 0 ≤ w ∧ w ≤ 5 then 1 else 0) : Int) = 0) (fun h2 => ?_) (fun h2 => ?_)
  · replace h2 := ite_f h2
    refine TT.steps (cd := cd32) 1 (c' := (11, [(2, 295), (0, w)], [(0, -1)], σ)) rfl rfl ?_
    exact TT.ret (cd := cd32) rfl rfl rfl rfl (⟨rfl, rfl⟩)
  · replace h2 := ite_t h2
    exfalso
    omega
theorem t_status1 (X : AX) (w : Nat) (σ : AH) (hw : w < 6)  : TT X 32 (0, [(2, 295), (0, ((w : Nat) : Int))], [], σ) (fun r σ' => r = some (0, σ 315 w) ∧ σ' = σ) := by
  refine TT.steps (cd := cd32) 3 (c' := (3, [(2, 295), (0, ((w : Nat) : Int))], [(0, 5), (0, 0), (0, ((w : Nat) : Int))], σ)) rfl rfl ?_
  refine TT.call (cd := cd32) rfl rfl rfl (by decide) rfl (t_is X ((w : Nat) : Int) 0 5 σ) (fun r1 σ1 hq => ?_)
  rw [hq.1, hq.2]
  refine TT.steps (cd := cd32) 1 (c' := ((if decide (((if 0 ≤ ((w : Nat) : Int) ∧ ((w : Nat) : Int) ≤ 5 then 1 else 0) : Int) = 0) = true then 10 else 5), [(2, 295), (0, ((w : Nat) : Int))], [], σ)) rfl rfl ?_
  refine TT.br (p := ((if 0 ≤ ((w : Nat) : Int) ∧ ((w : Nat) : Int) ≤ 5 then 1 else 0) : Int) = 0) (fun h2 => ?_) (fun h2 => ?_)
  · replace h2 := ite_f h2
    exfalso
    omega
  · replace h2 := ite_t h2
    refine TT.steps (cd := cd32) 3 (c' := (8, [(2, 295), (0, ((w : Nat) : Int))], [(0, ((w : Nat) : Int)), (2, 315)], σ)) rfl rfl ?_
    refine TT.aldN (cd := cd32) (315) (w) rfl rfl rfl rfl (show w < 6 by omega) ?_
    refine TT.steps (cd := cd32) 1 (c' := (11, [(2, 295), (0, ((w : Nat) : Int))], [(0, (σ 315 w))], σ)) rfl rfl ?_
    exact TT.ret (cd := cd32) rfl rfl rfl rfl (⟨rfl, rfl⟩)
theorem t_end (X : AX) (n : Int) (σ : AH)  : TT X 3 (0, [(2, 295), (0, n)], [], σ) (fun r σ' => (n < 0 ∨ σ 295 1 < n → r = some (0, 0) ∧ σ' = up2 σ 315 0 (aAdd (σ 315 0) 1)) ∧ (¬ (n < 0 ∨ σ 295 1 < n) → r = some (0, 1) ∧ σ' = up2 σ 295 1 n)) := by
  refine TT.steps (cd := cd3) 2 (c' := ((if decide (n < 0) = true then 6 else 2), [(2, 295), (0, n)], [], σ)) rfl rfl ?_
  refine TT.br (p := n < 0) (fun h1 => ?_) (fun h1 => ?_)
  · refine TT.steps (cd := cd3) 2 (c' := (8, [(2, 295), (0, n)], [(0, 0), (2, 295)], σ)) rfl rfl ?_
    refine TT.call (cd := cd3) rfl rfl rfl (by decide) rfl (t_refuses X 0 (by omega) σ) (fun r2 σ2 hq => ?_)
    rw [hq.1, hq.2]
    refine TT.steps (cd := cd3) 2 (c' := (13, [(2, 295), (0, n)], [(0, 0)], (up2 σ 315 0 (aAdd (σ 315 0) 1)))) rfl rfl ?_
    exact TT.ret (cd := cd3) rfl rfl rfl rfl (⟨fun hh => by first | exact ⟨rfl, rfl⟩ | (exfalso; omega), fun hh => by first | exact ⟨rfl, rfl⟩ | (exfalso; omega)⟩)
  · refine TT.steps (cd := cd3) 4 (c' := ((if decide (n ≤ (σ 295 1)) = true then 14 else 6), [(2, 295), (0, n)], [], σ)) rfl rfl ?_
    refine TT.br (p := n ≤ (σ 295 1)) (fun h3 => ?_) (fun h3 => ?_)
    · refine TT.steps (cd := cd3) 4 (c' := (18, [(2, 295), (0, n)], [(0, 1)], (up2 σ 295 1 n))) rfl rfl ?_
      exact TT.ret (cd := cd3) rfl rfl rfl rfl (⟨fun hh => by first | exact ⟨rfl, rfl⟩ | (exfalso; omega), fun hh => by first | exact ⟨rfl, rfl⟩ | (exfalso; omega)⟩)
    · refine TT.steps (cd := cd3) 2 (c' := (8, [(2, 295), (0, n)], [(0, 0), (2, 295)], σ)) rfl rfl ?_
      refine TT.call (cd := cd3) rfl rfl rfl (by decide) rfl (t_refuses X 0 (by omega) σ) (fun r4 σ4 hq => ?_)
      rw [hq.1, hq.2]
      refine TT.steps (cd := cd3) 2 (c' := (13, [(2, 295), (0, n)], [(0, 0)], (up2 σ 315 0 (aAdd (σ 315 0) 1)))) rfl rfl ?_
      exact TT.ret (cd := cd3) rfl rfl rfl rfl (⟨fun hh => by first | exact ⟨rfl, rfl⟩ | (exfalso; omega), fun hh => by first | exact ⟨rfl, rfl⟩ | (exfalso; omega)⟩)
/-- four bytes behind the tape -/
def mPut (σ : AH) (v : Int) (tp : Nat) : AH := (up2 (up2 (up2 (up2 (up2 (up2 (up2 (up2 σ 296 (tp) (aAnd (aShr v 24) 255)) 295 1 ((tp + 1 : Nat) : Int)) 296 (tp + 1) (aAnd (aShr v 16) 255)) 295 1 ((tp + 1 + 1 : Nat) : Int)) 296 (tp + 1 + 1) (aAnd (aShr v 8) 255)) 295 1 ((tp + 1 + 1 + 1 : Nat) : Int)) 296 (tp + 1 + 1 + 1) (aAnd (aShr v 0) 255)) 295 1 ((tp + 1 + 1 + 1 + 1 : Nat) : Int))
theorem mPut_t (σ : AH) (v : Int) (tp : Nat) : mPut σ v tp 295 1 = ((tp + 4 : Nat) : Int) := up2_hit _ _ _ _
theorem mPut_fr (σ : AH) (v : Int) (tp c j : Nat) (h : c ≠ 296 ∧ (c ≠ 295 ∨ j ≠ 1)) : mPut σ v tp c j = σ c j := by
  unfold mPut
  simp only [up2]
  repeat rw [if_neg (by omega)]
theorem t_put (X : AX) (v : Int) (tp : Nat) (ht : tp + 4 ≤ 1600) (σ : AH) (htp : σ 295 1 = (tp : Int))  : TT X 1 (0, [(2, 295), (0, v), (9, 0)], [], σ) (fun r σ' => r = none ∧ σ' = mPut σ v tp) := by
  refine TT.steps (cd := cd1) 8 (c' := (8, [(2, 295), (0, v), (0, 24)], [(0, (σ 295 1)), (2, 296)], σ)) rfl rfl ?_
  refine TT.top0 (z := ((tp : Nat) : Int)) htp ?_
  refine TT.steps (cd := cd1) 5 (c' := (13, [(2, 295), (0, v), (0, 24)], [(0, (aAnd (aShr v 24) 255)), (0, ((tp : Nat) : Int)), (2, 296)], σ)) rfl rfl ?_
  refine TT.astN (cd := cd1) (296) (tp) rfl rfl rfl rfl (show tp < 1800 by omega) ?_
  refine TT.steps (cd := cd1) 3 (c' := (17, [(2, 295), (0, v), (0, 24)], [(0, ((up2 σ 296 tp (aAnd (aShr v 24) 255)) 295 1)), (2, 295)], (up2 σ 296 tp (aAnd (aShr v 24) 255)))) rfl rfl ?_
  refine TT.top0 (z := ((tp : Nat) : Int)) ((up2_far (k := 296) (k' := 295) _ _ _ _ (by decide)).trans htp) ?_
  refine TT.steps (cd := cd1) 2 (c' := (19, [(2, 295), (0, v), (0, 24)], [(0, (aAdd ((tp : Nat) : Int) 1)), (2, 295)], (up2 σ 296 tp (aAnd (aShr v 24) 255)))) rfl rfl ?_
  refine TT.top0 (z := ((tp + 1 : Nat) : Int)) (aAdd_n (a := tp) (b := 1) (by omega)) ?_
  refine TT.steps (cd := cd1) 1 (c' := (20, [(2, 295), (0, v), (0, 24)], [], (up2 (up2 σ 296 tp (aAnd (aShr v 24) 255)) 295 1 ((tp + 1 : Nat) : Int)))) rfl rfl ?_
  refine TT.inc (cd := cd1) 16 rfl rfl rfl rfl (fun h => absurd h.2 (show ¬ (0 = 1) by decide)) (by decide) (ls' := [(2, 295), (0, v), (0, 16)]) rfl ?_
  refine TT.steps (cd := cd1) 7 (c' := (8, [(2, 295), (0, v), (0, 16)], [(0, ((up2 (up2 σ 296 tp (aAnd (aShr v 24) 255)) 295 1 ((tp + 1 : Nat) : Int)) 295 1)), (2, 296)], (up2 (up2 σ 296 tp (aAnd (aShr v 24) 255)) 295 1 ((tp + 1 : Nat) : Int)))) rfl rfl ?_
  refine TT.top0 (z := ((tp + 1 : Nat) : Int)) (up2_hit _ _ _ _) ?_
  refine TT.steps (cd := cd1) 5 (c' := (13, [(2, 295), (0, v), (0, 16)], [(0, (aAnd (aShr v 16) 255)), (0, ((tp + 1 : Nat) : Int)), (2, 296)], (up2 (up2 σ 296 tp (aAnd (aShr v 24) 255)) 295 1 ((tp + 1 : Nat) : Int)))) rfl rfl ?_
  refine TT.astN (cd := cd1) (296) (tp + 1) rfl rfl rfl rfl (show tp + 1 < 1800 by omega) ?_
  refine TT.steps (cd := cd1) 3 (c' := (17, [(2, 295), (0, v), (0, 16)], [(0, ((up2 (up2 (up2 σ 296 tp (aAnd (aShr v 24) 255)) 295 1 ((tp + 1 : Nat) : Int)) 296 (tp + 1) (aAnd (aShr v 16) 255)) 295 1)), (2, 295)], (up2 (up2 (up2 σ 296 tp (aAnd (aShr v 24) 255)) 295 1 ((tp + 1 : Nat) : Int)) 296 (tp + 1) (aAnd (aShr v 16) 255)))) rfl rfl ?_
  refine TT.top0 (z := ((tp + 1 : Nat) : Int)) ((up2_far (k := 296) (k' := 295) _ _ _ _ (by decide)).trans (up2_hit _ _ _ _)) ?_
  refine TT.steps (cd := cd1) 2 (c' := (19, [(2, 295), (0, v), (0, 16)], [(0, (aAdd ((tp + 1 : Nat) : Int) 1)), (2, 295)], (up2 (up2 (up2 σ 296 tp (aAnd (aShr v 24) 255)) 295 1 ((tp + 1 : Nat) : Int)) 296 (tp + 1) (aAnd (aShr v 16) 255)))) rfl rfl ?_
  refine TT.top0 (z := (((tp + 1) + 1 : Nat) : Int)) (aAdd_n (a := tp + 1) (b := 1) (by omega)) ?_
  refine TT.steps (cd := cd1) 1 (c' := (20, [(2, 295), (0, v), (0, 16)], [], (up2 (up2 (up2 (up2 σ 296 tp (aAnd (aShr v 24) 255)) 295 1 ((tp + 1 : Nat) : Int)) 296 (tp + 1) (aAnd (aShr v 16) 255)) 295 1 (((tp + 1) + 1 : Nat) : Int)))) rfl rfl ?_
  refine TT.inc (cd := cd1) 8 rfl rfl rfl rfl (fun h => absurd h.2 (show ¬ (0 = 1) by decide)) (by decide) (ls' := [(2, 295), (0, v), (0, 8)]) rfl ?_
  refine TT.steps (cd := cd1) 7 (c' := (8, [(2, 295), (0, v), (0, 8)], [(0, ((up2 (up2 (up2 (up2 σ 296 tp (aAnd (aShr v 24) 255)) 295 1 ((tp + 1 : Nat) : Int)) 296 (tp + 1) (aAnd (aShr v 16) 255)) 295 1 (((tp + 1) + 1 : Nat) : Int)) 295 1)), (2, 296)], (up2 (up2 (up2 (up2 σ 296 tp (aAnd (aShr v 24) 255)) 295 1 ((tp + 1 : Nat) : Int)) 296 (tp + 1) (aAnd (aShr v 16) 255)) 295 1 (((tp + 1) + 1 : Nat) : Int)))) rfl rfl ?_
  refine TT.top0 (z := (((tp + 1) + 1 : Nat) : Int)) (up2_hit _ _ _ _) ?_
  refine TT.steps (cd := cd1) 5 (c' := (13, [(2, 295), (0, v), (0, 8)], [(0, (aAnd (aShr v 8) 255)), (0, (((tp + 1) + 1 : Nat) : Int)), (2, 296)], (up2 (up2 (up2 (up2 σ 296 tp (aAnd (aShr v 24) 255)) 295 1 ((tp + 1 : Nat) : Int)) 296 (tp + 1) (aAnd (aShr v 16) 255)) 295 1 (((tp + 1) + 1 : Nat) : Int)))) rfl rfl ?_
  refine TT.astN (cd := cd1) (296) ((tp + 1) + 1) rfl rfl rfl rfl (show (tp + 1) + 1 < 1800 by omega) ?_
  refine TT.steps (cd := cd1) 3 (c' := (17, [(2, 295), (0, v), (0, 8)], [(0, ((up2 (up2 (up2 (up2 (up2 σ 296 tp (aAnd (aShr v 24) 255)) 295 1 ((tp + 1 : Nat) : Int)) 296 (tp + 1) (aAnd (aShr v 16) 255)) 295 1 (((tp + 1) + 1 : Nat) : Int)) 296 ((tp + 1) + 1) (aAnd (aShr v 8) 255)) 295 1)), (2, 295)], (up2 (up2 (up2 (up2 (up2 σ 296 tp (aAnd (aShr v 24) 255)) 295 1 ((tp + 1 : Nat) : Int)) 296 (tp + 1) (aAnd (aShr v 16) 255)) 295 1 (((tp + 1) + 1 : Nat) : Int)) 296 ((tp + 1) + 1) (aAnd (aShr v 8) 255)))) rfl rfl ?_
  refine TT.top0 (z := (((tp + 1) + 1 : Nat) : Int)) ((up2_far (k := 296) (k' := 295) _ _ _ _ (by decide)).trans (up2_hit _ _ _ _)) ?_
  refine TT.steps (cd := cd1) 2 (c' := (19, [(2, 295), (0, v), (0, 8)], [(0, (aAdd (((tp + 1) + 1 : Nat) : Int) 1)), (2, 295)], (up2 (up2 (up2 (up2 (up2 σ 296 tp (aAnd (aShr v 24) 255)) 295 1 ((tp + 1 : Nat) : Int)) 296 (tp + 1) (aAnd (aShr v 16) 255)) 295 1 (((tp + 1) + 1 : Nat) : Int)) 296 ((tp + 1) + 1) (aAnd (aShr v 8) 255)))) rfl rfl ?_
  refine TT.top0 (z := ((((tp + 1) + 1) + 1 : Nat) : Int)) (aAdd_n (a := (tp + 1) + 1) (b := 1) (by omega)) ?_
  refine TT.steps (cd := cd1) 1 (c' := (20, [(2, 295), (0, v), (0, 8)], [], (up2 (up2 (up2 (up2 (up2 (up2 σ 296 tp (aAnd (aShr v 24) 255)) 295 1 ((tp + 1 : Nat) : Int)) 296 (tp + 1) (aAnd (aShr v 16) 255)) 295 1 (((tp + 1) + 1 : Nat) : Int)) 296 ((tp + 1) + 1) (aAnd (aShr v 8) 255)) 295 1 ((((tp + 1) + 1) + 1 : Nat) : Int)))) rfl rfl ?_
  refine TT.inc (cd := cd1) 0 rfl rfl rfl rfl (fun h => absurd h.2 (show ¬ (0 = 1) by decide)) (by decide) (ls' := [(2, 295), (0, v), (0, 0)]) rfl ?_
  refine TT.steps (cd := cd1) 7 (c' := (8, [(2, 295), (0, v), (0, 0)], [(0, ((up2 (up2 (up2 (up2 (up2 (up2 σ 296 tp (aAnd (aShr v 24) 255)) 295 1 ((tp + 1 : Nat) : Int)) 296 (tp + 1) (aAnd (aShr v 16) 255)) 295 1 (((tp + 1) + 1 : Nat) : Int)) 296 ((tp + 1) + 1) (aAnd (aShr v 8) 255)) 295 1 ((((tp + 1) + 1) + 1 : Nat) : Int)) 295 1)), (2, 296)], (up2 (up2 (up2 (up2 (up2 (up2 σ 296 tp (aAnd (aShr v 24) 255)) 295 1 ((tp + 1 : Nat) : Int)) 296 (tp + 1) (aAnd (aShr v 16) 255)) 295 1 (((tp + 1) + 1 : Nat) : Int)) 296 ((tp + 1) + 1) (aAnd (aShr v 8) 255)) 295 1 ((((tp + 1) + 1) + 1 : Nat) : Int)))) rfl rfl ?_
  refine TT.top0 (z := ((((tp + 1) + 1) + 1 : Nat) : Int)) (up2_hit _ _ _ _) ?_
  refine TT.steps (cd := cd1) 5 (c' := (13, [(2, 295), (0, v), (0, 0)], [(0, (aAnd (aShr v 0) 255)), (0, ((((tp + 1) + 1) + 1 : Nat) : Int)), (2, 296)], (up2 (up2 (up2 (up2 (up2 (up2 σ 296 tp (aAnd (aShr v 24) 255)) 295 1 ((tp + 1 : Nat) : Int)) 296 (tp + 1) (aAnd (aShr v 16) 255)) 295 1 (((tp + 1) + 1 : Nat) : Int)) 296 ((tp + 1) + 1) (aAnd (aShr v 8) 255)) 295 1 ((((tp + 1) + 1) + 1 : Nat) : Int)))) rfl rfl ?_
  refine TT.astN (cd := cd1) (296) (((tp + 1) + 1) + 1) rfl rfl rfl rfl (show ((tp + 1) + 1) + 1 < 1800 by omega) ?_
  refine TT.steps (cd := cd1) 3 (c' := (17, [(2, 295), (0, v), (0, 0)], [(0, ((up2 (up2 (up2 (up2 (up2 (up2 (up2 σ 296 tp (aAnd (aShr v 24) 255)) 295 1 ((tp + 1 : Nat) : Int)) 296 (tp + 1) (aAnd (aShr v 16) 255)) 295 1 (((tp + 1) + 1 : Nat) : Int)) 296 ((tp + 1) + 1) (aAnd (aShr v 8) 255)) 295 1 ((((tp + 1) + 1) + 1 : Nat) : Int)) 296 (((tp + 1) + 1) + 1) (aAnd (aShr v 0) 255)) 295 1)), (2, 295)], (up2 (up2 (up2 (up2 (up2 (up2 (up2 σ 296 tp (aAnd (aShr v 24) 255)) 295 1 ((tp + 1 : Nat) : Int)) 296 (tp + 1) (aAnd (aShr v 16) 255)) 295 1 (((tp + 1) + 1 : Nat) : Int)) 296 ((tp + 1) + 1) (aAnd (aShr v 8) 255)) 295 1 ((((tp + 1) + 1) + 1 : Nat) : Int)) 296 (((tp + 1) + 1) + 1) (aAnd (aShr v 0) 255)))) rfl rfl ?_
  refine TT.top0 (z := ((((tp + 1) + 1) + 1 : Nat) : Int)) ((up2_far (k := 296) (k' := 295) _ _ _ _ (by decide)).trans (up2_hit _ _ _ _)) ?_
  refine TT.steps (cd := cd1) 2 (c' := (19, [(2, 295), (0, v), (0, 0)], [(0, (aAdd ((((tp + 1) + 1) + 1 : Nat) : Int) 1)), (2, 295)], (up2 (up2 (up2 (up2 (up2 (up2 (up2 σ 296 tp (aAnd (aShr v 24) 255)) 295 1 ((tp + 1 : Nat) : Int)) 296 (tp + 1) (aAnd (aShr v 16) 255)) 295 1 (((tp + 1) + 1 : Nat) : Int)) 296 ((tp + 1) + 1) (aAnd (aShr v 8) 255)) 295 1 ((((tp + 1) + 1) + 1 : Nat) : Int)) 296 (((tp + 1) + 1) + 1) (aAnd (aShr v 0) 255)))) rfl rfl ?_
  refine TT.top0 (z := (((((tp + 1) + 1) + 1) + 1 : Nat) : Int)) (aAdd_n (a := ((tp + 1) + 1) + 1) (b := 1) (by omega)) ?_
  refine TT.steps (cd := cd1) 1 (c' := (20, [(2, 295), (0, v), (0, 0)], [], (up2 (up2 (up2 (up2 (up2 (up2 (up2 (up2 σ 296 tp (aAnd (aShr v 24) 255)) 295 1 ((tp + 1 : Nat) : Int)) 296 (tp + 1) (aAnd (aShr v 16) 255)) 295 1 (((tp + 1) + 1 : Nat) : Int)) 296 ((tp + 1) + 1) (aAnd (aShr v 8) 255)) 295 1 ((((tp + 1) + 1) + 1 : Nat) : Int)) 296 (((tp + 1) + 1) + 1) (aAnd (aShr v 0) 255)) 295 1 (((((tp + 1) + 1) + 1) + 1 : Nat) : Int)))) rfl rfl ?_
  refine TT.inc (cd := cd1) (-8) rfl rfl rfl rfl (fun h => absurd h.2 (show ¬ (0 = 1) by decide)) (by decide) (ls' := [(2, 295), (0, v), (0, -8)]) rfl ?_
  refine TT.steps (cd := cd1) 3 (c' := (22, [(2, 295), (0, v), (0, -8)], [], (up2 (up2 (up2 (up2 (up2 (up2 (up2 (up2 σ 296 tp (aAnd (aShr v 24) 255)) 295 1 ((tp + 1 : Nat) : Int)) 296 (tp + 1) (aAnd (aShr v 16) 255)) 295 1 (((tp + 1) + 1 : Nat) : Int)) 296 ((tp + 1) + 1) (aAnd (aShr v 8) 255)) 295 1 ((((tp + 1) + 1) + 1 : Nat) : Int)) 296 (((tp + 1) + 1) + 1) (aAnd (aShr v 0) 255)) 295 1 (((((tp + 1) + 1) + 1) + 1 : Nat) : Int)))) rfl rfl ?_
  exact TT.ret (cd := cd1) rfl rfl rfl rfl (⟨rfl, rfl⟩)
theorem t_feed0 (X : AX) (a b c d e : Int) (tp : Nat) (ht : 1600 < tp + 20) (ht2 : tp ≤ 1600) (σ : AH) (htp : σ 295 1 = (tp : Int))  : TT X 2 (0, [(2, 295), (0, a), (0, b), (0, c), (0, d), (0, e)], [], σ) (fun r σ' => r = some (0, -1) ∧ σ' = up2 σ 315 0 (aAdd (σ 315 0) 1)) := by
  refine TT.steps (cd := cd2) 2 (c' := (2, [(2, 295), (0, a), (0, b), (0, c), (0, d), (0, e)], [(0, (σ 295 1))], σ)) rfl rfl ?_
  refine TT.top0 (z := ((tp : Nat) : Int)) htp ?_
  refine TT.steps (cd := cd2) 2 (c' := (4, [(2, 295), (0, a), (0, b), (0, c), (0, d), (0, e)], [(0, (aAdd ((tp : Nat) : Int) 20))], σ)) rfl rfl ?_
  refine TT.top0 (z := ((tp + 20 : Nat) : Int)) (aAdd_n (a := tp) (b := 20) (by omega)) ?_
  refine TT.steps (cd := cd2) 2 (c' := ((if decide (((tp + 20 : Nat) : Int) ≤ 1600) = true then 10 else 6), [(2, 295), (0, a), (0, b), (0, c), (0, d), (0, e)], [], σ)) rfl rfl ?_
  refine TT.br (p := ((tp + 20 : Nat) : Int) ≤ 1600) (fun h1 => absurd h1 (show ¬ (((tp + 20 : Nat) : Int) ≤ 1600) by omega)) (fun h1 => ?_)
  refine TT.steps (cd := cd2) 2 (c' := (8, [(2, 295), (0, a), (0, b), (0, c), (0, d), (0, e)], [(0, 0), (2, 295)], σ)) rfl rfl ?_
  refine TT.call (cd := cd2) rfl rfl rfl (by decide) rfl (t_refuses X 0 (by omega) σ) (fun r2 σ2 hq => ?_)
  rw [hq.1, hq.2]
  exact TT.ret (cd := cd2) rfl rfl rfl rfl (⟨rfl, rfl⟩)
theorem t_feed1 (X : AX) (a b c d e : Int) (tp : Nat) (ht : tp + 20 ≤ 1600) (σ : AH) (htp : σ 295 1 = (tp : Int))  : TT X 2 (0, [(2, 295), (0, a), (0, b), (0, c), (0, d), (0, e)], [], σ) (fun r σ' => r = some (0, ((tp + 20 : Nat) : Int)) ∧ σ' = mPut (mPut (mPut (mPut (mPut σ a tp) b (tp + 4)) c (tp + 8)) d (tp + 12)) e (tp + 16)) := by
  refine TT.steps (cd := cd2) 2 (c' := (2, [(2, 295), (0, a), (0, b), (0, c), (0, d), (0, e)], [(0, (σ 295 1))], σ)) rfl rfl ?_
  refine TT.top0 (z := ((tp : Nat) : Int)) htp ?_
  refine TT.steps (cd := cd2) 2 (c' := (4, [(2, 295), (0, a), (0, b), (0, c), (0, d), (0, e)], [(0, (aAdd ((tp : Nat) : Int) 20))], σ)) rfl rfl ?_
  refine TT.top0 (z := ((tp + 20 : Nat) : Int)) (aAdd_n (a := tp) (b := 20) (by omega)) ?_
  refine TT.steps (cd := cd2) 2 (c' := ((if decide (((tp + 20 : Nat) : Int) ≤ 1600) = true then 10 else 6), [(2, 295), (0, a), (0, b), (0, c), (0, d), (0, e)], [], σ)) rfl rfl ?_
  refine TT.br (p := ((tp + 20 : Nat) : Int) ≤ 1600) (fun h1 => ?_) (fun h1 => absurd (show ((tp + 20 : Nat) : Int) ≤ 1600 by omega) h1)
  refine TT.steps (cd := cd2) 2 (c' := (12, [(2, 295), (0, a), (0, b), (0, c), (0, d), (0, e)], [(0, a), (2, 295)], σ)) rfl rfl ?_
  refine TT.call (cd := cd2) rfl rfl rfl (by decide) rfl (t_put X a (tp) (by omega) σ htp) (fun r2 σ2 hq => ?_)
  rw [hq.1, hq.2]
  refine TT.steps (cd := cd2) 2 (c' := (15, [(2, 295), (0, a), (0, b), (0, c), (0, d), (0, e)], [(0, b), (2, 295)], (mPut σ a (tp)))) rfl rfl ?_
  refine TT.call (cd := cd2) rfl rfl rfl (by decide) rfl (t_put X b (tp + 4) (by omega) (mPut σ a (tp)) (mPut_t _ _ _)) (fun r3 σ3 hq => ?_)
  rw [hq.1, hq.2]
  refine TT.steps (cd := cd2) 2 (c' := (18, [(2, 295), (0, a), (0, b), (0, c), (0, d), (0, e)], [(0, c), (2, 295)], (mPut (mPut σ a (tp)) b (tp + 4)))) rfl rfl ?_
  refine TT.call (cd := cd2) rfl rfl rfl (by decide) rfl (t_put X c (tp + 8) (by omega) (mPut (mPut σ a (tp)) b (tp + 4)) (mPut_t _ _ _)) (fun r4 σ4 hq => ?_)
  rw [hq.1, hq.2]
  refine TT.steps (cd := cd2) 2 (c' := (21, [(2, 295), (0, a), (0, b), (0, c), (0, d), (0, e)], [(0, d), (2, 295)], (mPut (mPut (mPut σ a (tp)) b (tp + 4)) c (tp + 8)))) rfl rfl ?_
  refine TT.call (cd := cd2) rfl rfl rfl (by decide) rfl (t_put X d (tp + 12) (by omega) (mPut (mPut (mPut σ a (tp)) b (tp + 4)) c (tp + 8)) (mPut_t _ _ _)) (fun r5 σ5 hq => ?_)
  rw [hq.1, hq.2]
  refine TT.steps (cd := cd2) 2 (c' := (24, [(2, 295), (0, a), (0, b), (0, c), (0, d), (0, e)], [(0, e), (2, 295)], (mPut (mPut (mPut (mPut σ a (tp)) b (tp + 4)) c (tp + 8)) d (tp + 12)))) rfl rfl ?_
  refine TT.call (cd := cd2) rfl rfl rfl (by decide) rfl (t_put X e (tp + 16) (by omega) (mPut (mPut (mPut (mPut σ a (tp)) b (tp + 4)) c (tp + 8)) d (tp + 12)) (mPut_t _ _ _)) (fun r6 σ6 hq => ?_)
  rw [hq.1, hq.2]
  refine TT.steps (cd := cd2) 2 (c' := (27, [(2, 295), (0, a), (0, b), (0, c), (0, d), (0, e)], [(0, ((mPut (mPut (mPut (mPut (mPut σ a (tp)) b (tp + 4)) c (tp + 8)) d (tp + 12)) e (tp + 16)) 295 1))], (mPut (mPut (mPut (mPut (mPut σ a (tp)) b (tp + 4)) c (tp + 8)) d (tp + 12)) e (tp + 16)))) rfl rfl ?_
  refine TT.top0 (z := ((tp + 20 : Nat) : Int)) (mPut_t _ _ _) ?_
  exact TT.ret (cd := cd2) rfl rfl rfl rfl (⟨rfl, rfl⟩)
theorem t_goodOf (X : AX) (np nt : Nat) (L : Nat → Nat) (σ : AH) {b v : Nat} (hb : σ 295 13 = (b : Int)) (hb2 : b < 2) (hv2 : v < 22) (hnp : σ 307 b = (np : Int)) (hnp2 : np ≤ 10) (hnt : σ 300 b = (nt : Int)) (hnt2 : nt ≤ 6) (hL : ∀ t, t < nt → σ 304 (6 * b + t) = (L t : Int) ∧ 2 ≤ L t ∧ L t ≤ 8)  : TT X 59 (0, [(2, 295), (0, ((v : Nat) : Int))], [], σ) (fun r σ' => r = some (0, mGood (mDay σ b v np nt L) v np) ∧ σ' = mDay σ b v np nt L) := by
  refine TT.steps (cd := cd59) 2 (c' := (2, [(2, 295), (0, ((v : Nat) : Int))], [(0, ((v : Nat) : Int)), (2, 295)], σ)) rfl rfl ?_
  refine TT.call (cd := cd59) rfl rfl rfl (by decide) rfl (t_dayOf X np nt L σ (v := v) hb hb2 (by omega) hnp hnp2 hnt hnt2 hL) (fun r1 σ1 hq => ?_)
  rw [hq.1, hq.2]
  refine TT.steps (cd := cd59) 1 (c' := (4, [(2, 295), (0, ((v : Nat) : Int))], [(2, 295)], (mDay σ b v np nt L))) rfl rfl ?_
  refine TT.call (cd := cd59) rfl rfl rfl (by decide) rfl (t_good X np (mDay σ b v np nt L) ((mDay_M _ _ _ _ _ _ (13) (by decide)).trans hb) hb2 (mDay_l _ _ _ _ _ _) (by omega) ((mDay_fr _ _ _ _ _ _ 307 (b) (by decide)).trans hnp) hnp2) (fun r2 σ2 hq => ?_)
  rw [hq.1, hq.2]
  exact TT.ret (cd := cd59) rfl rfl rfl rfl (⟨rfl, rfl⟩)
/-- the heap behind n stations that were asked for -/
def mL0 (σ : AH) : Nat → AH
  | 0 => σ
  | _ + 1 => up2 σ 295 46 0
theorem mL0_s (σ : AH) (n : Nat) : up2 (mL0 σ n) 295 46 0 = mL0 σ (n + 1) := by
  cases n with
  | zero => rfl
  | succ n =>
    funext k j
    simp only [mL0, up2]
    split <;> rfl
theorem mL0_fr (σ : AH) (n c j : Nat) (h : c ≠ 295 ∨ j ≠ 46) : mL0 σ n c j = σ c j := by
  cases n with
  | zero => rfl
  | succ n =>
    simp only [mL0, up2]
    rw [if_neg (by omega)]
theorem mAnyB_c {σ τ : AH} (v np : Nat) (s : Int) (h : ∀ j, τ 318 j = σ 318 j) (h2 : ∀ j, τ 319 j = σ 319 j) : mAnyB τ v np s = mAnyB σ v np s := by
  simp only [mAnyB, h, h2]
theorem ite_n1 {p : Prop} [Decidable p] (h : ¬ (if p then (0 : Int) else 1) = 0) : (if p then (0 : Int) else 1) = 1 := by
  by_cases hp : p
  · rw [if_pos hp] at h; exact absurd rfl h
  · rw [if_neg hp]
def mDM (σ : AH) (np ns : Nat) : Int := sumA (fun s => if mAnyB σ 0 np (s : Int) = true then 0 else 1) ns
theorem l_deadMany (X : AX) (np ns : Nat) (σ : AH) {b : Nat} (hb : σ 295 13 = (b : Int)) (hb2 : b < 2) (hnp : σ 307 b = (np : Int)) (hnp2 : np ≤ 10) (hns : σ 297 b = (ns : Int)) (hns2 : ns ≤ 14) : ∀ (d n : Nat), n + d = ns → TT X 63 (4, [(2, 295), (0, (sumA (fun s => if mAnyB σ 0 np ((s : Nat) : Int) = true then 0 else 1) n)), (0, ((n : Nat) : Int))], [], (mL0 σ n)) (fun r σ' => r = some (0, mDM σ np ns) ∧ σ' = mL0 σ ns) := by
  intro d
  induction d with
  | zero =>
    intro n hn
    have hnn : n = ns := by omega
    refine TT.steps (cd := cd63) 5 (c' := (9, [(2, 295), (0, (sumA (fun s => if mAnyB σ 0 np ((s : Nat) : Int) = true then 0 else 1) n)), (0, ((n : Nat) : Int))], [(0, ((mL0 σ n) 295 13)), (2, 297), (0, ((n : Nat) : Int))], (mL0 σ n))) rfl rfl ?_
    refine TT.top0 (z := ((b : Nat) : Int)) ((mL0_fr _ _ _ (13) (Or.inr (by decide))).trans hb) ?_
    refine TT.aldN (cd := cd63) (297) (b) rfl rfl rfl rfl (show b < 2 by omega) ?_
    refine TT.top0 (z := ((ns : Nat) : Int)) ((mL0_fr _ _ 297 (b) (Or.inl (by decide))).trans hns) ?_
    refine TT.steps (cd := cd63) 1 (c' := ((if decide (((ns : Nat) : Int) ≤ ((n : Nat) : Int)) = true then 24 else 11), [(2, 295), (0, (sumA (fun s => if mAnyB σ 0 np ((s : Nat) : Int) = true then 0 else 1) n)), (0, ((n : Nat) : Int))], [], (mL0 σ n))) rfl rfl ?_
    refine TT.br (p := ((ns : Nat) : Int) ≤ ((n : Nat) : Int)) (fun h1 => ?_) (fun h1 => absurd (show ((ns : Nat) : Int) ≤ ((n : Nat) : Int) by omega) h1)
    refine TT.steps (cd := cd63) 1 (c' := (25, [(2, 295), (0, (sumA (fun s => if mAnyB σ 0 np ((s : Nat) : Int) = true then 0 else 1) n)), (0, ((n : Nat) : Int))], [(0, (sumA (fun s => if mAnyB σ 0 np ((s : Nat) : Int) = true then 0 else 1) n))], (mL0 σ n))) rfl rfl ?_
    exact TT.ret (cd := cd63) rfl rfl rfl rfl (⟨by rw [hnn]; rfl, by rw [hnn]⟩)
  | succ d ih =>
    intro n hn
    refine TT.steps (cd := cd63) 5 (c' := (9, [(2, 295), (0, (sumA (fun s => if mAnyB σ 0 np ((s : Nat) : Int) = true then 0 else 1) n)), (0, ((n : Nat) : Int))], [(0, ((mL0 σ n) 295 13)), (2, 297), (0, ((n : Nat) : Int))], (mL0 σ n))) rfl rfl ?_
    refine TT.top0 (z := ((b : Nat) : Int)) ((mL0_fr _ _ _ (13) (Or.inr (by decide))).trans hb) ?_
    refine TT.aldN (cd := cd63) (297) (b) rfl rfl rfl rfl (show b < 2 by omega) ?_
    refine TT.top0 (z := ((ns : Nat) : Int)) ((mL0_fr _ _ 297 (b) (Or.inl (by decide))).trans hns) ?_
    refine TT.steps (cd := cd63) 1 (c' := ((if decide (((ns : Nat) : Int) ≤ ((n : Nat) : Int)) = true then 24 else 11), [(2, 295), (0, (sumA (fun s => if mAnyB σ 0 np ((s : Nat) : Int) = true then 0 else 1) n)), (0, ((n : Nat) : Int))], [], (mL0 σ n))) rfl rfl ?_
    refine TT.br (p := ((ns : Nat) : Int) ≤ ((n : Nat) : Int)) (fun h1 => absurd h1 (show ¬ (((ns : Nat) : Int) ≤ ((n : Nat) : Int)) by omega)) (fun h1 => ?_)
    refine TT.steps (cd := cd63) 4 (c' := (15, [(2, 295), (0, (sumA (fun s => if mAnyB σ 0 np ((s : Nat) : Int) = true then 0 else 1) n)), (0, ((n : Nat) : Int))], [(0, ((n : Nat) : Int)), (0, 0), (2, 295), (0, (sumA (fun s => if mAnyB σ 0 np ((s : Nat) : Int) = true then 0 else 1) n))], (mL0 σ n))) rfl rfl ?_
    refine TT.call (cd := cd63) rfl rfl rfl (by decide) rfl (t_isDead X np 0 ((n : Nat) : Int) (by decide) (mL0 σ n) ((mL0_fr _ _ _ (13) (Or.inr (by decide))).trans hb) hb2 ((mL0_fr _ _ 307 (b) (Or.inl (by decide))).trans hnp) hnp2) (fun r2 σ2 hq => ?_)
    rw [hq.1, hq.2, mAnyB_c (σ := σ) _ _ _ (fun j => mL0_fr _ _ _ _ (Or.inl (by decide))) (fun j => mL0_fr _ _ _ _ (Or.inl (by decide)))]
    refine TT.steps (cd := cd63) 1 (c' := ((if decide (((if mAnyB σ 0 np ((n : Nat) : Int) = true then 0 else 1) : Int) = 0) = true then 19 else 17), [(2, 295), (0, (sumA (fun s => if mAnyB σ 0 np ((s : Nat) : Int) = true then 0 else 1) n)), (0, ((n : Nat) : Int))], [(0, (sumA (fun s => if mAnyB σ 0 np ((s : Nat) : Int) = true then 0 else 1) n))], (up2 (mL0 σ n) 295 46 0))) rfl rfl ?_
    refine TT.br (p := ((if mAnyB σ 0 np ((n : Nat) : Int) = true then 0 else 1) : Int) = 0) (fun h3 => ?_) (fun h3 => ?_)
    · refine TT.steps (cd := cd63) 2 (c' := (21, [(2, 295), (0, (sumA (fun s => if mAnyB σ 0 np ((s : Nat) : Int) = true then 0 else 1) n)), (0, ((n : Nat) : Int))], [(0, (aAdd (sumA (fun s => if mAnyB σ 0 np ((s : Nat) : Int) = true then 0 else 1) n) 0))], (up2 (mL0 σ n) 295 46 0))) rfl rfl ?_
      refine TT.steps (cd := cd63) 1 (c' := (22, [(2, 295), (0, (aAdd (sumA (fun s => if mAnyB σ 0 np ((s : Nat) : Int) = true then 0 else 1) n) 0)), (0, ((n : Nat) : Int))], [], (up2 (mL0 σ n) 295 46 0))) rfl rfl ?_
      refine TT.inc (cd := cd63) ((n + 1 : Nat) : Int) rfl rfl rfl rfl (fun h => absurd h.2 (show ¬ (0 = 1) by decide)) (aAdd_n (a := n) (b := 1) (by omega)) (ls' := [(2, 295), (0, (aAdd (sumA (fun s => if mAnyB σ 0 np ((s : Nat) : Int) = true then 0 else 1) n) 0)), (0, ((n + 1 : Nat) : Int))]) rfl ?_
      refine TT.steps (cd := cd63) 1 (c' := (4, [(2, 295), (0, (aAdd (sumA (fun s => if mAnyB σ 0 np ((s : Nat) : Int) = true then 0 else 1) n) 0)), (0, ((n + 1 : Nat) : Int))], [], (up2 (mL0 σ n) 295 46 0))) rfl rfl ?_
      refine TT.sg (σ' := mL0 σ (n + 1)) (mL0_s _ _) ?_
      have := ih (n + 1) (by omega)
      simp only [sumA] at this
      first | (rw [h3] at this; exact this) | (rw [ite_n1 h3] at this; exact this)
    · refine TT.steps (cd := cd63) 3 (c' := (21, [(2, 295), (0, (sumA (fun s => if mAnyB σ 0 np ((s : Nat) : Int) = true then 0 else 1) n)), (0, ((n : Nat) : Int))], [(0, (aAdd (sumA (fun s => if mAnyB σ 0 np ((s : Nat) : Int) = true then 0 else 1) n) 1))], (up2 (mL0 σ n) 295 46 0))) rfl rfl ?_
      refine TT.steps (cd := cd63) 1 (c' := (22, [(2, 295), (0, (aAdd (sumA (fun s => if mAnyB σ 0 np ((s : Nat) : Int) = true then 0 else 1) n) 1)), (0, ((n : Nat) : Int))], [], (up2 (mL0 σ n) 295 46 0))) rfl rfl ?_
      refine TT.inc (cd := cd63) ((n + 1 : Nat) : Int) rfl rfl rfl rfl (fun h => absurd h.2 (show ¬ (0 = 1) by decide)) (aAdd_n (a := n) (b := 1) (by omega)) (ls' := [(2, 295), (0, (aAdd (sumA (fun s => if mAnyB σ 0 np ((s : Nat) : Int) = true then 0 else 1) n) 1)), (0, ((n + 1 : Nat) : Int))]) rfl ?_
      refine TT.steps (cd := cd63) 1 (c' := (4, [(2, 295), (0, (aAdd (sumA (fun s => if mAnyB σ 0 np ((s : Nat) : Int) = true then 0 else 1) n) 1)), (0, ((n + 1 : Nat) : Int))], [], (up2 (mL0 σ n) 295 46 0))) rfl rfl ?_
      refine TT.sg (σ' := mL0 σ (n + 1)) (mL0_s _ _) ?_
      have := ih (n + 1) (by omega)
      simp only [sumA] at this
      first | (rw [h3] at this; exact this) | (rw [ite_n1 h3] at this; exact this)
theorem t_deadMany (X : AX) (np ns : Nat) (σ : AH) {b : Nat} (hb : σ 295 13 = (b : Int)) (hb2 : b < 2) (hnp : σ 307 b = (np : Int)) (hnp2 : np ≤ 10) (hns : σ 297 b = (ns : Int)) (hns2 : ns ≤ 14)  : TT X 63 (0, [(2, 295), (9, 0), (9, 0)], [], σ) (fun r σ' => r = some (0, mDM σ np ns) ∧ σ' = mL0 σ ns) := by
  refine TT.steps (cd := cd63) 4 (c' := (4, [(2, 295), (0, 0), (0, 0)], [], σ)) rfl rfl ?_
  exact l_deadMany X np ns σ hb hb2 hnp hnp2 hns hns2 ns 0 (by omega)
theorem t_stops0 (X : AX) (t k : Int) (w : Int) (np nt : Nat) (L : Nat → Nat) (σ : AH) {b : Nat} (hb : σ 295 13 = (b : Int)) (hb2 : b < 2) (hnp : σ 307 b = (np : Int)) (hnp2 : np ≤ 10) (hnt : σ 300 b = (nt : Int)) (hnt2 : nt ≤ 6) (hL : ∀ t, t < nt → σ 304 (6 * b + t) = (L t : Int) ∧ 2 ≤ L t ∧ L t ≤ 8) (ht : ¬ (0 ≤ t ∧ t < (nt : Int)))  : TT X 78 (0, [(2, 295), (0, t), (0, k), (0, w), (9, 0)], [], σ) (fun r σ' => r = some (0, -1) ∧ σ' = σ) := by
  refine TT.steps (cd := cd78) 2 (c' := (2, [(2, 295), (0, t), (0, k), (0, w), (9, 0)], [(0, t), (2, 295)], σ)) rfl rfl ?_
  refine TT.call (cd := cd78) rfl rfl rfl (by decide) rfl (t_isTrain X t σ hb hb2) (fun r1 σ1 hq => ?_)
  rw [hq.1, hq.2, hnt]
  refine TT.steps (cd := cd78) 1 (c' := ((if decide (((if 0 ≤ t ∧ t < (nt : Int) then 1 else 0) : Int) = 0) = true then 13 else 4), [(2, 295), (0, t), (0, k), (0, w), (9, 0)], [], σ)) rfl rfl ?_
  refine TT.br (p := ((if 0 ≤ t ∧ t < (nt : Int) then 1 else 0) : Int) = 0) (fun h2 => ?_) (fun h2 => ?_)
  · replace h2 := ite_f h2
    refine TT.steps (cd := cd78) 1 (c' := (14, [(2, 295), (0, t), (0, k), (0, w), (9, 0)], [(0, -1)], σ)) rfl rfl ?_
    exact TT.ret (cd := cd78) rfl rfl rfl rfl (⟨rfl, rfl⟩)
  · replace h2 := ite_t h2
    exact absurd (by assumption) ht
theorem t_stops1 (X : AX) (t : Nat) (k : Int) (w : Int) (np nt : Nat) (L : Nat → Nat) (σ : AH) {b : Nat} (hb : σ 295 13 = (b : Int)) (hb2 : b < 2) (hnp : σ 307 b = (np : Int)) (hnp2 : np ≤ 10) (hnt : σ 300 b = (nt : Int)) (hnt2 : nt ≤ 6) (hL : ∀ t, t < nt → σ 304 (6 * b + t) = (L t : Int) ∧ 2 ≤ L t ∧ L t ≤ 8) (ht : t < nt) (hk : ¬ (0 ≤ k ∧ k < (L t : Int)))  : TT X 78 (0, [(2, 295), (0, ((t : Nat) : Int)), (0, k), (0, w), (9, 0)], [], σ) (fun r σ' => r = some (0, -1) ∧ σ' = σ) := by
  refine TT.steps (cd := cd78) 2 (c' := (2, [(2, 295), (0, ((t : Nat) : Int)), (0, k), (0, w), (9, 0)], [(0, ((t : Nat) : Int)), (2, 295)], σ)) rfl rfl ?_
  refine TT.call (cd := cd78) rfl rfl rfl (by decide) rfl (t_isTrain X ((t : Nat) : Int) σ hb hb2) (fun r1 σ1 hq => ?_)
  rw [hq.1, hq.2, hnt]
  refine TT.steps (cd := cd78) 1 (c' := ((if decide (((if 0 ≤ ((t : Nat) : Int) ∧ ((t : Nat) : Int) < (nt : Int) then 1 else 0) : Int) = 0) = true then 13 else 4), [(2, 295), (0, ((t : Nat) : Int)), (0, k), (0, w), (9, 0)], [], σ)) rfl rfl ?_
  refine TT.br (p := ((if 0 ≤ ((t : Nat) : Int) ∧ ((t : Nat) : Int) < (nt : Int) then 1 else 0) : Int) = 0) (fun h2 => absurd h2 (show ¬ (((if 0 ≤ ((t : Nat) : Int) ∧ ((t : Nat) : Int) < (nt : Int) then 1 else 0) : Int) = 0) by (rw [if_pos ⟨by omega, by omega⟩]; decide))) (fun h2 => ?_)
  refine TT.steps (cd := cd78) 4 (c' := (8, [(2, 295), (0, ((t : Nat) : Int)), (0, k), (0, w), (9, 0)], [(0, ((t : Nat) : Int)), (2, 295), (0, 0), (0, k)], σ)) rfl rfl ?_
  refine TT.call (cd := cd78) rfl rfl rfl (by decide) rfl (t_callsOf X t (by omega) σ hb hb2) (fun r3 σ3 hq => ?_)
  rw [hq.1, hq.2]
  refine TT.top0 (z := (((L t) : Nat) : Int)) (hL t ht).1 ?_
  refine TT.steps (cd := cd78) 2 (c' := (11, [(2, 295), (0, ((t : Nat) : Int)), (0, k), (0, w), (9, 0)], [(0, (aSub (((L t) : Nat) : Int) 1)), (0, 0), (0, k)], σ)) rfl rfl ?_
  refine TT.top0 (z := ((((L t)) - 1 : Nat) : Int)) (aSub_n (a := (L t)) (b := 1) (by (have := hL t ht; omega)) (by (have := hL t ht; omega))) ?_
  refine TT.call (cd := cd78) rfl rfl rfl (by decide) rfl (t_is X k 0 ((((L t)) - 1 : Nat) : Int) σ) (fun r4 σ4 hq => ?_)
  rw [hq.1, hq.2]
  refine TT.steps (cd := cd78) 1 (c' := ((if decide (¬ ((if 0 ≤ k ∧ k ≤ ((((L t)) - 1 : Nat) : Int) then 1 else 0) : Int) = 0) = true then 15 else 13), [(2, 295), (0, ((t : Nat) : Int)), (0, k), (0, w), (9, 0)], [], σ)) rfl rfl ?_
  refine TT.br (p := ¬ ((if 0 ≤ k ∧ k ≤ ((((L t)) - 1 : Nat) : Int) then 1 else 0) : Int) = 0) (fun h5 => ?_) (fun h5 => ?_)
  · replace h5 := ite_t h5
    exfalso
    have := hL t ht
    omega
  · replace h5 := ite_f (Decidable.not_not.mp h5)
    refine TT.steps (cd := cd78) 1 (c' := (14, [(2, 295), (0, ((t : Nat) : Int)), (0, k), (0, w), (9, 0)], [(0, -1)], σ)) rfl rfl ?_
    exact TT.ret (cd := cd78) rfl rfl rfl rfl (⟨rfl, rfl⟩)
theorem t_stops2 (X : AX) (t k : Nat) (w : Int) (np nt : Nat) (L : Nat → Nat) (σ : AH) {b : Nat} (hb : σ 295 13 = (b : Int)) (hb2 : b < 2) (hnp : σ 307 b = (np : Int)) (hnp2 : np ≤ 10) (hnt : σ 300 b = (nt : Int)) (hnt2 : nt ≤ 6) (hL : ∀ t, t < nt → σ 304 (6 * b + t) = (L t : Int) ∧ 2 ≤ L t ∧ L t ≤ 8) (ht : t < nt) (hk : k < L t)  : TT X 78 (0, [(2, 295), (0, ((t : Nat) : Int)), (0, ((k : Nat) : Int)), (0, w), (9, 0)], [], σ) (fun r σ' => r = some (0, if w = 0 then (mDay σ b 0 np nt L) 325 (8 * t + k) else if w = 1 then (mDay σ b 0 np nt L) 326 (8 * t + k) else if w = 2 then (mDay σ b 0 np nt L) 327 (8 * t + k) else if w = 3 then (mDay σ b 0 np nt L) 328 (8 * t + k) else if w = 4 then (mDay σ b 0 np nt L) 329 (8 * t + k) else if w = 5 then (mDay σ b 0 np nt L) 330 (8 * t + k) else -1) ∧ σ' = (mDay σ b 0 np nt L)) := by
  refine TT.steps (cd := cd78) 2 (c' := (2, [(2, 295), (0, ((t : Nat) : Int)), (0, ((k : Nat) : Int)), (0, w), (9, 0)], [(0, ((t : Nat) : Int)), (2, 295)], σ)) rfl rfl ?_
  refine TT.call (cd := cd78) rfl rfl rfl (by decide) rfl (t_isTrain X ((t : Nat) : Int) σ hb hb2) (fun r1 σ1 hq => ?_)
  rw [hq.1, hq.2, hnt]
  refine TT.steps (cd := cd78) 1 (c' := ((if decide (((if 0 ≤ ((t : Nat) : Int) ∧ ((t : Nat) : Int) < (nt : Int) then 1 else 0) : Int) = 0) = true then 13 else 4), [(2, 295), (0, ((t : Nat) : Int)), (0, ((k : Nat) : Int)), (0, w), (9, 0)], [], σ)) rfl rfl ?_
  refine TT.br (p := ((if 0 ≤ ((t : Nat) : Int) ∧ ((t : Nat) : Int) < (nt : Int) then 1 else 0) : Int) = 0) (fun h2 => absurd h2 (show ¬ (((if 0 ≤ ((t : Nat) : Int) ∧ ((t : Nat) : Int) < (nt : Int) then 1 else 0) : Int) = 0) by (rw [if_pos ⟨by omega, by omega⟩]; decide))) (fun h2 => ?_)
  refine TT.steps (cd := cd78) 4 (c' := (8, [(2, 295), (0, ((t : Nat) : Int)), (0, ((k : Nat) : Int)), (0, w), (9, 0)], [(0, ((t : Nat) : Int)), (2, 295), (0, 0), (0, ((k : Nat) : Int))], σ)) rfl rfl ?_
  refine TT.call (cd := cd78) rfl rfl rfl (by decide) rfl (t_callsOf X t (by omega) σ hb hb2) (fun r3 σ3 hq => ?_)
  rw [hq.1, hq.2]
  refine TT.top0 (z := (((L t) : Nat) : Int)) (hL t ht).1 ?_
  refine TT.steps (cd := cd78) 2 (c' := (11, [(2, 295), (0, ((t : Nat) : Int)), (0, ((k : Nat) : Int)), (0, w), (9, 0)], [(0, (aSub (((L t) : Nat) : Int) 1)), (0, 0), (0, ((k : Nat) : Int))], σ)) rfl rfl ?_
  refine TT.top0 (z := ((((L t)) - 1 : Nat) : Int)) (aSub_n (a := (L t)) (b := 1) (by (have := hL t ht; omega)) (by (have := hL t ht; omega))) ?_
  refine TT.call (cd := cd78) rfl rfl rfl (by decide) rfl (t_is X ((k : Nat) : Int) 0 ((((L t)) - 1 : Nat) : Int) σ) (fun r4 σ4 hq => ?_)
  rw [hq.1, hq.2]
  refine TT.steps (cd := cd78) 1 (c' := ((if decide (¬ ((if 0 ≤ ((k : Nat) : Int) ∧ ((k : Nat) : Int) ≤ ((((L t)) - 1 : Nat) : Int) then 1 else 0) : Int) = 0) = true then 15 else 13), [(2, 295), (0, ((t : Nat) : Int)), (0, ((k : Nat) : Int)), (0, w), (9, 0)], [], σ)) rfl rfl ?_
  refine TT.br (p := ¬ ((if 0 ≤ ((k : Nat) : Int) ∧ ((k : Nat) : Int) ≤ ((((L t)) - 1 : Nat) : Int) then 1 else 0) : Int) = 0) (fun h5 => ?_) (fun h5 => absurd (show ¬ ((if 0 ≤ ((k : Nat) : Int) ∧ ((k : Nat) : Int) ≤ ((((L t)) - 1 : Nat) : Int) then 1 else 0) : Int) = 0 by (rw [if_pos ⟨by omega, by omega⟩]; decide)) h5)
  refine TT.steps (cd := cd78) 2 (c' := (17, [(2, 295), (0, ((t : Nat) : Int)), (0, ((k : Nat) : Int)), (0, w), (9, 0)], [(0, 0), (2, 295)], σ)) rfl rfl ?_
  refine TT.call (cd := cd78) rfl rfl rfl (by decide) rfl (t_dayOf X np nt L σ (v := 0) hb hb2 (by omega) hnp hnp2 hnt hnt2 hL) (fun r6 σ6 hq => ?_)
  rw [hq.1, hq.2]
  refine TT.steps (cd := cd78) 3 (c' := (21, [(2, 295), (0, ((t : Nat) : Int)), (0, ((k : Nat) : Int)), (0, w), (9, 0)], [(0, (aMul 8 ((t : Nat) : Int)))], (mDay σ b 0 np nt L))) rfl rfl ?_
  refine TT.top0 (z := ((8 * t : Nat) : Int)) (aMul_n (a := 8) (b := t) (by (have := hL t ht; omega))) ?_
  refine TT.steps (cd := cd78) 2 (c' := (23, [(2, 295), (0, ((t : Nat) : Int)), (0, ((k : Nat) : Int)), (0, w), (9, 0)], [(0, (aAdd ((8 * t : Nat) : Int) ((k : Nat) : Int)))], (mDay σ b 0 np nt L))) rfl rfl ?_
  refine TT.top0 (z := (((8 * t) + k : Nat) : Int)) (aAdd_n (a := 8 * t) (b := k) (by (have := hL t ht; omega))) ?_
  refine TT.steps (cd := cd78) 3 (c' := ((swOf [(0, 26), (1, 31), (2, 36), (3, 41), (4, 46), (5, 51)] 56 w), [(2, 295), (0, ((t : Nat) : Int)), (0, ((k : Nat) : Int)), (0, w), (0, (((8 * t) + k : Nat) : Int))], [], (mDay σ b 0 np nt L))) rfl rfl ?_
  refine TT.swc (fun h7 => ?_) (fun h7 => ?_)
  · refine TT.steps (cd := cd78) 3 (c' := (29, [(2, 295), (0, ((t : Nat) : Int)), (0, ((k : Nat) : Int)), (0, w), (0, (((8 * t) + k : Nat) : Int))], [(0, (((8 * t) + k : Nat) : Int)), (2, 325)], (mDay σ b 0 np nt L))) rfl rfl ?_
    refine TT.aldN (cd := cd78) (325) ((8 * t) + k) rfl rfl rfl rfl (show (8 * t) + k < 48 by (have := hL t ht; omega)) ?_
    exact TT.ret (cd := cd78) rfl rfl rfl rfl (⟨by subst_vars; first | rfl | (simp_all; done), rfl⟩)
  refine TT.swc (fun h8 => ?_) (fun h8 => ?_)
  · refine TT.steps (cd := cd78) 3 (c' := (34, [(2, 295), (0, ((t : Nat) : Int)), (0, ((k : Nat) : Int)), (0, w), (0, (((8 * t) + k : Nat) : Int))], [(0, (((8 * t) + k : Nat) : Int)), (2, 326)], (mDay σ b 0 np nt L))) rfl rfl ?_
    refine TT.aldN (cd := cd78) (326) ((8 * t) + k) rfl rfl rfl rfl (show (8 * t) + k < 48 by (have := hL t ht; omega)) ?_
    exact TT.ret (cd := cd78) rfl rfl rfl rfl (⟨by subst_vars; first | rfl | (simp_all; done), rfl⟩)
  refine TT.swc (fun h9 => ?_) (fun h9 => ?_)
  · refine TT.steps (cd := cd78) 3 (c' := (39, [(2, 295), (0, ((t : Nat) : Int)), (0, ((k : Nat) : Int)), (0, w), (0, (((8 * t) + k : Nat) : Int))], [(0, (((8 * t) + k : Nat) : Int)), (2, 327)], (mDay σ b 0 np nt L))) rfl rfl ?_
    refine TT.aldN (cd := cd78) (327) ((8 * t) + k) rfl rfl rfl rfl (show (8 * t) + k < 48 by (have := hL t ht; omega)) ?_
    exact TT.ret (cd := cd78) rfl rfl rfl rfl (⟨by subst_vars; first | rfl | (simp_all; done), rfl⟩)
  refine TT.swc (fun h10 => ?_) (fun h10 => ?_)
  · refine TT.steps (cd := cd78) 3 (c' := (44, [(2, 295), (0, ((t : Nat) : Int)), (0, ((k : Nat) : Int)), (0, w), (0, (((8 * t) + k : Nat) : Int))], [(0, (((8 * t) + k : Nat) : Int)), (2, 328)], (mDay σ b 0 np nt L))) rfl rfl ?_
    refine TT.aldN (cd := cd78) (328) ((8 * t) + k) rfl rfl rfl rfl (show (8 * t) + k < 48 by (have := hL t ht; omega)) ?_
    exact TT.ret (cd := cd78) rfl rfl rfl rfl (⟨by subst_vars; first | rfl | (simp_all; done), rfl⟩)
  refine TT.swc (fun h11 => ?_) (fun h11 => ?_)
  · refine TT.steps (cd := cd78) 3 (c' := (49, [(2, 295), (0, ((t : Nat) : Int)), (0, ((k : Nat) : Int)), (0, w), (0, (((8 * t) + k : Nat) : Int))], [(0, (((8 * t) + k : Nat) : Int)), (2, 329)], (mDay σ b 0 np nt L))) rfl rfl ?_
    refine TT.aldN (cd := cd78) (329) ((8 * t) + k) rfl rfl rfl rfl (show (8 * t) + k < 48 by (have := hL t ht; omega)) ?_
    exact TT.ret (cd := cd78) rfl rfl rfl rfl (⟨by subst_vars; first | rfl | (simp_all; done), rfl⟩)
  refine TT.swc (fun h12 => ?_) (fun h12 => ?_)
  · refine TT.steps (cd := cd78) 3 (c' := (54, [(2, 295), (0, ((t : Nat) : Int)), (0, ((k : Nat) : Int)), (0, w), (0, (((8 * t) + k : Nat) : Int))], [(0, (((8 * t) + k : Nat) : Int)), (2, 330)], (mDay σ b 0 np nt L))) rfl rfl ?_
    refine TT.aldN (cd := cd78) (330) ((8 * t) + k) rfl rfl rfl rfl (show (8 * t) + k < 48 by (have := hL t ht; omega)) ?_
    exact TT.ret (cd := cd78) rfl rfl rfl rfl (⟨by subst_vars; first | rfl | (simp_all; done), rfl⟩)
  show TT X 78 (56, [(2, 295), (0, ((t : Nat) : Int)), (0, ((k : Nat) : Int)), (0, w), (0, (((8 * t) + k : Nat) : Int))], [], (mDay σ b 0 np nt L)) _
  refine TT.steps (cd := cd78) 1 (c' := (57, [(2, 295), (0, ((t : Nat) : Int)), (0, ((k : Nat) : Int)), (0, w), (0, (((8 * t) + k : Nat) : Int))], [(0, -1)], (mDay σ b 0 np nt L))) rfl rfl ?_
  exact TT.ret (cd := cd78) rfl rfl rfl rfl (⟨by subst_vars; first | rfl | (simp_all; done), rfl⟩)
theorem t_because0 (X : AX) (t k : Int) (np nt : Nat) (L : Nat → Nat) (σ : AH) {b : Nat} (hb : σ 295 13 = (b : Int)) (hb2 : b < 2) (hnp : σ 307 b = (np : Int)) (hnp2 : np ≤ 10) (hnt : σ 300 b = (nt : Int)) (hnt2 : nt ≤ 6) (hL : ∀ t, t < nt → σ 304 (6 * b + t) = (L t : Int) ∧ 2 ≤ L t ∧ L t ≤ 8) (ht : ¬ (0 ≤ t ∧ t < (nt : Int)))  : TT X 82 (0, [(2, 295), (0, t), (0, k)], [], σ) (fun r σ' => r = some (0, -1) ∧ σ' = σ) := by
  refine TT.steps (cd := cd82) 2 (c' := (2, [(2, 295), (0, t), (0, k)], [(0, t), (2, 295)], σ)) rfl rfl ?_
  refine TT.call (cd := cd82) rfl rfl rfl (by decide) rfl (t_isTrain X t σ hb hb2) (fun r1 σ1 hq => ?_)
  rw [hq.1, hq.2, hnt]
  refine TT.steps (cd := cd82) 1 (c' := ((if decide (((if 0 ≤ t ∧ t < (nt : Int) then 1 else 0) : Int) = 0) = true then 13 else 4), [(2, 295), (0, t), (0, k)], [], σ)) rfl rfl ?_
  refine TT.br (p := ((if 0 ≤ t ∧ t < (nt : Int) then 1 else 0) : Int) = 0) (fun h2 => ?_) (fun h2 => ?_)
  · replace h2 := ite_f h2
    refine TT.steps (cd := cd82) 1 (c' := (14, [(2, 295), (0, t), (0, k)], [(0, -1)], σ)) rfl rfl ?_
    exact TT.ret (cd := cd82) rfl rfl rfl rfl (⟨rfl, rfl⟩)
  · replace h2 := ite_t h2
    exact absurd (by assumption) ht
theorem t_because1 (X : AX) (t : Nat) (k : Int) (np nt : Nat) (L : Nat → Nat) (σ : AH) {b : Nat} (hb : σ 295 13 = (b : Int)) (hb2 : b < 2) (hnp : σ 307 b = (np : Int)) (hnp2 : np ≤ 10) (hnt : σ 300 b = (nt : Int)) (hnt2 : nt ≤ 6) (hL : ∀ t, t < nt → σ 304 (6 * b + t) = (L t : Int) ∧ 2 ≤ L t ∧ L t ≤ 8) (ht : t < nt) (hk : ¬ (0 ≤ k ∧ k < (L t : Int)))  : TT X 82 (0, [(2, 295), (0, ((t : Nat) : Int)), (0, k)], [], σ) (fun r σ' => r = some (0, -1) ∧ σ' = σ) := by
  refine TT.steps (cd := cd82) 2 (c' := (2, [(2, 295), (0, ((t : Nat) : Int)), (0, k)], [(0, ((t : Nat) : Int)), (2, 295)], σ)) rfl rfl ?_
  refine TT.call (cd := cd82) rfl rfl rfl (by decide) rfl (t_isTrain X ((t : Nat) : Int) σ hb hb2) (fun r1 σ1 hq => ?_)
  rw [hq.1, hq.2, hnt]
  refine TT.steps (cd := cd82) 1 (c' := ((if decide (((if 0 ≤ ((t : Nat) : Int) ∧ ((t : Nat) : Int) < (nt : Int) then 1 else 0) : Int) = 0) = true then 13 else 4), [(2, 295), (0, ((t : Nat) : Int)), (0, k)], [], σ)) rfl rfl ?_
  refine TT.br (p := ((if 0 ≤ ((t : Nat) : Int) ∧ ((t : Nat) : Int) < (nt : Int) then 1 else 0) : Int) = 0) (fun h2 => absurd h2 (show ¬ (((if 0 ≤ ((t : Nat) : Int) ∧ ((t : Nat) : Int) < (nt : Int) then 1 else 0) : Int) = 0) by (rw [if_pos ⟨by omega, by omega⟩]; decide))) (fun h2 => ?_)
  refine TT.steps (cd := cd82) 4 (c' := (8, [(2, 295), (0, ((t : Nat) : Int)), (0, k)], [(0, ((t : Nat) : Int)), (2, 295), (0, 0), (0, k)], σ)) rfl rfl ?_
  refine TT.call (cd := cd82) rfl rfl rfl (by decide) rfl (t_callsOf X t (by omega) σ hb hb2) (fun r3 σ3 hq => ?_)
  rw [hq.1, hq.2]
  refine TT.top0 (z := (((L t) : Nat) : Int)) (hL t ht).1 ?_
  refine TT.steps (cd := cd82) 2 (c' := (11, [(2, 295), (0, ((t : Nat) : Int)), (0, k)], [(0, (aSub (((L t) : Nat) : Int) 1)), (0, 0), (0, k)], σ)) rfl rfl ?_
  refine TT.top0 (z := ((((L t)) - 1 : Nat) : Int)) (aSub_n (a := (L t)) (b := 1) (by (have := hL t ht; omega)) (by (have := hL t ht; omega))) ?_
  refine TT.call (cd := cd82) rfl rfl rfl (by decide) rfl (t_is X k 0 ((((L t)) - 1 : Nat) : Int) σ) (fun r4 σ4 hq => ?_)
  rw [hq.1, hq.2]
  refine TT.steps (cd := cd82) 1 (c' := ((if decide (¬ ((if 0 ≤ k ∧ k ≤ ((((L t)) - 1 : Nat) : Int) then 1 else 0) : Int) = 0) = true then 15 else 13), [(2, 295), (0, ((t : Nat) : Int)), (0, k)], [], σ)) rfl rfl ?_
  refine TT.br (p := ¬ ((if 0 ≤ k ∧ k ≤ ((((L t)) - 1 : Nat) : Int) then 1 else 0) : Int) = 0) (fun h5 => ?_) (fun h5 => ?_)
  · replace h5 := ite_t h5
    exfalso
    have := hL t ht
    omega
  · replace h5 := ite_f (Decidable.not_not.mp h5)
    refine TT.steps (cd := cd82) 1 (c' := (14, [(2, 295), (0, ((t : Nat) : Int)), (0, k)], [(0, -1)], σ)) rfl rfl ?_
    exact TT.ret (cd := cd82) rfl rfl rfl rfl (⟨rfl, rfl⟩)
theorem t_because2 (X : AX) (t k : Nat) (np nt : Nat) (L : Nat → Nat) (σ : AH) {b : Nat} (hb : σ 295 13 = (b : Int)) (hb2 : b < 2) (hnp : σ 307 b = (np : Int)) (hnp2 : np ≤ 10) (hnt : σ 300 b = (nt : Int)) (hnt2 : nt ≤ 6) (hL : ∀ t, t < nt → σ 304 (6 * b + t) = (L t : Int) ∧ 2 ≤ L t ∧ L t ≤ 8) (ht : t < nt) (hk : k < L t)  : TT X 82 (0, [(2, 295), (0, ((t : Nat) : Int)), (0, ((k : Nat) : Int))], [], σ) (fun r σ' => r = some (0, (mDay σ b 0 np nt L) 331 (8 * t + k)) ∧ σ' = (mDay σ b 0 np nt L)) := by
  refine TT.steps (cd := cd82) 2 (c' := (2, [(2, 295), (0, ((t : Nat) : Int)), (0, ((k : Nat) : Int))], [(0, ((t : Nat) : Int)), (2, 295)], σ)) rfl rfl ?_
  refine TT.call (cd := cd82) rfl rfl rfl (by decide) rfl (t_isTrain X ((t : Nat) : Int) σ hb hb2) (fun r1 σ1 hq => ?_)
  rw [hq.1, hq.2, hnt]
  refine TT.steps (cd := cd82) 1 (c' := ((if decide (((if 0 ≤ ((t : Nat) : Int) ∧ ((t : Nat) : Int) < (nt : Int) then 1 else 0) : Int) = 0) = true then 13 else 4), [(2, 295), (0, ((t : Nat) : Int)), (0, ((k : Nat) : Int))], [], σ)) rfl rfl ?_
  refine TT.br (p := ((if 0 ≤ ((t : Nat) : Int) ∧ ((t : Nat) : Int) < (nt : Int) then 1 else 0) : Int) = 0) (fun h2 => absurd h2 (show ¬ (((if 0 ≤ ((t : Nat) : Int) ∧ ((t : Nat) : Int) < (nt : Int) then 1 else 0) : Int) = 0) by (rw [if_pos ⟨by omega, by omega⟩]; decide))) (fun h2 => ?_)
  refine TT.steps (cd := cd82) 4 (c' := (8, [(2, 295), (0, ((t : Nat) : Int)), (0, ((k : Nat) : Int))], [(0, ((t : Nat) : Int)), (2, 295), (0, 0), (0, ((k : Nat) : Int))], σ)) rfl rfl ?_
  refine TT.call (cd := cd82) rfl rfl rfl (by decide) rfl (t_callsOf X t (by omega) σ hb hb2) (fun r3 σ3 hq => ?_)
  rw [hq.1, hq.2]
  refine TT.top0 (z := (((L t) : Nat) : Int)) (hL t ht).1 ?_
  refine TT.steps (cd := cd82) 2 (c' := (11, [(2, 295), (0, ((t : Nat) : Int)), (0, ((k : Nat) : Int))], [(0, (aSub (((L t) : Nat) : Int) 1)), (0, 0), (0, ((k : Nat) : Int))], σ)) rfl rfl ?_
  refine TT.top0 (z := ((((L t)) - 1 : Nat) : Int)) (aSub_n (a := (L t)) (b := 1) (by (have := hL t ht; omega)) (by (have := hL t ht; omega))) ?_
  refine TT.call (cd := cd82) rfl rfl rfl (by decide) rfl (t_is X ((k : Nat) : Int) 0 ((((L t)) - 1 : Nat) : Int) σ) (fun r4 σ4 hq => ?_)
  rw [hq.1, hq.2]
  refine TT.steps (cd := cd82) 1 (c' := ((if decide (¬ ((if 0 ≤ ((k : Nat) : Int) ∧ ((k : Nat) : Int) ≤ ((((L t)) - 1 : Nat) : Int) then 1 else 0) : Int) = 0) = true then 15 else 13), [(2, 295), (0, ((t : Nat) : Int)), (0, ((k : Nat) : Int))], [], σ)) rfl rfl ?_
  refine TT.br (p := ¬ ((if 0 ≤ ((k : Nat) : Int) ∧ ((k : Nat) : Int) ≤ ((((L t)) - 1 : Nat) : Int) then 1 else 0) : Int) = 0) (fun h5 => ?_) (fun h5 => absurd (show ¬ ((if 0 ≤ ((k : Nat) : Int) ∧ ((k : Nat) : Int) ≤ ((((L t)) - 1 : Nat) : Int) then 1 else 0) : Int) = 0 by (rw [if_pos ⟨by omega, by omega⟩]; decide)) h5)
  refine TT.steps (cd := cd82) 2 (c' := (17, [(2, 295), (0, ((t : Nat) : Int)), (0, ((k : Nat) : Int))], [(0, 0), (2, 295)], σ)) rfl rfl ?_
  refine TT.call (cd := cd82) rfl rfl rfl (by decide) rfl (t_dayOf X np nt L σ (v := 0) hb hb2 (by omega) hnp hnp2 hnt hnt2 hL) (fun r6 σ6 hq => ?_)
  rw [hq.1, hq.2]
  refine TT.steps (cd := cd82) 5 (c' := (23, [(2, 295), (0, ((t : Nat) : Int)), (0, ((k : Nat) : Int))], [(0, (aMul 8 ((t : Nat) : Int))), (2, 331)], (mDay σ b 0 np nt L))) rfl rfl ?_
  refine TT.top0 (z := ((8 * t : Nat) : Int)) (aMul_n (a := 8) (b := t) (by (have := hL t ht; omega))) ?_
  refine TT.steps (cd := cd82) 2 (c' := (25, [(2, 295), (0, ((t : Nat) : Int)), (0, ((k : Nat) : Int))], [(0, (aAdd ((8 * t : Nat) : Int) ((k : Nat) : Int))), (2, 331)], (mDay σ b 0 np nt L))) rfl rfl ?_
  refine TT.top0 (z := (((8 * t) + k : Nat) : Int)) (aAdd_n (a := 8 * t) (b := k) (by (have := hL t ht; omega))) ?_
  refine TT.aldN (cd := cd82) (331) ((8 * t) + k) rfl rfl rfl rfl (show (8 * t) + k < 48 by (have := hL t ht; omega)) ?_
  exact TT.ret (cd := cd82) rfl rfl rfl rfl (⟨rfl, rfl⟩)
