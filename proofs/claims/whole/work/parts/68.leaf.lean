theorem w_refuse (X : AX) (q : Nat) (hq6 : q < 6) (σ : AH)  : TT X 219 (0, [(2, 0), (0, ((q : Nat) : Int))], [], σ) (fun r σ' => r = some (0, -1) ∧ σ' = up2 σ 293 q (aAdd (σ 293 q) 1)) := by
  refine TT.steps (cd := cd219) 4 (c' := (4, [(2, 0), (0, ((q : Nat) : Int))], [(0, ((q : Nat) : Int)), (2, 293), (0, ((q : Nat) : Int)), (2, 293)], σ)) rfl rfl ?_
  refine TT.aldN (cd := cd219) (293) (q) rfl rfl rfl rfl (show q < 6 by omega) ?_
  refine TT.steps (cd := cd219) 2 (c' := (7, [(2, 0), (0, ((q : Nat) : Int))], [(0, (aAdd (σ 293 q) 1)), (0, ((q : Nat) : Int)), (2, 293)], σ)) rfl rfl ?_
  refine TT.astN (cd := cd219) (293) (q) rfl rfl rfl rfl (show q < 6 by omega) ?_
  refine TT.steps (cd := cd219) 1 (c' := (9, [(2, 0), (0, ((q : Nat) : Int))], [(0, -1)], (up2 σ 293 q (aAdd (σ 293 q) 1)))) rfl rfl ?_
  exact TT.ret (cd := cd219) rfl rfl rfl rfl (⟨rfl, rfl⟩)
theorem w_deny (X : AX) (q : Nat) (hq6 : q < 6) (σ : AH)  : TT X 220 (0, [(2, 0), (0, ((q : Nat) : Int))], [], σ) (fun r σ' => r = some (0, 0) ∧ σ' = up2 σ 293 q (aAdd (σ 293 q) 1)) := by
  refine TT.steps (cd := cd220) 4 (c' := (4, [(2, 0), (0, ((q : Nat) : Int))], [(0, ((q : Nat) : Int)), (2, 293), (0, ((q : Nat) : Int)), (2, 293)], σ)) rfl rfl ?_
  refine TT.aldN (cd := cd220) (293) (q) rfl rfl rfl rfl (show q < 6 by omega) ?_
  refine TT.steps (cd := cd220) 2 (c' := (7, [(2, 0), (0, ((q : Nat) : Int))], [(0, (aAdd (σ 293 q) 1)), (0, ((q : Nat) : Int)), (2, 293)], σ)) rfl rfl ?_
  refine TT.astN (cd := cd220) (293) (q) rfl rfl rfl rfl (show q < 6 by omega) ?_
  refine TT.steps (cd := cd220) 1 (c' := (9, [(2, 0), (0, ((q : Nat) : Int))], [(0, 0)], (up2 σ 293 q (aAdd (σ 293 q) 1)))) rfl rfl ?_
  exact TT.ret (cd := cd220) rfl rfl rfl rfl (⟨rfl, rfl⟩)
theorem w_isPerson (X : AX) (p : Int) (σ : AH)  : TT X 225 (0, [(2, 0), (0, p)], [], σ) (fun r σ' => r = some (0, if 0 ≤ p ∧ p < σ 36 0 then 1 else 0) ∧ σ' = σ) := by
  refine TT.steps (cd := cd225) 2 (c' := ((if decide (p < 0) = true then 9 else 2), [(2, 0), (0, p)], [], σ)) rfl rfl ?_
  refine TT.br (p := p < 0) (fun h1 => ?_) (fun h1 => ?_)
  · refine TT.steps (cd := cd225) 1 (c' := (10, [(2, 0), (0, p)], [(0, 0)], σ)) rfl rfl ?_
    exact TT.ret (cd := cd225) rfl rfl rfl rfl (⟨by first | rw [if_pos (by omega)] | rw [if_neg (by omega)], rfl⟩)
  · refine TT.steps (cd := cd225) 5 (c' := ((if decide ((σ 36 0) ≤ p) = true then 9 else 7), [(2, 0), (0, p)], [], σ)) rfl rfl ?_
    refine TT.br (p := (σ 36 0) ≤ p) (fun h2 => ?_) (fun h2 => ?_)
    · refine TT.steps (cd := cd225) 1 (c' := (10, [(2, 0), (0, p)], [(0, 0)], σ)) rfl rfl ?_
      exact TT.ret (cd := cd225) rfl rfl rfl rfl (⟨by first | rw [if_pos (by omega)] | rw [if_neg (by omega)], rfl⟩)
    · refine TT.steps (cd := cd225) 2 (c' := (10, [(2, 0), (0, p)], [(0, 1)], σ)) rfl rfl ?_
      exact TT.ret (cd := cd225) rfl rfl rfl rfl (⟨by first | rw [if_pos (by omega)] | rw [if_neg (by omega)], rfl⟩)
theorem w_isStation_8 (X : AX) (p : Int) (σ : AH) (h05 : σ 0 5 = 8)  : TT X 223 (0, [(2, 0), (0, p)], [], σ) (fun r σ' => r = some (0, if 0 ≤ p ∧ p < σ 8 1 then 1 else 0) ∧ σ' = σ) := by
  refine TT.steps (cd := cd223) 2 (c' := ((if decide (p < 0) = true then 9 else 2), [(2, 0), (0, p)], [], σ)) rfl rfl ?_
  refine TT.br (p := p < 0) (fun h1 => ?_) (fun h1 => ?_)
  · refine TT.steps (cd := cd223) 1 (c' := (10, [(2, 0), (0, p)], [(0, 0)], σ)) rfl rfl ?_
    exact TT.ret (cd := cd223) rfl rfl rfl rfl (⟨by first | rw [if_pos (by omega)] | rw [if_neg (by omega)], rfl⟩)
  · refine TT.steps (cd := cd223) 3 (c' := (5, [(2, 0), (0, p)], [(2, (σ 0 5)), (0, p)], σ)) rfl rfl ?_
    refine TT.top0 (z := 8) h05 ?_
    refine TT.steps (cd := cd223) 2 (c' := ((if decide ((σ 8 1) ≤ p) = true then 9 else 7), [(2, 0), (0, p)], [], σ)) rfl rfl ?_
    refine TT.br (p := (σ 8 1) ≤ p) (fun h2 => ?_) (fun h2 => ?_)
    · refine TT.steps (cd := cd223) 1 (c' := (10, [(2, 0), (0, p)], [(0, 0)], σ)) rfl rfl ?_
      exact TT.ret (cd := cd223) rfl rfl rfl rfl (⟨by first | rw [if_pos (by omega)] | rw [if_neg (by omega)], rfl⟩)
    · refine TT.steps (cd := cd223) 2 (c' := (10, [(2, 0), (0, p)], [(0, 1)], σ)) rfl rfl ?_
      exact TT.ret (cd := cd223) rfl rfl rfl rfl (⟨by first | rw [if_pos (by omega)] | rw [if_neg (by omega)], rfl⟩)
theorem w_isTrain_8 (X : AX) (p : Int) (σ : AH) (h05 : σ 0 5 = 8)  : TT X 224 (0, [(2, 0), (0, p)], [], σ) (fun r σ' => r = some (0, if 0 ≤ p ∧ p < σ 8 2 then 1 else 0) ∧ σ' = σ) := by
  refine TT.steps (cd := cd224) 2 (c' := ((if decide (p < 0) = true then 9 else 2), [(2, 0), (0, p)], [], σ)) rfl rfl ?_
  refine TT.br (p := p < 0) (fun h1 => ?_) (fun h1 => ?_)
  · refine TT.steps (cd := cd224) 1 (c' := (10, [(2, 0), (0, p)], [(0, 0)], σ)) rfl rfl ?_
    exact TT.ret (cd := cd224) rfl rfl rfl rfl (⟨by first | rw [if_pos (by omega)] | rw [if_neg (by omega)], rfl⟩)
  · refine TT.steps (cd := cd224) 3 (c' := (5, [(2, 0), (0, p)], [(2, (σ 0 5)), (0, p)], σ)) rfl rfl ?_
    refine TT.top0 (z := 8) h05 ?_
    refine TT.steps (cd := cd224) 2 (c' := ((if decide ((σ 8 2) ≤ p) = true then 9 else 7), [(2, 0), (0, p)], [], σ)) rfl rfl ?_
    refine TT.br (p := (σ 8 2) ≤ p) (fun h2 => ?_) (fun h2 => ?_)
    · refine TT.steps (cd := cd224) 1 (c' := (10, [(2, 0), (0, p)], [(0, 0)], σ)) rfl rfl ?_
      exact TT.ret (cd := cd224) rfl rfl rfl rfl (⟨by first | rw [if_pos (by omega)] | rw [if_neg (by omega)], rfl⟩)
    · refine TT.steps (cd := cd224) 2 (c' := (10, [(2, 0), (0, p)], [(0, 1)], σ)) rfl rfl ?_
      exact TT.ret (cd := cd224) rfl rfl rfl rfl (⟨by first | rw [if_pos (by omega)] | rw [if_neg (by omega)], rfl⟩)
theorem w_isCallN_8 (X : AX) (t k : Int) (σ : AH) (h05 : σ 0 5 = 8) (nt : Nat) (hnt : σ 8 2 = (nt : Int)) (hnt2 : nt ≤ 6) (ht : ¬ (0 ≤ t ∧ t < (nt : Int)))  : TT X 226 (0, [(2, 0), (0, t), (0, k)], [], σ) (fun r σ' => r = some (0, 0) ∧ σ' = σ) := by
  refine TT.steps (cd := cd226) 2 (c' := (2, [(2, 0), (0, t), (0, k)], [(0, t), (2, 0)], σ)) rfl rfl ?_
  refine TT.call (cd := cd226) rfl rfl rfl (by decide) rfl (w_isTrain_8 X t σ h05) (fun r1 σ1 hq => ?_)
  rw [hq.1, hq.2, hnt, if_neg ht]
  refine TT.steps (cd := cd226) 2 (c' := (16, [(2, 0), (0, t), (0, k)], [(0, 0)], σ)) rfl rfl ?_
  exact TT.ret (cd := cd226) rfl rfl rfl rfl (⟨rfl, rfl⟩)
theorem w_isCall_8 (X : AX) (t : Nat) (k : Int) (σ : AH) (h05 : σ 0 5 = 8) (nt : Nat) (hnt : σ 8 2 = (nt : Int)) (hnt2 : nt ≤ 6) (ht : t < nt)  : TT X 226 (0, [(2, 0), (0, ((t : Nat) : Int)), (0, k)], [], σ) (fun r σ' => r = some (0, if 0 ≤ k ∧ k < σ 15 t then 1 else 0) ∧ σ' = σ) := by
  refine TT.steps (cd := cd226) 2 (c' := (2, [(2, 0), (0, ((t : Nat) : Int)), (0, k)], [(0, ((t : Nat) : Int)), (2, 0)], σ)) rfl rfl ?_
  refine TT.call (cd := cd226) rfl rfl rfl (by decide) rfl (w_isTrain_8 X ((t : Nat) : Int) σ h05) (fun r1 σ1 hq => ?_)
  rw [hq.1, hq.2, hnt, if_pos ⟨by omega, by omega⟩]
  refine TT.steps (cd := cd226) 3 (c' := ((if decide (k < 0) = true then 15 else 6), [(2, 0), (0, ((t : Nat) : Int)), (0, k)], [], σ)) rfl rfl ?_
  refine TT.br (p := k < 0) (fun h2 => ?_) (fun h2 => ?_)
  · refine TT.steps (cd := cd226) 1 (c' := (16, [(2, 0), (0, ((t : Nat) : Int)), (0, k)], [(0, 0)], σ)) rfl rfl ?_
    exact TT.ret (cd := cd226) rfl rfl rfl rfl (⟨by first | rw [if_pos (by omega)] | rw [if_neg (by omega)], rfl⟩)
  · refine TT.steps (cd := cd226) 3 (c' := (9, [(2, 0), (0, ((t : Nat) : Int)), (0, k)], [(2, (σ 0 5)), (0, k)], σ)) rfl rfl ?_
    refine TT.top0 (z := 8) h05 ?_
    refine TT.steps (cd := cd226) 2 (c' := (11, [(2, 0), (0, ((t : Nat) : Int)), (0, k)], [(0, ((t : Nat) : Int)), (2, 15), (0, k)], σ)) rfl rfl ?_
    refine TT.aldN (cd := cd226) (15) (t) rfl rfl rfl rfl (show t < 6 by omega) ?_
    refine TT.steps (cd := cd226) 1 (c' := ((if decide ((σ 15 t) ≤ k) = true then 15 else 13), [(2, 0), (0, ((t : Nat) : Int)), (0, k)], [], σ)) rfl rfl ?_
    refine TT.br (p := (σ 15 t) ≤ k) (fun h3 => ?_) (fun h3 => ?_)
    · refine TT.steps (cd := cd226) 1 (c' := (16, [(2, 0), (0, ((t : Nat) : Int)), (0, k)], [(0, 0)], σ)) rfl rfl ?_
      exact TT.ret (cd := cd226) rfl rfl rfl rfl (⟨by first | rw [if_pos (by omega)] | rw [if_neg (by omega)], rfl⟩)
    · refine TT.steps (cd := cd226) 2 (c' := (16, [(2, 0), (0, ((t : Nat) : Int)), (0, k)], [(0, 1)], σ)) rfl rfl ?_
      exact TT.ret (cd := cd226) rfl rfl rfl rfl (⟨by first | rw [if_pos (by omega)] | rw [if_neg (by omega)], rfl⟩)
theorem w_isStation_170 (X : AX) (p : Int) (σ : AH) (h05 : σ 0 5 = 170)  : TT X 223 (0, [(2, 0), (0, p)], [], σ) (fun r σ' => r = some (0, if 0 ≤ p ∧ p < σ 170 1 then 1 else 0) ∧ σ' = σ) := by
  refine TT.steps (cd := cd223) 2 (c' := ((if decide (p < 0) = true then 9 else 2), [(2, 0), (0, p)], [], σ)) rfl rfl ?_
  refine TT.br (p := p < 0) (fun h1 => ?_) (fun h1 => ?_)
  · refine TT.steps (cd := cd223) 1 (c' := (10, [(2, 0), (0, p)], [(0, 0)], σ)) rfl rfl ?_
    exact TT.ret (cd := cd223) rfl rfl rfl rfl (⟨by first | rw [if_pos (by omega)] | rw [if_neg (by omega)], rfl⟩)
  · refine TT.steps (cd := cd223) 3 (c' := (5, [(2, 0), (0, p)], [(2, (σ 0 5)), (0, p)], σ)) rfl rfl ?_
    refine TT.top0 (z := 170) h05 ?_
    refine TT.steps (cd := cd223) 2 (c' := ((if decide ((σ 170 1) ≤ p) = true then 9 else 7), [(2, 0), (0, p)], [], σ)) rfl rfl ?_
    refine TT.br (p := (σ 170 1) ≤ p) (fun h2 => ?_) (fun h2 => ?_)
    · refine TT.steps (cd := cd223) 1 (c' := (10, [(2, 0), (0, p)], [(0, 0)], σ)) rfl rfl ?_
      exact TT.ret (cd := cd223) rfl rfl rfl rfl (⟨by first | rw [if_pos (by omega)] | rw [if_neg (by omega)], rfl⟩)
    · refine TT.steps (cd := cd223) 2 (c' := (10, [(2, 0), (0, p)], [(0, 1)], σ)) rfl rfl ?_
      exact TT.ret (cd := cd223) rfl rfl rfl rfl (⟨by first | rw [if_pos (by omega)] | rw [if_neg (by omega)], rfl⟩)
theorem w_isTrain_170 (X : AX) (p : Int) (σ : AH) (h05 : σ 0 5 = 170)  : TT X 224 (0, [(2, 0), (0, p)], [], σ) (fun r σ' => r = some (0, if 0 ≤ p ∧ p < σ 170 2 then 1 else 0) ∧ σ' = σ) := by
  refine TT.steps (cd := cd224) 2 (c' := ((if decide (p < 0) = true then 9 else 2), [(2, 0), (0, p)], [], σ)) rfl rfl ?_
  refine TT.br (p := p < 0) (fun h1 => ?_) (fun h1 => ?_)
  · refine TT.steps (cd := cd224) 1 (c' := (10, [(2, 0), (0, p)], [(0, 0)], σ)) rfl rfl ?_
    exact TT.ret (cd := cd224) rfl rfl rfl rfl (⟨by first | rw [if_pos (by omega)] | rw [if_neg (by omega)], rfl⟩)
  · refine TT.steps (cd := cd224) 3 (c' := (5, [(2, 0), (0, p)], [(2, (σ 0 5)), (0, p)], σ)) rfl rfl ?_
    refine TT.top0 (z := 170) h05 ?_
    refine TT.steps (cd := cd224) 2 (c' := ((if decide ((σ 170 2) ≤ p) = true then 9 else 7), [(2, 0), (0, p)], [], σ)) rfl rfl ?_
    refine TT.br (p := (σ 170 2) ≤ p) (fun h2 => ?_) (fun h2 => ?_)
    · refine TT.steps (cd := cd224) 1 (c' := (10, [(2, 0), (0, p)], [(0, 0)], σ)) rfl rfl ?_
      exact TT.ret (cd := cd224) rfl rfl rfl rfl (⟨by first | rw [if_pos (by omega)] | rw [if_neg (by omega)], rfl⟩)
    · refine TT.steps (cd := cd224) 2 (c' := (10, [(2, 0), (0, p)], [(0, 1)], σ)) rfl rfl ?_
      exact TT.ret (cd := cd224) rfl rfl rfl rfl (⟨by first | rw [if_pos (by omega)] | rw [if_neg (by omega)], rfl⟩)
theorem w_isCallN_170 (X : AX) (t k : Int) (σ : AH) (h05 : σ 0 5 = 170) (nt : Nat) (hnt : σ 170 2 = (nt : Int)) (hnt2 : nt ≤ 6) (ht : ¬ (0 ≤ t ∧ t < (nt : Int)))  : TT X 226 (0, [(2, 0), (0, t), (0, k)], [], σ) (fun r σ' => r = some (0, 0) ∧ σ' = σ) := by
  refine TT.steps (cd := cd226) 2 (c' := (2, [(2, 0), (0, t), (0, k)], [(0, t), (2, 0)], σ)) rfl rfl ?_
  refine TT.call (cd := cd226) rfl rfl rfl (by decide) rfl (w_isTrain_170 X t σ h05) (fun r1 σ1 hq => ?_)
  rw [hq.1, hq.2, hnt, if_neg ht]
  refine TT.steps (cd := cd226) 2 (c' := (16, [(2, 0), (0, t), (0, k)], [(0, 0)], σ)) rfl rfl ?_
  exact TT.ret (cd := cd226) rfl rfl rfl rfl (⟨rfl, rfl⟩)
theorem w_isCall_170 (X : AX) (t : Nat) (k : Int) (σ : AH) (h05 : σ 0 5 = 170) (nt : Nat) (hnt : σ 170 2 = (nt : Int)) (hnt2 : nt ≤ 6) (ht : t < nt)  : TT X 226 (0, [(2, 0), (0, ((t : Nat) : Int)), (0, k)], [], σ) (fun r σ' => r = some (0, if 0 ≤ k ∧ k < σ 177 t then 1 else 0) ∧ σ' = σ) := by
  refine TT.steps (cd := cd226) 2 (c' := (2, [(2, 0), (0, ((t : Nat) : Int)), (0, k)], [(0, ((t : Nat) : Int)), (2, 0)], σ)) rfl rfl ?_
  refine TT.call (cd := cd226) rfl rfl rfl (by decide) rfl (w_isTrain_170 X ((t : Nat) : Int) σ h05) (fun r1 σ1 hq => ?_)
  rw [hq.1, hq.2, hnt, if_pos ⟨by omega, by omega⟩]
  refine TT.steps (cd := cd226) 3 (c' := ((if decide (k < 0) = true then 15 else 6), [(2, 0), (0, ((t : Nat) : Int)), (0, k)], [], σ)) rfl rfl ?_
  refine TT.br (p := k < 0) (fun h2 => ?_) (fun h2 => ?_)
  · refine TT.steps (cd := cd226) 1 (c' := (16, [(2, 0), (0, ((t : Nat) : Int)), (0, k)], [(0, 0)], σ)) rfl rfl ?_
    exact TT.ret (cd := cd226) rfl rfl rfl rfl (⟨by first | rw [if_pos (by omega)] | rw [if_neg (by omega)], rfl⟩)
  · refine TT.steps (cd := cd226) 3 (c' := (9, [(2, 0), (0, ((t : Nat) : Int)), (0, k)], [(2, (σ 0 5)), (0, k)], σ)) rfl rfl ?_
    refine TT.top0 (z := 170) h05 ?_
    refine TT.steps (cd := cd226) 2 (c' := (11, [(2, 0), (0, ((t : Nat) : Int)), (0, k)], [(0, ((t : Nat) : Int)), (2, 177), (0, k)], σ)) rfl rfl ?_
    refine TT.aldN (cd := cd226) (177) (t) rfl rfl rfl rfl (show t < 6 by omega) ?_
    refine TT.steps (cd := cd226) 1 (c' := ((if decide ((σ 177 t) ≤ k) = true then 15 else 13), [(2, 0), (0, ((t : Nat) : Int)), (0, k)], [], σ)) rfl rfl ?_
    refine TT.br (p := (σ 177 t) ≤ k) (fun h3 => ?_) (fun h3 => ?_)
    · refine TT.steps (cd := cd226) 1 (c' := (16, [(2, 0), (0, ((t : Nat) : Int)), (0, k)], [(0, 0)], σ)) rfl rfl ?_
      exact TT.ret (cd := cd226) rfl rfl rfl rfl (⟨by first | rw [if_pos (by omega)] | rw [if_neg (by omega)], rfl⟩)
    · refine TT.steps (cd := cd226) 2 (c' := (16, [(2, 0), (0, ((t : Nat) : Int)), (0, k)], [(0, 1)], σ)) rfl rfl ?_
      exact TT.ret (cd := cd226) rfl rfl rfl rfl (⟨by first | rw [if_pos (by omega)] | rw [if_neg (by omega)], rfl⟩)
theorem w_isStation (X : AX) {l : Nat} (hl : l = 8 ∨ l = 170) (p : Int) (σ : AH) (h05 : σ 0 5 = (l : Int)) : TT X k_X10_isStation (0, [(2, 0), (0, p)], [], σ) (fun r σ' => r = some (0, if 0 ≤ p ∧ p < σ l 1 then 1 else 0) ∧ σ' = σ) := by
  rcases hl with rfl | rfl
  · exact w_isStation_8 X p σ h05
  · exact w_isStation_170 X p σ h05
theorem w_isTrain (X : AX) {l : Nat} (hl : l = 8 ∨ l = 170) (p : Int) (σ : AH) (h05 : σ 0 5 = (l : Int)) : TT X k_X10_isTrain (0, [(2, 0), (0, p)], [], σ) (fun r σ' => r = some (0, if 0 ≤ p ∧ p < σ l 2 then 1 else 0) ∧ σ' = σ) := by
  rcases hl with rfl | rfl
  · exact w_isTrain_8 X p σ h05
  · exact w_isTrain_170 X p σ h05
theorem w_isCallN (X : AX) {l : Nat} (hl : l = 8 ∨ l = 170) (t k : Int) (σ : AH) (h05 : σ 0 5 = (l : Int)) (nt : Nat) (hnt : σ l 2 = (nt : Int)) (hnt2 : nt ≤ 6) (ht : ¬ (0 ≤ t ∧ t < (nt : Int))) : TT X k_X10_isCall (0, [(2, 0), (0, t), (0, k)], [], σ) (fun r σ' => r = some (0, 0) ∧ σ' = σ) := by
  rcases hl with rfl | rfl
  · exact w_isCallN_8 X t k σ h05 nt hnt hnt2 ht
  · exact w_isCallN_170 X t k σ h05 nt hnt hnt2 ht
theorem w_isCall (X : AX) {l : Nat} (hl : l = 8 ∨ l = 170) (t : Nat) (k : Int) (σ : AH) (h05 : σ 0 5 = (l : Int)) (nt : Nat) (hnt : σ l 2 = (nt : Int)) (hnt2 : nt ≤ 6) (ht : t < nt) : TT X k_X10_isCall (0, [(2, 0), (0, ((t : Nat) : Int)), (0, k)], [], σ) (fun r σ' => r = some (0, if 0 ≤ k ∧ k < σ (l + 7) t then 1 else 0) ∧ σ' = σ) := by
  rcases hl with rfl | rfl
  · exact w_isCall_8 X t k σ h05 nt hnt hnt2 ht
  · exact w_isCall_170 X t k σ h05 nt hnt hnt2 ht
theorem UN_F {ρ : AH} (h : FL ρ) : UN ρ 9999 := Or.inl ⟨h.2.2, rfl⟩
theorem v_go0 (X : AX) {l q : Nat} (hl : l = 8 ∨ l = 170) (hq2 : q = 36 ∨ q = 42) {σ ρ : AH} {b v np nt ns : Nat} {L : Nat → Nat} {C : Nat → Nat → Nat} (hP : PR σ l q np nt L) (hL : LT σ ρ l b np nt ns L C) (hT : PTb σ ρ q v np ns) (hF : FL ρ) : TT X k_X1_go (0, [(2, 198), (0, ((bs (zH ρ v) np : Nat) : Int)), (0, 0), (0, 0), (0, 9999), (9, 0), (9, 0)], [], σ) (fun r σ' => r = none ∧ DG σ σ' ∧ DD σ σ' ρ b v np nt ns L C) := by
  have := v_go X hl hq2 hP hL hT (UN_F hF)
  rw [zAb_no hF.1, zK_no hF.2.1] at this
  exact this
theorem w_tryDay_36 (X : AX) {l : Nat} (hl : l = 8 ∨ l = 170) {σ ρ : AH} {b v np nt ns : Nat} {L : Nat → Nat} {C : Nat → Nat → Nat} (h05 : σ 0 5 = (l : Int)) (hL : LT σ ρ l b np nt ns L C) (hT : PTb σ ρ 36 v np ns) (h2 : σ 36 2 = ((bs (zH ρ v) np : Nat) : Int)) (hF : FL ρ)  : TT X 230 (0, [(2, 0), (2, 36)], [], σ) (fun r σ' => r = none ∧ (∀ K j, (K < 198 ∨ 254 < K) → σ' K j = σ K j) ∧ PR σ' l 36 np nt L ∧ DD σ σ' ρ b v np nt ns L C) := by
  refine TT.steps (cd := cd230) 4 (c' := (4, [(2, 0), (2, 36)], [(2, (σ 0 5)), (2, 198)], σ)) rfl rfl ?_
  refine TT.top0 (z := ((l : Nat) : Int)) h05 ?_
  refine TT.steps (cd := cd230) 1 (c' := (5, [(2, 0), (2, 36)], [(2, 36), (2, ((l : Nat) : Int)), (2, 198)], σ)) rfl rfl ?_
  refine TT.call (cd := cd230) rfl rfl rfl (by decide) rfl (v_prep X hl (Or.inl rfl) hL hT) (fun r1 σ1 hq => ?_)
  obtain ⟨rfl, hP1, hF1⟩ := hq
  have hT1 : PTb σ1 ρ 36 v np ns := PTb_mv hT (fun K j hK => hF1 K j (by omega)) (fun _ _ _ => rfl)
  have hL1 : LT σ1 ρ l b np nt ns L C := LT_mv hl hL (fun K j hK => hF1 K j (by omega)) (fun _ _ _ => rfl) rfl
  have h21 : σ1 36 2 = ((bs (zH ρ v) np : Nat) : Int) := (hF1 _ _ (by omega)).trans h2
  have hs1 := (rfl : σ1 = σ1)
  refine TT.steps (cd := cd230) 4 (c' := (10, [(2, 0), (2, 36)], [(0, (σ1 36 2)), (2, 198)], σ1)) rfl rfl ?_
  refine TT.top0 (z := ((bs (zH ρ v) np : Nat) : Int)) h21 ?_
  refine TT.steps (cd := cd230) 3 (c' := (13, [(2, 0), (2, 36)], [(0, 9999), (0, 0), (0, 0), (0, ((bs (zH ρ v) np : Nat) : Int)), (2, 198)], σ1)) rfl rfl ?_
  refine TT.call (cd := cd230) rfl rfl rfl (by decide) rfl (v_go0 X hl (Or.inl rfl) hP1 hL1 hT1 hF) (fun r2 σ2 hq => ?_)
  obtain ⟨rfl, hG2, hD2⟩ := hq
  exact TT.ret (cd := cd230) rfl rfl rfl rfl (⟨rfl, fun K j hK => (hG2.1 K j (by omega)).trans (hF1 K j (by omega)), PR_mv hl (Or.inl rfl) hL.2.2.1.2.1 hP1 (fun K j hK => hG2.1 K j (by omega)) hG2.2, hD2⟩)
theorem w_tryDay_42 (X : AX) {l : Nat} (hl : l = 8 ∨ l = 170) {σ ρ : AH} {b v np nt ns : Nat} {L : Nat → Nat} {C : Nat → Nat → Nat} (h05 : σ 0 5 = (l : Int)) (hL : LT σ ρ l b np nt ns L C) (hT : PTb σ ρ 42 v np ns) (h2 : σ 42 2 = ((bs (zH ρ v) np : Nat) : Int)) (hF : FL ρ)  : TT X 230 (0, [(2, 0), (2, 42)], [], σ) (fun r σ' => r = none ∧ (∀ K j, (K < 198 ∨ 254 < K) → σ' K j = σ K j) ∧ PR σ' l 42 np nt L ∧ DD σ σ' ρ b v np nt ns L C) := by
  refine TT.steps (cd := cd230) 4 (c' := (4, [(2, 0), (2, 42)], [(2, (σ 0 5)), (2, 198)], σ)) rfl rfl ?_
  refine TT.top0 (z := ((l : Nat) : Int)) h05 ?_
  refine TT.steps (cd := cd230) 1 (c' := (5, [(2, 0), (2, 42)], [(2, 42), (2, ((l : Nat) : Int)), (2, 198)], σ)) rfl rfl ?_
  refine TT.call (cd := cd230) rfl rfl rfl (by decide) rfl (v_prep X hl (Or.inr rfl) hL hT) (fun r1 σ1 hq => ?_)
  obtain ⟨rfl, hP1, hF1⟩ := hq
  have hT1 : PTb σ1 ρ 42 v np ns := PTb_mv hT (fun K j hK => hF1 K j (by omega)) (fun _ _ _ => rfl)
  have hL1 : LT σ1 ρ l b np nt ns L C := LT_mv hl hL (fun K j hK => hF1 K j (by omega)) (fun _ _ _ => rfl) rfl
  have h21 : σ1 42 2 = ((bs (zH ρ v) np : Nat) : Int) := (hF1 _ _ (by omega)).trans h2
  have hs1 := (rfl : σ1 = σ1)
  refine TT.steps (cd := cd230) 4 (c' := (10, [(2, 0), (2, 42)], [(0, (σ1 42 2)), (2, 198)], σ1)) rfl rfl ?_
  refine TT.top0 (z := ((bs (zH ρ v) np : Nat) : Int)) h21 ?_
  refine TT.steps (cd := cd230) 3 (c' := (13, [(2, 0), (2, 42)], [(0, 9999), (0, 0), (0, 0), (0, ((bs (zH ρ v) np : Nat) : Int)), (2, 198)], σ1)) rfl rfl ?_
  refine TT.call (cd := cd230) rfl rfl rfl (by decide) rfl (v_go0 X hl (Or.inr rfl) hP1 hL1 hT1 hF) (fun r2 σ2 hq => ?_)
  obtain ⟨rfl, hG2, hD2⟩ := hq
  exact TT.ret (cd := cd230) rfl rfl rfl rfl (⟨rfl, fun K j hK => (hG2.1 K j (by omega)).trans (hF1 K j (by omega)), PR_mv hl (Or.inr rfl) hL.2.2.1.2.1 hP1 (fun K j hK => hG2.1 K j (by omega)) hG2.2, hD2⟩)
