theorem l_has3 (X : AX) (np : Nat) (σ : AH) {b : Nat} (hb : σ 295 13 = (b : Int)) (hb2 : b < 2) (hnp : σ 307 b = (np : Int)) (hnp2 : np ≤ 10)  : ∀ (d n : Nat), n + d = np → TT X 64 (24, [(2, 295), (0, 3), (0, (sumA (fun p => σ 322 p) n)), (0, ((n : Nat) : Int))], [], σ) (fun r σ' => r = some (0, sumA (fun p => σ 322 p) np) ∧ σ' = σ) := by
  intro d
  induction d with
  | zero =>
    intro n hn
    have hnn : n = np := by omega
    refine TT.steps (cd := cd64) 5 (c' := (29, [(2, 295), (0, 3), (0, (sumA (fun p => σ 322 p) n)), (0, ((n : Nat) : Int))], [(0, (σ 295 13)), (2, 307), (0, ((n : Nat) : Int))], σ)) rfl rfl ?_
    refine TT.top0 (z := ((b : Nat) : Int)) hb ?_
    refine TT.aldN (cd := cd64) (307) (b) rfl rfl rfl rfl (show b < 2 by omega) ?_
    refine TT.top0 (z := ((np : Nat) : Int)) hnp ?_
    refine TT.steps (cd := cd64) 1 (c' := ((if decide (((np : Nat) : Int) ≤ ((n : Nat) : Int)) = true then 40 else 31), [(2, 295), (0, 3), (0, (sumA (fun p => σ 322 p) n)), (0, ((n : Nat) : Int))], [], σ)) rfl rfl ?_
    refine TT.br (p := ((np : Nat) : Int) ≤ ((n : Nat) : Int)) (fun h1 => ?_) (fun h1 => absurd (show ((np : Nat) : Int) ≤ ((n : Nat) : Int) by omega) h1)
    refine TT.steps (cd := cd64) 1 (c' := (41, [(2, 295), (0, 3), (0, (sumA (fun p => σ 322 p) n)), (0, ((n : Nat) : Int))], [(0, (sumA (fun p => σ 322 p) n))], σ)) rfl rfl ?_
    exact TT.ret (cd := cd64) rfl rfl rfl rfl (⟨by rw [hnn], rfl⟩)
  | succ d ih =>
    intro n hn
    refine TT.steps (cd := cd64) 5 (c' := (29, [(2, 295), (0, 3), (0, (sumA (fun p => σ 322 p) n)), (0, ((n : Nat) : Int))], [(0, (σ 295 13)), (2, 307), (0, ((n : Nat) : Int))], σ)) rfl rfl ?_
    refine TT.top0 (z := ((b : Nat) : Int)) hb ?_
    refine TT.aldN (cd := cd64) (307) (b) rfl rfl rfl rfl (show b < 2 by omega) ?_
    refine TT.top0 (z := ((np : Nat) : Int)) hnp ?_
    refine TT.steps (cd := cd64) 1 (c' := ((if decide (((np : Nat) : Int) ≤ ((n : Nat) : Int)) = true then 40 else 31), [(2, 295), (0, 3), (0, (sumA (fun p => σ 322 p) n)), (0, ((n : Nat) : Int))], [], σ)) rfl rfl ?_
    refine TT.br (p := ((np : Nat) : Int) ≤ ((n : Nat) : Int)) (fun h1 => absurd h1 (show ¬ (((np : Nat) : Int) ≤ ((n : Nat) : Int)) by omega)) (fun h1 => ?_)
    refine TT.steps (cd := cd64) 4 (c' := (35, [(2, 295), (0, 3), (0, (sumA (fun p => σ 322 p) n)), (0, ((n : Nat) : Int))], [(0, ((n : Nat) : Int)), (2, 322), (0, (sumA (fun p => σ 322 p) n))], σ)) rfl rfl ?_
    refine TT.aldN (cd := cd64) (322) (n) rfl rfl rfl rfl (show n < 220 by omega) ?_
    refine TT.steps (cd := cd64) 1 (c' := (37, [(2, 295), (0, 3), (0, (sumA (fun p => σ 322 p) n)), (0, ((n : Nat) : Int))], [(0, (aAdd (sumA (fun p => σ 322 p) n) (σ 322 n)))], σ)) rfl rfl ?_
    refine TT.steps (cd := cd64) 1 (c' := (38, [(2, 295), (0, 3), (0, (aAdd (sumA (fun p => σ 322 p) n) (σ 322 n))), (0, ((n : Nat) : Int))], [], σ)) rfl rfl ?_
    refine TT.inc (cd := cd64) ((n + 1 : Nat) : Int) rfl rfl rfl rfl (fun h => absurd h.2 (show ¬ (0 = 1) by decide)) (aAdd_n (a := n) (b := 1) (by omega)) (ls' := [(2, 295), (0, 3), (0, (aAdd (sumA (fun p => σ 322 p) n) (σ 322 n))), (0, ((n + 1 : Nat) : Int))]) rfl ?_
    refine TT.steps (cd := cd64) 1 (c' := (24, [(2, 295), (0, 3), (0, (aAdd (sumA (fun p => σ 322 p) n) (σ 322 n))), (0, ((n + 1 : Nat) : Int))], [], σ)) rfl rfl ?_
    have := ih (n + 1) (by omega)
    simp only [sumA] at this
    first | (rw [if_pos (by first | assumption | omega)] at this; exact this) | (rw [if_neg (by first | assumption | omega)] at this; exact this) | exact this
theorem l_has4 (X : AX) (np : Nat) (σ : AH) {b : Nat} (hb : σ 295 13 = (b : Int)) (hb2 : b < 2) (hnp : σ 307 b = (np : Int)) (hnp2 : np ≤ 10)  : ∀ (d n : Nat), n + d = np → TT X 64 (44, [(2, 295), (0, 4), (0, (sumA (fun p => aMul (σ 322 p) (σ 314 (10 * b + p))) n)), (0, ((n : Nat) : Int))], [], σ) (fun r σ' => r = some (0, sumA (fun p => aMul (σ 322 p) (σ 314 (10 * b + p))) np) ∧ σ' = σ) := by
  intro d
  induction d with
  | zero =>
    intro n hn
    have hnn : n = np := by omega
    refine TT.steps (cd := cd64) 5 (c' := (49, [(2, 295), (0, 4), (0, (sumA (fun p => aMul (σ 322 p) (σ 314 (10 * b + p))) n)), (0, ((n : Nat) : Int))], [(0, (σ 295 13)), (2, 307), (0, ((n : Nat) : Int))], σ)) rfl rfl ?_
    refine TT.top0 (z := ((b : Nat) : Int)) hb ?_
    refine TT.aldN (cd := cd64) (307) (b) rfl rfl rfl rfl (show b < 2 by omega) ?_
    refine TT.top0 (z := ((np : Nat) : Int)) hnp ?_
    refine TT.steps (cd := cd64) 1 (c' := ((if decide (((np : Nat) : Int) ≤ ((n : Nat) : Int)) = true then 64 else 51), [(2, 295), (0, 4), (0, (sumA (fun p => aMul (σ 322 p) (σ 314 (10 * b + p))) n)), (0, ((n : Nat) : Int))], [], σ)) rfl rfl ?_
    refine TT.br (p := ((np : Nat) : Int) ≤ ((n : Nat) : Int)) (fun h1 => ?_) (fun h1 => absurd (show ((np : Nat) : Int) ≤ ((n : Nat) : Int) by omega) h1)
    refine TT.steps (cd := cd64) 1 (c' := (65, [(2, 295), (0, 4), (0, (sumA (fun p => aMul (σ 322 p) (σ 314 (10 * b + p))) n)), (0, ((n : Nat) : Int))], [(0, (sumA (fun p => aMul (σ 322 p) (σ 314 (10 * b + p))) n))], σ)) rfl rfl ?_
    exact TT.ret (cd := cd64) rfl rfl rfl rfl (⟨by rw [hnn], rfl⟩)
  | succ d ih =>
    intro n hn
    refine TT.steps (cd := cd64) 5 (c' := (49, [(2, 295), (0, 4), (0, (sumA (fun p => aMul (σ 322 p) (σ 314 (10 * b + p))) n)), (0, ((n : Nat) : Int))], [(0, (σ 295 13)), (2, 307), (0, ((n : Nat) : Int))], σ)) rfl rfl ?_
    refine TT.top0 (z := ((b : Nat) : Int)) hb ?_
    refine TT.aldN (cd := cd64) (307) (b) rfl rfl rfl rfl (show b < 2 by omega) ?_
    refine TT.top0 (z := ((np : Nat) : Int)) hnp ?_
    refine TT.steps (cd := cd64) 1 (c' := ((if decide (((np : Nat) : Int) ≤ ((n : Nat) : Int)) = true then 64 else 51), [(2, 295), (0, 4), (0, (sumA (fun p => aMul (σ 322 p) (σ 314 (10 * b + p))) n)), (0, ((n : Nat) : Int))], [], σ)) rfl rfl ?_
    refine TT.br (p := ((np : Nat) : Int) ≤ ((n : Nat) : Int)) (fun h1 => absurd h1 (show ¬ (((np : Nat) : Int) ≤ ((n : Nat) : Int)) by omega)) (fun h1 => ?_)
    refine TT.steps (cd := cd64) 4 (c' := (55, [(2, 295), (0, 4), (0, (sumA (fun p => aMul (σ 322 p) (σ 314 (10 * b + p))) n)), (0, ((n : Nat) : Int))], [(0, ((n : Nat) : Int)), (2, 322), (0, (sumA (fun p => aMul (σ 322 p) (σ 314 (10 * b + p))) n))], σ)) rfl rfl ?_
    refine TT.aldN (cd := cd64) (322) (n) rfl rfl rfl rfl (show n < 220 by omega) ?_
    refine TT.steps (cd := cd64) 2 (c' := (58, [(2, 295), (0, 4), (0, (sumA (fun p => aMul (σ 322 p) (σ 314 (10 * b + p))) n)), (0, ((n : Nat) : Int))], [(0, ((n : Nat) : Int)), (2, 295), (0, (σ 322 n)), (0, (sumA (fun p => aMul (σ 322 p) (σ 314 (10 * b + p))) n))], σ)) rfl rfl ?_
    refine TT.call (cd := cd64) rfl rfl rfl (by decide) rfl (t_priceOf X n (by omega) σ hb hb2) (fun r2 σ2 hq => ?_)
    rw [hq.1, hq.2]
    refine TT.steps (cd := cd64) 1 (c' := (60, [(2, 295), (0, 4), (0, (sumA (fun p => aMul (σ 322 p) (σ 314 (10 * b + p))) n)), (0, ((n : Nat) : Int))], [(0, (aMul (σ 322 n) (σ 314 (10 * b + n)))), (0, (sumA (fun p => aMul (σ 322 p) (σ 314 (10 * b + p))) n))], σ)) rfl rfl ?_
    refine TT.steps (cd := cd64) 1 (c' := (61, [(2, 295), (0, 4), (0, (sumA (fun p => aMul (σ 322 p) (σ 314 (10 * b + p))) n)), (0, ((n : Nat) : Int))], [(0, (aAdd (sumA (fun p => aMul (σ 322 p) (σ 314 (10 * b + p))) n) (aMul (σ 322 n) (σ 314 (10 * b + n)))))], σ)) rfl rfl ?_
    refine TT.steps (cd := cd64) 1 (c' := (62, [(2, 295), (0, 4), (0, (aAdd (sumA (fun p => aMul (σ 322 p) (σ 314 (10 * b + p))) n) (aMul (σ 322 n) (σ 314 (10 * b + n))))), (0, ((n : Nat) : Int))], [], σ)) rfl rfl ?_
    refine TT.inc (cd := cd64) ((n + 1 : Nat) : Int) rfl rfl rfl rfl (fun h => absurd h.2 (show ¬ (0 = 1) by decide)) (aAdd_n (a := n) (b := 1) (by omega)) (ls' := [(2, 295), (0, 4), (0, (aAdd (sumA (fun p => aMul (σ 322 p) (σ 314 (10 * b + p))) n) (aMul (σ 322 n) (σ 314 (10 * b + n))))), (0, ((n + 1 : Nat) : Int))]) rfl ?_
    refine TT.steps (cd := cd64) 1 (c' := (44, [(2, 295), (0, 4), (0, (aAdd (sumA (fun p => aMul (σ 322 p) (σ 314 (10 * b + p))) n) (aMul (σ 322 n) (σ 314 (10 * b + n))))), (0, ((n + 1 : Nat) : Int))], [], σ)) rfl rfl ?_
    have := ih (n + 1) (by omega)
    simp only [sumA] at this
    first | (rw [if_pos (by first | assumption | omega)] at this; exact this) | (rw [if_neg (by first | assumption | omega)] at this; exact this) | exact this
theorem l_has10 (X : AX) (np : Nat) (σ : AH) {b : Nat} (hb : σ 295 13 = (b : Int)) (hb2 : b < 2) (hnp : σ 307 b = (np : Int)) (hnp2 : np ≤ 10)  : ∀ (d n : Nat), n + d = np → TT X 64 (89, [(2, 295), (0, 10), (0, (sumA (fun p => if σ 320 p = σ 321 p then 1 else 0) n)), (0, ((n : Nat) : Int))], [], σ) (fun r σ' => r = some (0, sumA (fun p => if σ 320 p = σ 321 p then 1 else 0) np) ∧ σ' = σ) := by
  intro d
  induction d with
  | zero =>
    intro n hn
    have hnn : n = np := by omega
    refine TT.steps (cd := cd64) 5 (c' := (94, [(2, 295), (0, 10), (0, (sumA (fun p => if σ 320 p = σ 321 p then 1 else 0) n)), (0, ((n : Nat) : Int))], [(0, (σ 295 13)), (2, 307), (0, ((n : Nat) : Int))], σ)) rfl rfl ?_
    refine TT.top0 (z := ((b : Nat) : Int)) hb ?_
    refine TT.aldN (cd := cd64) (307) (b) rfl rfl rfl rfl (show b < 2 by omega) ?_
    refine TT.top0 (z := ((np : Nat) : Int)) hnp ?_
    refine TT.steps (cd := cd64) 1 (c' := ((if decide (((np : Nat) : Int) ≤ ((n : Nat) : Int)) = true then 113 else 96), [(2, 295), (0, 10), (0, (sumA (fun p => if σ 320 p = σ 321 p then 1 else 0) n)), (0, ((n : Nat) : Int))], [], σ)) rfl rfl ?_
    refine TT.br (p := ((np : Nat) : Int) ≤ ((n : Nat) : Int)) (fun h1 => ?_) (fun h1 => absurd (show ((np : Nat) : Int) ≤ ((n : Nat) : Int) by omega) h1)
    refine TT.steps (cd := cd64) 1 (c' := (114, [(2, 295), (0, 10), (0, (sumA (fun p => if σ 320 p = σ 321 p then 1 else 0) n)), (0, ((n : Nat) : Int))], [(0, (sumA (fun p => if σ 320 p = σ 321 p then 1 else 0) n))], σ)) rfl rfl ?_
    exact TT.ret (cd := cd64) rfl rfl rfl rfl (⟨by rw [hnn], rfl⟩)
  | succ d ih =>
    intro n hn
    refine TT.steps (cd := cd64) 5 (c' := (94, [(2, 295), (0, 10), (0, (sumA (fun p => if σ 320 p = σ 321 p then 1 else 0) n)), (0, ((n : Nat) : Int))], [(0, (σ 295 13)), (2, 307), (0, ((n : Nat) : Int))], σ)) rfl rfl ?_
    refine TT.top0 (z := ((b : Nat) : Int)) hb ?_
    refine TT.aldN (cd := cd64) (307) (b) rfl rfl rfl rfl (show b < 2 by omega) ?_
    refine TT.top0 (z := ((np : Nat) : Int)) hnp ?_
    refine TT.steps (cd := cd64) 1 (c' := ((if decide (((np : Nat) : Int) ≤ ((n : Nat) : Int)) = true then 113 else 96), [(2, 295), (0, 10), (0, (sumA (fun p => if σ 320 p = σ 321 p then 1 else 0) n)), (0, ((n : Nat) : Int))], [], σ)) rfl rfl ?_
    refine TT.br (p := ((np : Nat) : Int) ≤ ((n : Nat) : Int)) (fun h1 => absurd h1 (show ¬ (((np : Nat) : Int) ≤ ((n : Nat) : Int)) by omega)) (fun h1 => ?_)
    refine TT.steps (cd := cd64) 4 (c' := (100, [(2, 295), (0, 10), (0, (sumA (fun p => if σ 320 p = σ 321 p then 1 else 0) n)), (0, ((n : Nat) : Int))], [(0, ((n : Nat) : Int)), (2, 320), (0, (sumA (fun p => if σ 320 p = σ 321 p then 1 else 0) n))], σ)) rfl rfl ?_
    refine TT.aldN (cd := cd64) (320) (n) rfl rfl rfl rfl (show n < 220 by omega) ?_
    refine TT.steps (cd := cd64) 3 (c' := (104, [(2, 295), (0, 10), (0, (sumA (fun p => if σ 320 p = σ 321 p then 1 else 0) n)), (0, ((n : Nat) : Int))], [(0, ((n : Nat) : Int)), (2, 321), (0, (σ 320 n)), (0, (sumA (fun p => if σ 320 p = σ 321 p then 1 else 0) n))], σ)) rfl rfl ?_
    refine TT.aldN (cd := cd64) (321) (n) rfl rfl rfl rfl (show n < 220 by omega) ?_
    refine TT.steps (cd := cd64) 1 (c' := ((if decide (¬ (σ 320 n) = (σ 321 n)) = true then 108 else 106), [(2, 295), (0, 10), (0, (sumA (fun p => if σ 320 p = σ 321 p then 1 else 0) n)), (0, ((n : Nat) : Int))], [(0, (sumA (fun p => if σ 320 p = σ 321 p then 1 else 0) n))], σ)) rfl rfl ?_
    refine TT.br (p := ¬ (σ 320 n) = (σ 321 n)) (fun h2 => ?_) (fun h2 => ?_)
    · refine TT.steps (cd := cd64) 2 (c' := (110, [(2, 295), (0, 10), (0, (sumA (fun p => if σ 320 p = σ 321 p then 1 else 0) n)), (0, ((n : Nat) : Int))], [(0, (aAdd (sumA (fun p => if σ 320 p = σ 321 p then 1 else 0) n) 0))], σ)) rfl rfl ?_
      refine TT.steps (cd := cd64) 1 (c' := (111, [(2, 295), (0, 10), (0, (aAdd (sumA (fun p => if σ 320 p = σ 321 p then 1 else 0) n) 0)), (0, ((n : Nat) : Int))], [], σ)) rfl rfl ?_
      refine TT.inc (cd := cd64) ((n + 1 : Nat) : Int) rfl rfl rfl rfl (fun h => absurd h.2 (show ¬ (0 = 1) by decide)) (aAdd_n (a := n) (b := 1) (by omega)) (ls' := [(2, 295), (0, 10), (0, (aAdd (sumA (fun p => if σ 320 p = σ 321 p then 1 else 0) n) 0)), (0, ((n + 1 : Nat) : Int))]) rfl ?_
      refine TT.steps (cd := cd64) 1 (c' := (89, [(2, 295), (0, 10), (0, (aAdd (sumA (fun p => if σ 320 p = σ 321 p then 1 else 0) n) 0)), (0, ((n + 1 : Nat) : Int))], [], σ)) rfl rfl ?_
      have := ih (n + 1) (by omega)
      simp only [sumA] at this
      first | (rw [if_pos (by first | assumption | omega)] at this; exact this) | (rw [if_neg (by first | assumption | omega)] at this; exact this) | exact this
    · refine TT.steps (cd := cd64) 3 (c' := (110, [(2, 295), (0, 10), (0, (sumA (fun p => if σ 320 p = σ 321 p then 1 else 0) n)), (0, ((n : Nat) : Int))], [(0, (aAdd (sumA (fun p => if σ 320 p = σ 321 p then 1 else 0) n) 1))], σ)) rfl rfl ?_
      refine TT.steps (cd := cd64) 1 (c' := (111, [(2, 295), (0, 10), (0, (aAdd (sumA (fun p => if σ 320 p = σ 321 p then 1 else 0) n) 1)), (0, ((n : Nat) : Int))], [], σ)) rfl rfl ?_
      refine TT.inc (cd := cd64) ((n + 1 : Nat) : Int) rfl rfl rfl rfl (fun h => absurd h.2 (show ¬ (0 = 1) by decide)) (aAdd_n (a := n) (b := 1) (by omega)) (ls' := [(2, 295), (0, 10), (0, (aAdd (sumA (fun p => if σ 320 p = σ 321 p then 1 else 0) n) 1)), (0, ((n + 1 : Nat) : Int))]) rfl ?_
      refine TT.steps (cd := cd64) 1 (c' := (89, [(2, 295), (0, 10), (0, (aAdd (sumA (fun p => if σ 320 p = σ 321 p then 1 else 0) n) 1)), (0, ((n + 1 : Nat) : Int))], [], σ)) rfl rfl ?_
      have := ih (n + 1) (by omega)
      simp only [sumA] at this
      first | (rw [if_pos (by first | assumption | omega)] at this; exact this) | (rw [if_neg (by first | assumption | omega)] at this; exact this) | exact this
theorem t_has0 (X : AX) (np ns nt : Nat) (σ : AH) {b : Nat} (hb : σ 295 13 = (b : Int)) (hb2 : b < 2) (hnp : σ 307 b = (np : Int)) (hnp2 : np ≤ 10) (hns : σ 297 b = (ns : Int)) (hns2 : ns ≤ 14) (hnt : σ 300 b = (nt : Int)) (hnt2 : nt ≤ 6)  : TT X 64 (0, [(2, 295), (0, 0), (9, 0), (9, 0)], [], σ) (fun r σ' => r = some (0, (ns : Int)) ∧ σ' = σ) := by
  refine TT.steps (cd := cd64) 8 (c' := (8, [(2, 295), (0, 0), (0, 0), (9, 0)], [(0, (σ 295 13)), (2, 297)], σ)) rfl rfl ?_
  refine TT.top0 (z := ((b : Nat) : Int)) hb ?_
  refine TT.aldN (cd := cd64) (297) (b) rfl rfl rfl rfl (show b < 2 by omega) ?_
  refine TT.top0 (z := ((ns : Nat) : Int)) hns ?_
  exact TT.ret (cd := cd64) rfl rfl rfl rfl (⟨rfl, rfl⟩)
theorem t_has1 (X : AX) (np ns nt : Nat) (σ : AH) {b : Nat} (hb : σ 295 13 = (b : Int)) (hb2 : b < 2) (hnp : σ 307 b = (np : Int)) (hnp2 : np ≤ 10) (hns : σ 297 b = (ns : Int)) (hns2 : ns ≤ 14) (hnt : σ 300 b = (nt : Int)) (hnt2 : nt ≤ 6)  : TT X 64 (0, [(2, 295), (0, 1), (9, 0), (9, 0)], [], σ) (fun r σ' => r = some (0, (nt : Int)) ∧ σ' = σ) := by
  refine TT.steps (cd := cd64) 8 (c' := (14, [(2, 295), (0, 1), (0, 0), (9, 0)], [(0, (σ 295 13)), (2, 300)], σ)) rfl rfl ?_
  refine TT.top0 (z := ((b : Nat) : Int)) hb ?_
  refine TT.aldN (cd := cd64) (300) (b) rfl rfl rfl rfl (show b < 2 by omega) ?_
  refine TT.top0 (z := ((nt : Nat) : Int)) hnt ?_
  exact TT.ret (cd := cd64) rfl rfl rfl rfl (⟨rfl, rfl⟩)
theorem t_has2 (X : AX) (np ns nt : Nat) (σ : AH) {b : Nat} (hb : σ 295 13 = (b : Int)) (hb2 : b < 2) (hnp : σ 307 b = (np : Int)) (hnp2 : np ≤ 10) (hns : σ 297 b = (ns : Int)) (hns2 : ns ≤ 14) (hnt : σ 300 b = (nt : Int)) (hnt2 : nt ≤ 6)  : TT X 64 (0, [(2, 295), (0, 2), (9, 0), (9, 0)], [], σ) (fun r σ' => r = some (0, (np : Int)) ∧ σ' = σ) := by
  refine TT.steps (cd := cd64) 8 (c' := (20, [(2, 295), (0, 2), (0, 0), (9, 0)], [(0, (σ 295 13)), (2, 307)], σ)) rfl rfl ?_
  refine TT.top0 (z := ((b : Nat) : Int)) hb ?_
  refine TT.aldN (cd := cd64) (307) (b) rfl rfl rfl rfl (show b < 2 by omega) ?_
  refine TT.top0 (z := ((np : Nat) : Int)) hnp ?_
  exact TT.ret (cd := cd64) rfl rfl rfl rfl (⟨rfl, rfl⟩)
theorem t_has3 (X : AX) (np ns nt : Nat) (σ : AH) {b : Nat} (hb : σ 295 13 = (b : Int)) (hb2 : b < 2) (hnp : σ 307 b = (np : Int)) (hnp2 : np ≤ 10) (hns : σ 297 b = (ns : Int)) (hns2 : ns ≤ 14) (hnt : σ 300 b = (nt : Int)) (hnt2 : nt ≤ 6)  : TT X 64 (0, [(2, 295), (0, 3), (9, 0), (9, 0)], [], σ) (fun r σ' => r = some (0, sumA (fun p => σ 322 p) np) ∧ σ' = σ) := by
  refine TT.steps (cd := cd64) 6 (c' := (24, [(2, 295), (0, 3), (0, 0), (0, 0)], [], σ)) rfl rfl ?_
  exact l_has3 X np σ hb hb2 hnp hnp2 np 0 (by omega)
theorem t_has4 (X : AX) (np ns nt : Nat) (σ : AH) {b : Nat} (hb : σ 295 13 = (b : Int)) (hb2 : b < 2) (hnp : σ 307 b = (np : Int)) (hnp2 : np ≤ 10) (hns : σ 297 b = (ns : Int)) (hns2 : ns ≤ 14) (hnt : σ 300 b = (nt : Int)) (hnt2 : nt ≤ 6)  : TT X 64 (0, [(2, 295), (0, 4), (9, 0), (9, 0)], [], σ) (fun r σ' => r = some (0, sumA (fun p => aMul (σ 322 p) (σ 314 (10 * b + p))) np) ∧ σ' = σ) := by
  refine TT.steps (cd := cd64) 6 (c' := (44, [(2, 295), (0, 4), (0, 0), (0, 0)], [], σ)) rfl rfl ?_
  exact l_has4 X np σ hb hb2 hnp hnp2 np 0 (by omega)
theorem t_has5 (X : AX) (np ns nt : Nat) (σ : AH) {b : Nat} (hb : σ 295 13 = (b : Int)) (hb2 : b < 2) (hnp : σ 307 b = (np : Int)) (hnp2 : np ≤ 10) (hns : σ 297 b = (ns : Int)) (hns2 : ns ≤ 14) (hnt : σ 300 b = (nt : Int)) (hnt2 : nt ≤ 6)  : TT X 64 (0, [(2, 295), (0, 5), (9, 0), (9, 0)], [], σ) (fun r σ' => r = some (0, σ 299 b) ∧ σ' = σ) := by
  refine TT.steps (cd := cd64) 8 (c' := (70, [(2, 295), (0, 5), (0, 0), (9, 0)], [(0, (σ 295 13)), (2, 299)], σ)) rfl rfl ?_
  refine TT.top0 (z := ((b : Nat) : Int)) hb ?_
  refine TT.aldN (cd := cd64) (299) (b) rfl rfl rfl rfl (show b < 2 by omega) ?_
  exact TT.ret (cd := cd64) rfl rfl rfl rfl (⟨rfl, rfl⟩)
theorem t_has6 (X : AX) (np ns nt : Nat) (σ : AH) {b : Nat} (hb : σ 295 13 = (b : Int)) (hb2 : b < 2) (hnp : σ 307 b = (np : Int)) (hnp2 : np ≤ 10) (hns : σ 297 b = (ns : Int)) (hns2 : ns ≤ 14) (hnt : σ 300 b = (nt : Int)) (hnt2 : nt ≤ 6)  : TT X 64 (0, [(2, 295), (0, 6), (9, 0), (9, 0)], [], σ) (fun r σ' => r = some (0, σ 316 0) ∧ σ' = σ) := by
  refine TT.steps (cd := cd64) 7 (c' := (75, [(2, 295), (0, 6), (0, 0), (9, 0)], [(0, 0), (2, 316)], σ)) rfl rfl ?_
  refine TT.aldN (cd := cd64) (316) (0) rfl rfl rfl rfl (show 0 < 22 by omega) ?_
  exact TT.ret (cd := cd64) rfl rfl rfl rfl (⟨rfl, rfl⟩)
theorem t_has7 (X : AX) (np ns nt : Nat) (σ : AH) {b : Nat} (hb : σ 295 13 = (b : Int)) (hb2 : b < 2) (hnp : σ 307 b = (np : Int)) (hnp2 : np ≤ 10) (hns : σ 297 b = (ns : Int)) (hns2 : ns ≤ 14) (hnt : σ 300 b = (nt : Int)) (hnt2 : nt ≤ 6)  : TT X 64 (0, [(2, 295), (0, 7), (9, 0), (9, 0)], [], σ) (fun r σ' => r = some (0, mDM σ np ns) ∧ σ' = mL0 σ ns) := by
  refine TT.steps (cd := cd64) 5 (c' := (78, [(2, 295), (0, 7), (0, 0), (9, 0)], [(2, 295)], σ)) rfl rfl ?_
  refine TT.call (cd := cd64) rfl rfl rfl (by decide) rfl (t_deadMany X np ns σ hb hb2 hnp hnp2 hns hns2) (fun r1 σ1 hq => ?_)
  rw [hq.1, hq.2]
  exact TT.ret (cd := cd64) rfl rfl rfl rfl (⟨rfl, rfl⟩)
theorem t_has8 (X : AX) (np ns nt : Nat) (σ : AH) {b : Nat} (hb : σ 295 13 = (b : Int)) (hb2 : b < 2) (hnp : σ 307 b = (np : Int)) (hnp2 : np ≤ 10) (hns : σ 297 b = (ns : Int)) (hns2 : ns ≤ 14) (hnt : σ 300 b = (nt : Int)) (hnt2 : nt ≤ 6)  : TT X 64 (0, [(2, 295), (0, 8), (9, 0), (9, 0)], [], σ) (fun r σ' => r = some (0, σ 295 42) ∧ σ' = σ) := by
  refine TT.steps (cd := cd64) 6 (c' := (82, [(2, 295), (0, 8), (0, 0), (9, 0)], [(0, (σ 295 42))], σ)) rfl rfl ?_
  exact TT.ret (cd := cd64) rfl rfl rfl rfl (⟨rfl, rfl⟩)
theorem t_has9 (X : AX) (np ns nt : Nat) (σ : AH) {b : Nat} (hb : σ 295 13 = (b : Int)) (hb2 : b < 2) (hnp : σ 307 b = (np : Int)) (hnp2 : np ≤ 10) (hns : σ 297 b = (ns : Int)) (hns2 : ns ≤ 14) (hnt : σ 300 b = (nt : Int)) (hnt2 : nt ≤ 6)  : TT X 64 (0, [(2, 295), (0, 9), (9, 0), (9, 0)], [], σ) (fun r σ' => r = some (0, bL2i (σ 295 43)) ∧ σ' = σ) := by
  refine TT.steps (cd := cd64) 7 (c' := (86, [(2, 295), (0, 9), (0, 0), (9, 0)], [(0, (bL2i (σ 295 43)))], σ)) rfl rfl ?_
  exact TT.ret (cd := cd64) rfl rfl rfl rfl (⟨rfl, rfl⟩)
theorem t_has10 (X : AX) (np ns nt : Nat) (σ : AH) {b : Nat} (hb : σ 295 13 = (b : Int)) (hb2 : b < 2) (hnp : σ 307 b = (np : Int)) (hnp2 : np ≤ 10) (hns : σ 297 b = (ns : Int)) (hns2 : ns ≤ 14) (hnt : σ 300 b = (nt : Int)) (hnt2 : nt ≤ 6)  : TT X 64 (0, [(2, 295), (0, 10), (9, 0), (9, 0)], [], σ) (fun r σ' => r = some (0, sumA (fun p => if σ 320 p = σ 321 p then 1 else 0) np) ∧ σ' = σ) := by
  refine TT.steps (cd := cd64) 6 (c' := (89, [(2, 295), (0, 10), (0, 0), (0, 0)], [], σ)) rfl rfl ?_
  exact l_has10 X np σ hb hb2 hnp hnp2 np 0 (by omega)
theorem t_hasN (X : AX) (w : Int) (hw : w < 0 ∨ 10 < w) (σ : AH)  : TT X 64 (0, [(2, 295), (0, w), (9, 0), (9, 0)], [], σ) (fun r σ' => r = some (0, -1) ∧ σ' = σ) := by
  refine TT.steps (cd := cd64) 4 (c' := ((swOf [(0, 4), (1, 10), (2, 16), (3, 22), (4, 42), (5, 66), (6, 72), (7, 77), (8, 80), (9, 83), (10, 87)] 115 w), [(2, 295), (0, w), (0, 0), (9, 0)], [], σ)) rfl rfl ?_
  refine TT.swc (fun h1 => ?_) (fun h1 => ?_)
  · exfalso
    omega
  refine TT.swc (fun h2 => ?_) (fun h2 => ?_)
  · exfalso
    omega
  refine TT.swc (fun h3 => ?_) (fun h3 => ?_)
  · exfalso
    omega
  refine TT.swc (fun h4 => ?_) (fun h4 => ?_)
  · exfalso
    omega
  refine TT.swc (fun h5 => ?_) (fun h5 => ?_)
  · exfalso
    omega
  refine TT.swc (fun h6 => ?_) (fun h6 => ?_)
  · exfalso
    omega
  refine TT.swc (fun h7 => ?_) (fun h7 => ?_)
  · exfalso
    omega
  refine TT.swc (fun h8 => ?_) (fun h8 => ?_)
  · exfalso
    omega
  refine TT.swc (fun h9 => ?_) (fun h9 => ?_)
  · exfalso
    omega
  refine TT.swc (fun h10 => ?_) (fun h10 => ?_)
  · exfalso
    omega
  refine TT.swc (fun h11 => ?_) (fun h11 => ?_)
  · exfalso
    omega
  show TT X 64 (115, [(2, 295), (0, w), (0, 0), (9, 0)], [], σ) _
  refine TT.steps (cd := cd64) 1 (c' := (116, [(2, 295), (0, w), (0, 0), (9, 0)], [(0, -1)], σ)) rfl rfl ?_
  exact TT.ret (cd := cd64) rfl rfl rfl rfl (⟨rfl, rfl⟩)
theorem l_station0 (X : AX) (s : Int) (np : Nat) (σ : AH) {b : Nat} (hb : σ 295 13 = (b : Int)) (hb2 : b < 2) (hnp : σ 307 b = (np : Int)) (hnp2 : np ≤ 10)  : ∀ (d n : Nat), n + d = np → TT X 66 (15, [(2, 295), (0, s), (0, 0), (0, (orA (fun p => if mBA (up2 σ 295 46 0) 0 p s then aShl 1 ((p : Nat) : Int) else 0) n)), (0, ((n : Nat) : Int))], [], (up2 σ 295 46 0)) (fun r σ' => r = some (0, orA (fun p => if mBA (up2 σ 295 46 0) 0 p s then aShl 1 ((p : Nat) : Int) else 0) np) ∧ σ' = (up2 σ 295 46 0)) := by
  intro d
  induction d with
  | zero =>
    intro n hn
    have hnn : n = np := by omega
    refine TT.steps (cd := cd66) 5 (c' := (20, [(2, 295), (0, s), (0, 0), (0, (orA (fun p => if mBA (up2 σ 295 46 0) 0 p s then aShl 1 ((p : Nat) : Int) else 0) n)), (0, ((n : Nat) : Int))], [(0, ((up2 σ 295 46 0) 295 13)), (2, 307), (0, ((n : Nat) : Int))], (up2 σ 295 46 0))) rfl rfl ?_
    refine TT.top0 (z := ((b : Nat) : Int)) ((up2_by _ _ _ (by decide)).trans hb) ?_
    refine TT.aldN (cd := cd66) (307) (b) rfl rfl rfl rfl (show b < 2 by omega) ?_
    refine TT.top0 (z := ((np : Nat) : Int)) ((up2_far (k := 295) _ _ _ _ (by decide)).trans hnp) ?_
    refine TT.steps (cd := cd66) 1 (c' := ((if decide (((np : Nat) : Int) ≤ ((n : Nat) : Int)) = true then 37 else 22), [(2, 295), (0, s), (0, 0), (0, (orA (fun p => if mBA (up2 σ 295 46 0) 0 p s then aShl 1 ((p : Nat) : Int) else 0) n)), (0, ((n : Nat) : Int))], [], (up2 σ 295 46 0))) rfl rfl ?_
    refine TT.br (p := ((np : Nat) : Int) ≤ ((n : Nat) : Int)) (fun h1 => ?_) (fun h1 => absurd (show ((np : Nat) : Int) ≤ ((n : Nat) : Int) by omega) h1)
    refine TT.steps (cd := cd66) 1 (c' := (38, [(2, 295), (0, s), (0, 0), (0, (orA (fun p => if mBA (up2 σ 295 46 0) 0 p s then aShl 1 ((p : Nat) : Int) else 0) n)), (0, ((n : Nat) : Int))], [(0, (orA (fun p => if mBA (up2 σ 295 46 0) 0 p s then aShl 1 ((p : Nat) : Int) else 0) n))], (up2 σ 295 46 0))) rfl rfl ?_
    exact TT.ret (cd := cd66) rfl rfl rfl rfl (⟨by rw [hnn], rfl⟩)
  | succ d ih =>
    intro n hn
    refine TT.steps (cd := cd66) 5 (c' := (20, [(2, 295), (0, s), (0, 0), (0, (orA (fun p => if mBA (up2 σ 295 46 0) 0 p s then aShl 1 ((p : Nat) : Int) else 0) n)), (0, ((n : Nat) : Int))], [(0, ((up2 σ 295 46 0) 295 13)), (2, 307), (0, ((n : Nat) : Int))], (up2 σ 295 46 0))) rfl rfl ?_
    refine TT.top0 (z := ((b : Nat) : Int)) ((up2_by _ _ _ (by decide)).trans hb) ?_
    refine TT.aldN (cd := cd66) (307) (b) rfl rfl rfl rfl (show b < 2 by omega) ?_
    refine TT.top0 (z := ((np : Nat) : Int)) ((up2_far (k := 295) _ _ _ _ (by decide)).trans hnp) ?_
    refine TT.steps (cd := cd66) 1 (c' := ((if decide (((np : Nat) : Int) ≤ ((n : Nat) : Int)) = true then 37 else 22), [(2, 295), (0, s), (0, 0), (0, (orA (fun p => if mBA (up2 σ 295 46 0) 0 p s then aShl 1 ((p : Nat) : Int) else 0) n)), (0, ((n : Nat) : Int))], [], (up2 σ 295 46 0))) rfl rfl ?_
    refine TT.br (p := ((np : Nat) : Int) ≤ ((n : Nat) : Int)) (fun h1 => absurd h1 (show ¬ (((np : Nat) : Int) ≤ ((n : Nat) : Int)) by omega)) (fun h1 => ?_)
    refine TT.steps (cd := cd66) 4 (c' := (26, [(2, 295), (0, s), (0, 0), (0, (orA (fun p => if mBA (up2 σ 295 46 0) 0 p s then aShl 1 ((p : Nat) : Int) else 0) n)), (0, ((n : Nat) : Int))], [(0, s), (0, ((n : Nat) : Int)), (2, 295), (0, (orA (fun p => if mBA (up2 σ 295 46 0) 0 p s then aShl 1 ((p : Nat) : Int) else 0) n))], (up2 σ 295 46 0))) rfl rfl ?_
    refine TT.call (cd := cd66) rfl rfl rfl (by decide) rfl (t_isBornAt X n (by omega) s (up2 σ 295 46 0) (up2_hit _ _ _ _) (by decide)) (fun r2 σ2 hq => ?_)
    rw [hq.1, hq.2]
    refine TT.steps (cd := cd66) 1 (c' := ((if decide (((if mBA (up2 σ 295 46 0) 0 n s then 1 else 0) : Int) = 0) = true then 32 else 28), [(2, 295), (0, s), (0, 0), (0, (orA (fun p => if mBA (up2 σ 295 46 0) 0 p s then aShl 1 ((p : Nat) : Int) else 0) n)), (0, ((n : Nat) : Int))], [(0, (orA (fun p => if mBA (up2 σ 295 46 0) 0 p s then aShl 1 ((p : Nat) : Int) else 0) n))], (up2 σ 295 46 0))) rfl rfl ?_
    refine TT.br (p := ((if mBA (up2 σ 295 46 0) 0 n s then 1 else 0) : Int) = 0) (fun h3 => ?_) (fun h3 => ?_)
    · replace h3 := ite_f h3
      refine TT.steps (cd := cd66) 3 (c' := (35, [(2, 295), (0, s), (0, 0), (0, (aOr (orA (fun p => if mBA (up2 σ 295 46 0) 0 p s then aShl 1 ((p : Nat) : Int) else 0) n) 0)), (0, ((n : Nat) : Int))], [], (up2 σ 295 46 0))) rfl rfl ?_
      refine TT.inc (cd := cd66) ((n + 1 : Nat) : Int) rfl rfl rfl rfl (fun h => absurd h.2 (show ¬ (0 = 1) by decide)) (aAdd_n (a := n) (b := 1) (by omega)) (ls' := [(2, 295), (0, s), (0, 0), (0, (aOr (orA (fun p => if mBA (up2 σ 295 46 0) 0 p s then aShl 1 ((p : Nat) : Int) else 0) n) 0)), (0, ((n + 1 : Nat) : Int))]) rfl ?_
      refine TT.steps (cd := cd66) 1 (c' := (15, [(2, 295), (0, s), (0, 0), (0, (aOr (orA (fun p => if mBA (up2 σ 295 46 0) 0 p s then aShl 1 ((p : Nat) : Int) else 0) n) 0)), (0, ((n + 1 : Nat) : Int))], [], (up2 σ 295 46 0))) rfl rfl ?_
      have := ih (n + 1) (by omega)
      simp only [orA] at this
      first | (rw [if_pos (by first | assumption | omega)] at this; exact this) | (rw [if_neg (by first | assumption | omega)] at this; exact this) | exact this
    · replace h3 := ite_t h3
      refine TT.steps (cd := cd66) 6 (c' := (35, [(2, 295), (0, s), (0, 0), (0, (aOr (orA (fun p => if mBA (up2 σ 295 46 0) 0 p s then aShl 1 ((p : Nat) : Int) else 0) n) (aShl 1 ((n : Nat) : Int)))), (0, ((n : Nat) : Int))], [], (up2 σ 295 46 0))) rfl rfl ?_
      refine TT.inc (cd := cd66) ((n + 1 : Nat) : Int) rfl rfl rfl rfl (fun h => absurd h.2 (show ¬ (0 = 1) by decide)) (aAdd_n (a := n) (b := 1) (by omega)) (ls' := [(2, 295), (0, s), (0, 0), (0, (aOr (orA (fun p => if mBA (up2 σ 295 46 0) 0 p s then aShl 1 ((p : Nat) : Int) else 0) n) (aShl 1 ((n : Nat) : Int)))), (0, ((n + 1 : Nat) : Int))]) rfl ?_
      refine TT.steps (cd := cd66) 1 (c' := (15, [(2, 295), (0, s), (0, 0), (0, (aOr (orA (fun p => if mBA (up2 σ 295 46 0) 0 p s then aShl 1 ((p : Nat) : Int) else 0) n) (aShl 1 ((n : Nat) : Int)))), (0, ((n + 1 : Nat) : Int))], [], (up2 σ 295 46 0))) rfl rfl ?_
      have := ih (n + 1) (by omega)
      simp only [orA] at this
      first | (rw [if_pos (by first | assumption | omega)] at this; exact this) | (rw [if_neg (by first | assumption | omega)] at this; exact this) | exact this
theorem l_station1 (X : AX) (s : Int) (np : Nat) (σ : AH) {b : Nat} (hb : σ 295 13 = (b : Int)) (hb2 : b < 2) (hnp : σ 307 b = (np : Int)) (hnp2 : np ≤ 10)  : ∀ (d n : Nat), n + d = np → TT X 66 (41, [(2, 295), (0, s), (0, 1), (0, (sumA (fun p => if σ 320 p = s then 1 else 0) n)), (0, ((n : Nat) : Int))], [], (up2 σ 295 46 0)) (fun r σ' => r = some (0, sumA (fun p => if σ 320 p = s then 1 else 0) np) ∧ σ' = (up2 σ 295 46 0)) := by
  intro d
  induction d with
  | zero =>
    intro n hn
    have hnn : n = np := by omega
    refine TT.steps (cd := cd66) 5 (c' := (46, [(2, 295), (0, s), (0, 1), (0, (sumA (fun p => if σ 320 p = s then 1 else 0) n)), (0, ((n : Nat) : Int))], [(0, ((up2 σ 295 46 0) 295 13)), (2, 307), (0, ((n : Nat) : Int))], (up2 σ 295 46 0))) rfl rfl ?_
    refine TT.top0 (z := ((b : Nat) : Int)) ((up2_by _ _ _ (by decide)).trans hb) ?_
    refine TT.aldN (cd := cd66) (307) (b) rfl rfl rfl rfl (show b < 2 by omega) ?_
    refine TT.top0 (z := ((np : Nat) : Int)) ((up2_far (k := 295) _ _ _ _ (by decide)).trans hnp) ?_
    refine TT.steps (cd := cd66) 1 (c' := ((if decide (((np : Nat) : Int) ≤ ((n : Nat) : Int)) = true then 62 else 48), [(2, 295), (0, s), (0, 1), (0, (sumA (fun p => if σ 320 p = s then 1 else 0) n)), (0, ((n : Nat) : Int))], [], (up2 σ 295 46 0))) rfl rfl ?_
    refine TT.br (p := ((np : Nat) : Int) ≤ ((n : Nat) : Int)) (fun h1 => ?_) (fun h1 => absurd (show ((np : Nat) : Int) ≤ ((n : Nat) : Int) by omega) h1)
    refine TT.steps (cd := cd66) 1 (c' := (63, [(2, 295), (0, s), (0, 1), (0, (sumA (fun p => if σ 320 p = s then 1 else 0) n)), (0, ((n : Nat) : Int))], [(0, (sumA (fun p => if σ 320 p = s then 1 else 0) n))], (up2 σ 295 46 0))) rfl rfl ?_
    exact TT.ret (cd := cd66) rfl rfl rfl rfl (⟨by rw [hnn], rfl⟩)
  | succ d ih =>
    intro n hn
    refine TT.steps (cd := cd66) 5 (c' := (46, [(2, 295), (0, s), (0, 1), (0, (sumA (fun p => if σ 320 p = s then 1 else 0) n)), (0, ((n : Nat) : Int))], [(0, ((up2 σ 295 46 0) 295 13)), (2, 307), (0, ((n : Nat) : Int))], (up2 σ 295 46 0))) rfl rfl ?_
    refine TT.top0 (z := ((b : Nat) : Int)) ((up2_by _ _ _ (by decide)).trans hb) ?_
    refine TT.aldN (cd := cd66) (307) (b) rfl rfl rfl rfl (show b < 2 by omega) ?_
    refine TT.top0 (z := ((np : Nat) : Int)) ((up2_far (k := 295) _ _ _ _ (by decide)).trans hnp) ?_
    refine TT.steps (cd := cd66) 1 (c' := ((if decide (((np : Nat) : Int) ≤ ((n : Nat) : Int)) = true then 62 else 48), [(2, 295), (0, s), (0, 1), (0, (sumA (fun p => if σ 320 p = s then 1 else 0) n)), (0, ((n : Nat) : Int))], [], (up2 σ 295 46 0))) rfl rfl ?_
    refine TT.br (p := ((np : Nat) : Int) ≤ ((n : Nat) : Int)) (fun h1 => absurd h1 (show ¬ (((np : Nat) : Int) ≤ ((n : Nat) : Int)) by omega)) (fun h1 => ?_)
    refine TT.steps (cd := cd66) 4 (c' := (52, [(2, 295), (0, s), (0, 1), (0, (sumA (fun p => if σ 320 p = s then 1 else 0) n)), (0, ((n : Nat) : Int))], [(0, ((n : Nat) : Int)), (2, 320), (0, (sumA (fun p => if σ 320 p = s then 1 else 0) n))], (up2 σ 295 46 0))) rfl rfl ?_
    refine TT.aldN (cd := cd66) (320) (n) rfl rfl rfl rfl (show n < 220 by omega) ?_
    refine TT.top0 (z := (σ 320 n)) (up2_far (k := 295) _ _ _ _ (by decide)) ?_
    refine TT.steps (cd := cd66) 2 (c' := ((if decide (¬ (σ 320 n) = s) = true then 57 else 55), [(2, 295), (0, s), (0, 1), (0, (sumA (fun p => if σ 320 p = s then 1 else 0) n)), (0, ((n : Nat) : Int))], [(0, (sumA (fun p => if σ 320 p = s then 1 else 0) n))], (up2 σ 295 46 0))) rfl rfl ?_
    refine TT.br (p := ¬ (σ 320 n) = s) (fun h2 => ?_) (fun h2 => ?_)
    · refine TT.steps (cd := cd66) 2 (c' := (59, [(2, 295), (0, s), (0, 1), (0, (sumA (fun p => if σ 320 p = s then 1 else 0) n)), (0, ((n : Nat) : Int))], [(0, (aAdd (sumA (fun p => if σ 320 p = s then 1 else 0) n) 0))], (up2 σ 295 46 0))) rfl rfl ?_
      refine TT.steps (cd := cd66) 1 (c' := (60, [(2, 295), (0, s), (0, 1), (0, (aAdd (sumA (fun p => if σ 320 p = s then 1 else 0) n) 0)), (0, ((n : Nat) : Int))], [], (up2 σ 295 46 0))) rfl rfl ?_
      refine TT.inc (cd := cd66) ((n + 1 : Nat) : Int) rfl rfl rfl rfl (fun h => absurd h.2 (show ¬ (0 = 1) by decide)) (aAdd_n (a := n) (b := 1) (by omega)) (ls' := [(2, 295), (0, s), (0, 1), (0, (aAdd (sumA (fun p => if σ 320 p = s then 1 else 0) n) 0)), (0, ((n + 1 : Nat) : Int))]) rfl ?_
      refine TT.steps (cd := cd66) 1 (c' := (41, [(2, 295), (0, s), (0, 1), (0, (aAdd (sumA (fun p => if σ 320 p = s then 1 else 0) n) 0)), (0, ((n + 1 : Nat) : Int))], [], (up2 σ 295 46 0))) rfl rfl ?_
      have := ih (n + 1) (by omega)
      simp only [sumA] at this
      first | (rw [if_pos (by first | assumption | omega)] at this; exact this) | (rw [if_neg (by first | assumption | omega)] at this; exact this) | exact this
    · refine TT.steps (cd := cd66) 3 (c' := (59, [(2, 295), (0, s), (0, 1), (0, (sumA (fun p => if σ 320 p = s then 1 else 0) n)), (0, ((n : Nat) : Int))], [(0, (aAdd (sumA (fun p => if σ 320 p = s then 1 else 0) n) 1))], (up2 σ 295 46 0))) rfl rfl ?_
      refine TT.steps (cd := cd66) 1 (c' := (60, [(2, 295), (0, s), (0, 1), (0, (aAdd (sumA (fun p => if σ 320 p = s then 1 else 0) n) 1)), (0, ((n : Nat) : Int))], [], (up2 σ 295 46 0))) rfl rfl ?_
      refine TT.inc (cd := cd66) ((n + 1 : Nat) : Int) rfl rfl rfl rfl (fun h => absurd h.2 (show ¬ (0 = 1) by decide)) (aAdd_n (a := n) (b := 1) (by omega)) (ls' := [(2, 295), (0, s), (0, 1), (0, (aAdd (sumA (fun p => if σ 320 p = s then 1 else 0) n) 1)), (0, ((n + 1 : Nat) : Int))]) rfl ?_
      refine TT.steps (cd := cd66) 1 (c' := (41, [(2, 295), (0, s), (0, 1), (0, (aAdd (sumA (fun p => if σ 320 p = s then 1 else 0) n) 1)), (0, ((n + 1 : Nat) : Int))], [], (up2 σ 295 46 0))) rfl rfl ?_
      have := ih (n + 1) (by omega)
      simp only [sumA] at this
      first | (rw [if_pos (by first | assumption | omega)] at this; exact this) | (rw [if_neg (by first | assumption | omega)] at this; exact this) | exact this
theorem l_station2 (X : AX) (s : Int) (np : Nat) (σ : AH) {b : Nat} (hb : σ 295 13 = (b : Int)) (hb2 : b < 2) (hnp : σ 307 b = (np : Int)) (hnp2 : np ≤ 10)  : ∀ (d n : Nat), n + d = np → TT X 66 (66, [(2, 295), (0, s), (0, 2), (0, (sumA (fun p => if σ 321 p = s then 1 else 0) n)), (0, ((n : Nat) : Int))], [], (up2 σ 295 46 0)) (fun r σ' => r = some (0, sumA (fun p => if σ 321 p = s then 1 else 0) np) ∧ σ' = (up2 σ 295 46 0)) := by
  intro d
  induction d with
  | zero =>
    intro n hn
    have hnn : n = np := by omega
    refine TT.steps (cd := cd66) 5 (c' := (71, [(2, 295), (0, s), (0, 2), (0, (sumA (fun p => if σ 321 p = s then 1 else 0) n)), (0, ((n : Nat) : Int))], [(0, ((up2 σ 295 46 0) 295 13)), (2, 307), (0, ((n : Nat) : Int))], (up2 σ 295 46 0))) rfl rfl ?_
    refine TT.top0 (z := ((b : Nat) : Int)) ((up2_by _ _ _ (by decide)).trans hb) ?_
    refine TT.aldN (cd := cd66) (307) (b) rfl rfl rfl rfl (show b < 2 by omega) ?_
    refine TT.top0 (z := ((np : Nat) : Int)) ((up2_far (k := 295) _ _ _ _ (by decide)).trans hnp) ?_
    refine TT.steps (cd := cd66) 1 (c' := ((if decide (((np : Nat) : Int) ≤ ((n : Nat) : Int)) = true then 87 else 73), [(2, 295), (0, s), (0, 2), (0, (sumA (fun p => if σ 321 p = s then 1 else 0) n)), (0, ((n : Nat) : Int))], [], (up2 σ 295 46 0))) rfl rfl ?_
    refine TT.br (p := ((np : Nat) : Int) ≤ ((n : Nat) : Int)) (fun h1 => ?_) (fun h1 => absurd (show ((np : Nat) : Int) ≤ ((n : Nat) : Int) by omega) h1)
    refine TT.steps (cd := cd66) 1 (c' := (88, [(2, 295), (0, s), (0, 2), (0, (sumA (fun p => if σ 321 p = s then 1 else 0) n)), (0, ((n : Nat) : Int))], [(0, (sumA (fun p => if σ 321 p = s then 1 else 0) n))], (up2 σ 295 46 0))) rfl rfl ?_
    exact TT.ret (cd := cd66) rfl rfl rfl rfl (⟨by rw [hnn], rfl⟩)
  | succ d ih =>
    intro n hn
    refine TT.steps (cd := cd66) 5 (c' := (71, [(2, 295), (0, s), (0, 2), (0, (sumA (fun p => if σ 321 p = s then 1 else 0) n)), (0, ((n : Nat) : Int))], [(0, ((up2 σ 295 46 0) 295 13)), (2, 307), (0, ((n : Nat) : Int))], (up2 σ 295 46 0))) rfl rfl ?_
    refine TT.top0 (z := ((b : Nat) : Int)) ((up2_by _ _ _ (by decide)).trans hb) ?_
    refine TT.aldN (cd := cd66) (307) (b) rfl rfl rfl rfl (show b < 2 by omega) ?_
    refine TT.top0 (z := ((np : Nat) : Int)) ((up2_far (k := 295) _ _ _ _ (by decide)).trans hnp) ?_
    refine TT.steps (cd := cd66) 1 (c' := ((if decide (((np : Nat) : Int) ≤ ((n : Nat) : Int)) = true then 87 else 73), [(2, 295), (0, s), (0, 2), (0, (sumA (fun p => if σ 321 p = s then 1 else 0) n)), (0, ((n : Nat) : Int))], [], (up2 σ 295 46 0))) rfl rfl ?_
    refine TT.br (p := ((np : Nat) : Int) ≤ ((n : Nat) : Int)) (fun h1 => absurd h1 (show ¬ (((np : Nat) : Int) ≤ ((n : Nat) : Int)) by omega)) (fun h1 => ?_)
    refine TT.steps (cd := cd66) 4 (c' := (77, [(2, 295), (0, s), (0, 2), (0, (sumA (fun p => if σ 321 p = s then 1 else 0) n)), (0, ((n : Nat) : Int))], [(0, ((n : Nat) : Int)), (2, 321), (0, (sumA (fun p => if σ 321 p = s then 1 else 0) n))], (up2 σ 295 46 0))) rfl rfl ?_
    refine TT.aldN (cd := cd66) (321) (n) rfl rfl rfl rfl (show n < 220 by omega) ?_
    refine TT.top0 (z := (σ 321 n)) (up2_far (k := 295) _ _ _ _ (by decide)) ?_
    refine TT.steps (cd := cd66) 2 (c' := ((if decide (¬ (σ 321 n) = s) = true then 82 else 80), [(2, 295), (0, s), (0, 2), (0, (sumA (fun p => if σ 321 p = s then 1 else 0) n)), (0, ((n : Nat) : Int))], [(0, (sumA (fun p => if σ 321 p = s then 1 else 0) n))], (up2 σ 295 46 0))) rfl rfl ?_
    refine TT.br (p := ¬ (σ 321 n) = s) (fun h2 => ?_) (fun h2 => ?_)
    · refine TT.steps (cd := cd66) 2 (c' := (84, [(2, 295), (0, s), (0, 2), (0, (sumA (fun p => if σ 321 p = s then 1 else 0) n)), (0, ((n : Nat) : Int))], [(0, (aAdd (sumA (fun p => if σ 321 p = s then 1 else 0) n) 0))], (up2 σ 295 46 0))) rfl rfl ?_
      refine TT.steps (cd := cd66) 1 (c' := (85, [(2, 295), (0, s), (0, 2), (0, (aAdd (sumA (fun p => if σ 321 p = s then 1 else 0) n) 0)), (0, ((n : Nat) : Int))], [], (up2 σ 295 46 0))) rfl rfl ?_
      refine TT.inc (cd := cd66) ((n + 1 : Nat) : Int) rfl rfl rfl rfl (fun h => absurd h.2 (show ¬ (0 = 1) by decide)) (aAdd_n (a := n) (b := 1) (by omega)) (ls' := [(2, 295), (0, s), (0, 2), (0, (aAdd (sumA (fun p => if σ 321 p = s then 1 else 0) n) 0)), (0, ((n + 1 : Nat) : Int))]) rfl ?_
      refine TT.steps (cd := cd66) 1 (c' := (66, [(2, 295), (0, s), (0, 2), (0, (aAdd (sumA (fun p => if σ 321 p = s then 1 else 0) n) 0)), (0, ((n + 1 : Nat) : Int))], [], (up2 σ 295 46 0))) rfl rfl ?_
      have := ih (n + 1) (by omega)
      simp only [sumA] at this
      first | (rw [if_pos (by first | assumption | omega)] at this; exact this) | (rw [if_neg (by first | assumption | omega)] at this; exact this) | exact this
    · refine TT.steps (cd := cd66) 3 (c' := (84, [(2, 295), (0, s), (0, 2), (0, (sumA (fun p => if σ 321 p = s then 1 else 0) n)), (0, ((n : Nat) : Int))], [(0, (aAdd (sumA (fun p => if σ 321 p = s then 1 else 0) n) 1))], (up2 σ 295 46 0))) rfl rfl ?_
      refine TT.steps (cd := cd66) 1 (c' := (85, [(2, 295), (0, s), (0, 2), (0, (aAdd (sumA (fun p => if σ 321 p = s then 1 else 0) n) 1)), (0, ((n : Nat) : Int))], [], (up2 σ 295 46 0))) rfl rfl ?_
      refine TT.inc (cd := cd66) ((n + 1 : Nat) : Int) rfl rfl rfl rfl (fun h => absurd h.2 (show ¬ (0 = 1) by decide)) (aAdd_n (a := n) (b := 1) (by omega)) (ls' := [(2, 295), (0, s), (0, 2), (0, (aAdd (sumA (fun p => if σ 321 p = s then 1 else 0) n) 1)), (0, ((n + 1 : Nat) : Int))]) rfl ?_
      refine TT.steps (cd := cd66) 1 (c' := (66, [(2, 295), (0, s), (0, 2), (0, (aAdd (sumA (fun p => if σ 321 p = s then 1 else 0) n) 1)), (0, ((n + 1 : Nat) : Int))], [], (up2 σ 295 46 0))) rfl rfl ?_
      have := ih (n + 1) (by omega)
      simp only [sumA] at this
      first | (rw [if_pos (by first | assumption | omega)] at this; exact this) | (rw [if_neg (by first | assumption | omega)] at this; exact this) | exact this
theorem t_stationN (X : AX) (s w : Int) (ns : Nat) (σ : AH) {b : Nat} (hb : σ 295 13 = (b : Int)) (hb2 : b < 2) (hns : σ 297 b = (ns : Int)) (hns2 : ns ≤ 14) (hs : ¬ (0 ≤ s ∧ s < (ns : Int)))  : TT X 66 (0, [(2, 295), (0, s), (0, w), (9, 0), (9, 0)], [], σ) (fun r σ' => r = some (0, -1) ∧ σ' = σ) := by
  refine TT.steps (cd := cd66) 2 (c' := (2, [(2, 295), (0, s), (0, w), (9, 0), (9, 0)], [(0, s), (2, 295)], σ)) rfl rfl ?_
  refine TT.call (cd := cd66) rfl rfl rfl (by decide) rfl (t_isStation X s σ hb hb2) (fun r1 σ1 hq => ?_)
  rw [hq.1, hq.2, hns]
  refine TT.steps (cd := cd66) 1 (c' := ((if decide (¬ ((if 0 ≤ s ∧ s < (ns : Int) then 1 else 0) : Int) = 0) = true then 6 else 4), [(2, 295), (0, s), (0, w), (9, 0), (9, 0)], [], σ)) rfl rfl ?_
  refine TT.br (p := ¬ ((if 0 ≤ s ∧ s < (ns : Int) then 1 else 0) : Int) = 0) (fun h2 => ?_) (fun h2 => ?_)
  · replace h2 := ite_t h2
    exact absurd (by assumption) hs
  · replace h2 := ite_f (Decidable.not_not.mp h2)
    refine TT.steps (cd := cd66) 1 (c' := (5, [(2, 295), (0, s), (0, w), (9, 0), (9, 0)], [(0, -1)], σ)) rfl rfl ?_
    exact TT.ret (cd := cd66) rfl rfl rfl rfl (⟨rfl, rfl⟩)
theorem t_station0 (X : AX) (s : Int) (np ns : Nat) (σ : AH) {b : Nat} (hb : σ 295 13 = (b : Int)) (hb2 : b < 2) (hnp : σ 307 b = (np : Int)) (hnp2 : np ≤ 10) (hns : σ 297 b = (ns : Int)) (hns2 : ns ≤ 14) (hs : 0 ≤ s ∧ s < (ns : Int))  : TT X 66 (0, [(2, 295), (0, s), (0, 0), (9, 0), (9, 0)], [], σ) (fun r σ' => r = some (0, orA (fun p => if mBA (up2 σ 295 46 0) 0 p s then aShl 1 ((p : Nat) : Int) else 0) np) ∧ σ' = (up2 σ 295 46 0)) := by
  refine TT.steps (cd := cd66) 2 (c' := (2, [(2, 295), (0, s), (0, 0), (9, 0), (9, 0)], [(0, s), (2, 295)], σ)) rfl rfl ?_
  refine TT.call (cd := cd66) rfl rfl rfl (by decide) rfl (t_isStation X s σ hb hb2) (fun r1 σ1 hq => ?_)
  rw [hq.1, hq.2, hns]
  refine TT.steps (cd := cd66) 1 (c' := ((if decide (¬ ((if 0 ≤ s ∧ s < (ns : Int) then 1 else 0) : Int) = 0) = true then 6 else 4), [(2, 295), (0, s), (0, 0), (9, 0), (9, 0)], [], σ)) rfl rfl ?_
  refine TT.br (p := ¬ ((if 0 ≤ s ∧ s < (ns : Int) then 1 else 0) : Int) = 0) (fun h2 => ?_) (fun h2 => absurd (show ¬ ((if 0 ≤ s ∧ s < (ns : Int) then 1 else 0) : Int) = 0 by (rw [if_pos hs]; decide)) h2)
  refine TT.steps (cd := cd66) 9 (c' := (15, [(2, 295), (0, s), (0, 0), (0, 0), (0, 0)], [], (up2 σ 295 46 0))) rfl rfl ?_
  exact l_station0 X s np σ hb hb2 hnp hnp2 np 0 (by omega)
theorem t_station1 (X : AX) (s : Int) (np ns : Nat) (σ : AH) {b : Nat} (hb : σ 295 13 = (b : Int)) (hb2 : b < 2) (hnp : σ 307 b = (np : Int)) (hnp2 : np ≤ 10) (hns : σ 297 b = (ns : Int)) (hns2 : ns ≤ 14) (hs : 0 ≤ s ∧ s < (ns : Int))  : TT X 66 (0, [(2, 295), (0, s), (0, 1), (9, 0), (9, 0)], [], σ) (fun r σ' => r = some (0, sumA (fun p => if σ 320 p = s then 1 else 0) np) ∧ σ' = (up2 σ 295 46 0)) := by
  refine TT.steps (cd := cd66) 2 (c' := (2, [(2, 295), (0, s), (0, 1), (9, 0), (9, 0)], [(0, s), (2, 295)], σ)) rfl rfl ?_
  refine TT.call (cd := cd66) rfl rfl rfl (by decide) rfl (t_isStation X s σ hb hb2) (fun r1 σ1 hq => ?_)
  rw [hq.1, hq.2, hns]
  refine TT.steps (cd := cd66) 1 (c' := ((if decide (¬ ((if 0 ≤ s ∧ s < (ns : Int) then 1 else 0) : Int) = 0) = true then 6 else 4), [(2, 295), (0, s), (0, 1), (9, 0), (9, 0)], [], σ)) rfl rfl ?_
  refine TT.br (p := ¬ ((if 0 ≤ s ∧ s < (ns : Int) then 1 else 0) : Int) = 0) (fun h2 => ?_) (fun h2 => absurd (show ¬ ((if 0 ≤ s ∧ s < (ns : Int) then 1 else 0) : Int) = 0 by (rw [if_pos hs]; decide)) h2)
  refine TT.steps (cd := cd66) 9 (c' := (41, [(2, 295), (0, s), (0, 1), (0, 0), (0, 0)], [], (up2 σ 295 46 0))) rfl rfl ?_
  exact l_station1 X s np σ hb hb2 hnp hnp2 np 0 (by omega)
theorem t_station2 (X : AX) (s : Int) (np ns : Nat) (σ : AH) {b : Nat} (hb : σ 295 13 = (b : Int)) (hb2 : b < 2) (hnp : σ 307 b = (np : Int)) (hnp2 : np ≤ 10) (hns : σ 297 b = (ns : Int)) (hns2 : ns ≤ 14) (hs : 0 ≤ s ∧ s < (ns : Int))  : TT X 66 (0, [(2, 295), (0, s), (0, 2), (9, 0), (9, 0)], [], σ) (fun r σ' => r = some (0, sumA (fun p => if σ 321 p = s then 1 else 0) np) ∧ σ' = (up2 σ 295 46 0)) := by
  refine TT.steps (cd := cd66) 2 (c' := (2, [(2, 295), (0, s), (0, 2), (9, 0), (9, 0)], [(0, s), (2, 295)], σ)) rfl rfl ?_
  refine TT.call (cd := cd66) rfl rfl rfl (by decide) rfl (t_isStation X s σ hb hb2) (fun r1 σ1 hq => ?_)
  rw [hq.1, hq.2, hns]
  refine TT.steps (cd := cd66) 1 (c' := ((if decide (¬ ((if 0 ≤ s ∧ s < (ns : Int) then 1 else 0) : Int) = 0) = true then 6 else 4), [(2, 295), (0, s), (0, 2), (9, 0), (9, 0)], [], σ)) rfl rfl ?_
  refine TT.br (p := ¬ ((if 0 ≤ s ∧ s < (ns : Int) then 1 else 0) : Int) = 0) (fun h2 => ?_) (fun h2 => absurd (show ¬ ((if 0 ≤ s ∧ s < (ns : Int) then 1 else 0) : Int) = 0 by (rw [if_pos hs]; decide)) h2)
  refine TT.steps (cd := cd66) 9 (c' := (66, [(2, 295), (0, s), (0, 2), (0, 0), (0, 0)], [], (up2 σ 295 46 0))) rfl rfl ?_
  exact l_station2 X s np σ hb hb2 hnp hnp2 np 0 (by omega)
theorem t_stationD (X : AX) (w : Int) (hw : w < 0 ∨ 3 < w) (s : Int) (np ns : Nat) (σ : AH) {b : Nat} (hb : σ 295 13 = (b : Int)) (hb2 : b < 2) (hnp : σ 307 b = (np : Int)) (hnp2 : np ≤ 10) (hns : σ 297 b = (ns : Int)) (hns2 : ns ≤ 14) (hs : 0 ≤ s ∧ s < (ns : Int))  : TT X 66 (0, [(2, 295), (0, s), (0, w), (9, 0), (9, 0)], [], σ) (fun r σ' => r = some (0, -1) ∧ σ' = (up2 σ 295 46 0)) := by
  refine TT.steps (cd := cd66) 2 (c' := (2, [(2, 295), (0, s), (0, w), (9, 0), (9, 0)], [(0, s), (2, 295)], σ)) rfl rfl ?_
  refine TT.call (cd := cd66) rfl rfl rfl (by decide) rfl (t_isStation X s σ hb hb2) (fun r1 σ1 hq => ?_)
  rw [hq.1, hq.2, hns]
  refine TT.steps (cd := cd66) 1 (c' := ((if decide (¬ ((if 0 ≤ s ∧ s < (ns : Int) then 1 else 0) : Int) = 0) = true then 6 else 4), [(2, 295), (0, s), (0, w), (9, 0), (9, 0)], [], σ)) rfl rfl ?_
  refine TT.br (p := ¬ ((if 0 ≤ s ∧ s < (ns : Int) then 1 else 0) : Int) = 0) (fun h2 => ?_) (fun h2 => absurd (show ¬ ((if 0 ≤ s ∧ s < (ns : Int) then 1 else 0) : Int) = 0 by (rw [if_pos hs]; decide)) h2)
  refine TT.steps (cd := cd66) 7 (c' := ((swOf [(0, 13), (1, 39), (2, 64), (3, 89)] 114 w), [(2, 295), (0, s), (0, w), (0, 0), (9, 0)], [], (up2 σ 295 46 0))) rfl rfl ?_
  refine TT.swc (fun h3 => ?_) (fun h3 => ?_)
  · exfalso
    omega
  refine TT.swc (fun h4 => ?_) (fun h4 => ?_)
  · exfalso
    omega
  refine TT.swc (fun h5 => ?_) (fun h5 => ?_)
  · exfalso
    omega
  refine TT.swc (fun h6 => ?_) (fun h6 => ?_)
  · exfalso
    omega
  show TT X 66 (114, [(2, 295), (0, s), (0, w), (0, 0), (9, 0)], [], (up2 σ 295 46 0)) _
  refine TT.steps (cd := cd66) 1 (c' := (115, [(2, 295), (0, s), (0, w), (0, 0), (9, 0)], [(0, -1)], (up2 σ 295 46 0))) rfl rfl ?_
  exact TT.ret (cd := cd66) rfl rfl rfl rfl (⟨rfl, rfl⟩)
/-- sums that go on from a number; the largest -/
def sumF (a : Int) (f : Nat → Int) : Nat → Int
  | 0 => a
  | n + 1 => aAdd (sumF a f n) (f n)
def maxA (f : Nat → Int) : Nat → Int
  | 0 => -1
  | n + 1 => if maxA f n < f n then f n else maxA f n
def sumT (f : Nat → Nat → Int) (L : Nat → Nat) : Nat → Int
  | 0 => 0
  | t + 1 => sumF (sumT f L t) (f t) (L t)
theorem l_sm0 (X : AX) (Q : Option AV → AH → Prop) (t lt : Nat) (ht : t < 6) (a : Int) (σ : AH) {b : Nat} (hb : σ 295 13 = (b : Int)) (hb2 : b < 2) (hlt : σ 304 (6 * b + t) = (lt : Int)) (hlt2 : lt ≤ 8) (kk : ∀ x : AV, TT X 80 (42, [(2, 295), (0, 0), (0, (sumF a (fun k => σ 325 (8 * t + k)) lt)), (0, ((t : Nat) : Int)), x], [], σ) Q) : ∀ (d n : Nat), n + d = lt → TT X 80 (13, [(2, 295), (0, 0), (0, (sumF a (fun k => σ 325 (8 * t + k)) n)), (0, ((t : Nat) : Int)), (0, ((n : Nat) : Int))], [], σ) Q := by
  intro d
  induction d with
  | zero =>
    intro n hn
    have hnn : n = lt := by omega
    refine TT.steps (cd := cd80) 3 (c' := (16, [(2, 295), (0, 0), (0, (sumF a (fun k => σ 325 (8 * t + k)) n)), (0, ((t : Nat) : Int)), (0, ((n : Nat) : Int))], [(0, ((t : Nat) : Int)), (2, 295), (0, ((n : Nat) : Int))], σ)) rfl rfl ?_
    refine TT.call (cd := cd80) rfl rfl rfl (by decide) rfl (t_callsOf X t (by omega) σ hb hb2) (fun r1 σ1 hq => ?_)
    rw [hq.1, hq.2]
    refine TT.top0 (z := ((lt : Nat) : Int)) hlt ?_
    refine TT.steps (cd := cd80) 1 (c' := ((if decide (((lt : Nat) : Int) ≤ ((n : Nat) : Int)) = true then 42 else 18), [(2, 295), (0, 0), (0, (sumF a (fun k => σ 325 (8 * t + k)) n)), (0, ((t : Nat) : Int)), (0, ((n : Nat) : Int))], [], σ)) rfl rfl ?_
    refine TT.br (p := ((lt : Nat) : Int) ≤ ((n : Nat) : Int)) (fun h2 => ?_) (fun h2 => absurd (show ((lt : Nat) : Int) ≤ ((n : Nat) : Int) by omega) h2)
    subst hnn
    exact kk _
  | succ d ih =>
    intro n hn
    refine TT.steps (cd := cd80) 3 (c' := (16, [(2, 295), (0, 0), (0, (sumF a (fun k => σ 325 (8 * t + k)) n)), (0, ((t : Nat) : Int)), (0, ((n : Nat) : Int))], [(0, ((t : Nat) : Int)), (2, 295), (0, ((n : Nat) : Int))], σ)) rfl rfl ?_
    refine TT.call (cd := cd80) rfl rfl rfl (by decide) rfl (t_callsOf X t (by omega) σ hb hb2) (fun r1 σ1 hq => ?_)
    rw [hq.1, hq.2]
    refine TT.top0 (z := ((lt : Nat) : Int)) hlt ?_
    refine TT.steps (cd := cd80) 1 (c' := ((if decide (((lt : Nat) : Int) ≤ ((n : Nat) : Int)) = true then 42 else 18), [(2, 295), (0, 0), (0, (sumF a (fun k => σ 325 (8 * t + k)) n)), (0, ((t : Nat) : Int)), (0, ((n : Nat) : Int))], [], σ)) rfl rfl ?_
    refine TT.br (p := ((lt : Nat) : Int) ≤ ((n : Nat) : Int)) (fun h2 => absurd h2 (show ¬ (((lt : Nat) : Int) ≤ ((n : Nat) : Int)) by omega)) (fun h2 => ?_)
    refine TT.steps (cd := cd80) 8 (c' := (35, [(2, 295), (0, 0), (0, (sumF a (fun k => σ 325 (8 * t + k)) n)), (0, ((t : Nat) : Int)), (0, ((n : Nat) : Int))], [(0, (aMul 8 ((t : Nat) : Int))), (2, 325), (0, (sumF a (fun k => σ 325 (8 * t + k)) n))], σ)) rfl rfl ?_
    refine TT.top0 (z := ((8 * t : Nat) : Int)) (aMul_n (a := 8) (b := t) (by omega)) ?_
    refine TT.steps (cd := cd80) 2 (c' := (37, [(2, 295), (0, 0), (0, (sumF a (fun k => σ 325 (8 * t + k)) n)), (0, ((t : Nat) : Int)), (0, ((n : Nat) : Int))], [(0, (aAdd ((8 * t : Nat) : Int) ((n : Nat) : Int))), (2, 325), (0, (sumF a (fun k => σ 325 (8 * t + k)) n))], σ)) rfl rfl ?_
    refine TT.top0 (z := (((8 * t) + n : Nat) : Int)) (aAdd_n (a := 8 * t) (b := n) (by omega)) ?_
    refine TT.aldN (cd := cd80) (325) ((8 * t) + n) rfl rfl rfl rfl (show (8 * t) + n < 48 by omega) ?_
    refine TT.steps (cd := cd80) 1 (c' := (39, [(2, 295), (0, 0), (0, (sumF a (fun k => σ 325 (8 * t + k)) n)), (0, ((t : Nat) : Int)), (0, ((n : Nat) : Int))], [(0, (aAdd (sumF a (fun k => σ 325 (8 * t + k)) n) (σ 325 ((8 * t) + n))))], σ)) rfl rfl ?_
    refine TT.steps (cd := cd80) 1 (c' := (40, [(2, 295), (0, 0), (0, (aAdd (sumF a (fun k => σ 325 (8 * t + k)) n) (σ 325 ((8 * t) + n)))), (0, ((t : Nat) : Int)), (0, ((n : Nat) : Int))], [], σ)) rfl rfl ?_
    refine TT.inc (cd := cd80) ((n + 1 : Nat) : Int) rfl rfl rfl rfl (fun h => absurd h.2 (show ¬ (0 = 1) by decide)) (aAdd_n (a := n) (b := 1) (by omega)) (ls' := [(2, 295), (0, 0), (0, (aAdd (sumF a (fun k => σ 325 (8 * t + k)) n) (σ 325 ((8 * t) + n)))), (0, ((t : Nat) : Int)), (0, ((n + 1 : Nat) : Int))]) rfl ?_
    refine TT.steps (cd := cd80) 1 (c' := (13, [(2, 295), (0, 0), (0, (aAdd (sumF a (fun k => σ 325 (8 * t + k)) n) (σ 325 ((8 * t) + n)))), (0, ((t : Nat) : Int)), (0, ((n + 1 : Nat) : Int))], [], σ)) rfl rfl ?_
    exact ih (n + 1) (by omega)
theorem l_smo0 (X : AX) (nt : Nat) (L : Nat → Nat) (σ : AH) {b : Nat} (hb : σ 295 13 = (b : Int)) (hb2 : b < 2) (hnt : σ 300 b = (nt : Int)) (hnt2 : nt ≤ 6) (hL : ∀ t, t < nt → σ 304 (6 * b + t) = (L t : Int) ∧ 2 ≤ L t ∧ L t ≤ 8) : ∀ (d n : Nat), n + d = nt → ∀ x : AV, TT X 80 (4, [(2, 295), (0, 0), (0, (sumT (fun t k => σ 325 (8 * t + k)) L n)), (0, ((n : Nat) : Int)), x], [], σ) (fun r σ' => r = some (0, sumT (fun t k => σ 325 (8 * t + k)) L nt) ∧ σ' = σ) := by
  intro d
  induction d with
  | zero =>
    intro n hn x
    have hnn : n = nt := by omega
    refine TT.steps (cd := cd80) 5 (c' := (9, [(2, 295), (0, 0), (0, (sumT (fun t k => σ 325 (8 * t + k)) L n)), (0, ((n : Nat) : Int)), x], [(0, (σ 295 13)), (2, 300), (0, ((n : Nat) : Int))], σ)) rfl rfl ?_
    refine TT.top0 (z := ((b : Nat) : Int)) hb ?_
    refine TT.aldN (cd := cd80) (300) (b) rfl rfl rfl rfl (show b < 2 by omega) ?_
    refine TT.top0 (z := ((nt : Nat) : Int)) hnt ?_
    refine TT.steps (cd := cd80) 1 (c' := ((if decide (((nt : Nat) : Int) ≤ ((n : Nat) : Int)) = true then 44 else 11), [(2, 295), (0, 0), (0, (sumT (fun t k => σ 325 (8 * t + k)) L n)), (0, ((n : Nat) : Int)), x], [], σ)) rfl rfl ?_
    refine TT.br (p := ((nt : Nat) : Int) ≤ ((n : Nat) : Int)) (fun h1 => ?_) (fun h1 => absurd (show ((nt : Nat) : Int) ≤ ((n : Nat) : Int) by omega) h1)
    refine TT.steps (cd := cd80) 1 (c' := (45, [(2, 295), (0, 0), (0, (sumT (fun t k => σ 325 (8 * t + k)) L n)), (0, ((n : Nat) : Int)), x], [(0, (sumT (fun t k => σ 325 (8 * t + k)) L n))], σ)) rfl rfl ?_
    exact TT.ret (cd := cd80) rfl rfl rfl rfl (⟨by rw [hnn], rfl⟩)
  | succ d ih =>
    intro n hn x
    refine TT.steps (cd := cd80) 5 (c' := (9, [(2, 295), (0, 0), (0, (sumT (fun t k => σ 325 (8 * t + k)) L n)), (0, ((n : Nat) : Int)), x], [(0, (σ 295 13)), (2, 300), (0, ((n : Nat) : Int))], σ)) rfl rfl ?_
    refine TT.top0 (z := ((b : Nat) : Int)) hb ?_
    refine TT.aldN (cd := cd80) (300) (b) rfl rfl rfl rfl (show b < 2 by omega) ?_
    refine TT.top0 (z := ((nt : Nat) : Int)) hnt ?_
    refine TT.steps (cd := cd80) 1 (c' := ((if decide (((nt : Nat) : Int) ≤ ((n : Nat) : Int)) = true then 44 else 11), [(2, 295), (0, 0), (0, (sumT (fun t k => σ 325 (8 * t + k)) L n)), (0, ((n : Nat) : Int)), x], [], σ)) rfl rfl ?_
    refine TT.br (p := ((nt : Nat) : Int) ≤ ((n : Nat) : Int)) (fun h1 => absurd h1 (show ¬ (((nt : Nat) : Int) ≤ ((n : Nat) : Int)) by omega)) (fun h1 => ?_)
    refine TT.steps (cd := cd80) 2 (c' := (13, [(2, 295), (0, 0), (0, (sumT (fun t k => σ 325 (8 * t + k)) L n)), (0, ((n : Nat) : Int)), (0, 0)], [], σ)) rfl rfl ?_
    refine l_sm0 X _ n (L n) (by omega) _ σ hb hb2 (hL n (by omega)).1 (hL n (by omega)).2.2 (fun x => ?_) (L n) 0 (by omega)
    refine TT.inc (cd := cd80) ((n + 1 : Nat) : Int) rfl rfl rfl rfl (fun h => absurd h.2 (show ¬ (0 = 1) by decide)) (aAdd_n (a := n) (b := 1) (by omega)) (ls' := [(2, 295), (0, 0), (0, (sumF (sumT (fun t k => σ 325 (8 * t + k)) L n) (fun k => σ 325 (8 * n + k)) (L n))), (0, ((n + 1 : Nat) : Int)), x]) rfl ?_
    refine TT.steps (cd := cd80) 1 (c' := (4, [(2, 295), (0, 0), (0, (sumF (sumT (fun t k => σ 325 (8 * t + k)) L n) (fun k => σ 325 (8 * n + k)) (L n))), (0, ((n + 1 : Nat) : Int)), x], [], σ)) rfl rfl ?_
    exact ih (n + 1) (by omega) _
theorem t_stopMany0 (X : AX) (nt : Nat) (L : Nat → Nat) (σ : AH) {b : Nat} (hb : σ 295 13 = (b : Int)) (hb2 : b < 2) (hnt : σ 300 b = (nt : Int)) (hnt2 : nt ≤ 6) (hL : ∀ t, t < nt → σ 304 (6 * b + t) = (L t : Int) ∧ 2 ≤ L t ∧ L t ≤ 8)  : TT X 80 (0, [(2, 295), (0, 0), (9, 0), (9, 0), (9, 0)], [], σ) (fun r σ' => r = some (0, sumT (fun t k => σ 325 (8 * t + k)) L nt) ∧ σ' = σ) := by
  refine TT.steps (cd := cd80) 4 (c' := (4, [(2, 295), (0, 0), (0, 0), (0, 0), (9, 0)], [], σ)) rfl rfl ?_
  exact l_smo0 X nt L σ hb hb2 hnt hnt2 hL nt 0 (by omega) _
theorem l_sm1 (X : AX) (Q : Option AV → AH → Prop) (t lt : Nat) (ht : t < 6) (a : Int) (σ : AH) {b : Nat} (hb : σ 295 13 = (b : Int)) (hb2 : b < 2) (hlt : σ 304 (6 * b + t) = (lt : Int)) (hlt2 : lt ≤ 8) (kk : ∀ x : AV, TT X 80 (42, [(2, 295), (0, 1), (0, (sumF a (fun k => σ 330 (8 * t + k)) lt)), (0, ((t : Nat) : Int)), x], [], σ) Q) : ∀ (d n : Nat), n + d = lt → TT X 80 (13, [(2, 295), (0, 1), (0, (sumF a (fun k => σ 330 (8 * t + k)) n)), (0, ((t : Nat) : Int)), (0, ((n : Nat) : Int))], [], σ) Q := by
  intro d
  induction d with
  | zero =>
    intro n hn
    have hnn : n = lt := by omega
    refine TT.steps (cd := cd80) 3 (c' := (16, [(2, 295), (0, 1), (0, (sumF a (fun k => σ 330 (8 * t + k)) n)), (0, ((t : Nat) : Int)), (0, ((n : Nat) : Int))], [(0, ((t : Nat) : Int)), (2, 295), (0, ((n : Nat) : Int))], σ)) rfl rfl ?_
    refine TT.call (cd := cd80) rfl rfl rfl (by decide) rfl (t_callsOf X t (by omega) σ hb hb2) (fun r1 σ1 hq => ?_)
    rw [hq.1, hq.2]
    refine TT.top0 (z := ((lt : Nat) : Int)) hlt ?_
    refine TT.steps (cd := cd80) 1 (c' := ((if decide (((lt : Nat) : Int) ≤ ((n : Nat) : Int)) = true then 42 else 18), [(2, 295), (0, 1), (0, (sumF a (fun k => σ 330 (8 * t + k)) n)), (0, ((t : Nat) : Int)), (0, ((n : Nat) : Int))], [], σ)) rfl rfl ?_
    refine TT.br (p := ((lt : Nat) : Int) ≤ ((n : Nat) : Int)) (fun h2 => ?_) (fun h2 => absurd (show ((lt : Nat) : Int) ≤ ((n : Nat) : Int) by omega) h2)
    subst hnn
    exact kk _
  | succ d ih =>
    intro n hn
    refine TT.steps (cd := cd80) 3 (c' := (16, [(2, 295), (0, 1), (0, (sumF a (fun k => σ 330 (8 * t + k)) n)), (0, ((t : Nat) : Int)), (0, ((n : Nat) : Int))], [(0, ((t : Nat) : Int)), (2, 295), (0, ((n : Nat) : Int))], σ)) rfl rfl ?_
    refine TT.call (cd := cd80) rfl rfl rfl (by decide) rfl (t_callsOf X t (by omega) σ hb hb2) (fun r1 σ1 hq => ?_)
    rw [hq.1, hq.2]
    refine TT.top0 (z := ((lt : Nat) : Int)) hlt ?_
    refine TT.steps (cd := cd80) 1 (c' := ((if decide (((lt : Nat) : Int) ≤ ((n : Nat) : Int)) = true then 42 else 18), [(2, 295), (0, 1), (0, (sumF a (fun k => σ 330 (8 * t + k)) n)), (0, ((t : Nat) : Int)), (0, ((n : Nat) : Int))], [], σ)) rfl rfl ?_
    refine TT.br (p := ((lt : Nat) : Int) ≤ ((n : Nat) : Int)) (fun h2 => absurd h2 (show ¬ (((lt : Nat) : Int) ≤ ((n : Nat) : Int)) by omega)) (fun h2 => ?_)
    refine TT.steps (cd := cd80) 8 (c' := (26, [(2, 295), (0, 1), (0, (sumF a (fun k => σ 330 (8 * t + k)) n)), (0, ((t : Nat) : Int)), (0, ((n : Nat) : Int))], [(0, (aMul 8 ((t : Nat) : Int))), (2, 330), (0, (sumF a (fun k => σ 330 (8 * t + k)) n))], σ)) rfl rfl ?_
    refine TT.top0 (z := ((8 * t : Nat) : Int)) (aMul_n (a := 8) (b := t) (by omega)) ?_
    refine TT.steps (cd := cd80) 2 (c' := (28, [(2, 295), (0, 1), (0, (sumF a (fun k => σ 330 (8 * t + k)) n)), (0, ((t : Nat) : Int)), (0, ((n : Nat) : Int))], [(0, (aAdd ((8 * t : Nat) : Int) ((n : Nat) : Int))), (2, 330), (0, (sumF a (fun k => σ 330 (8 * t + k)) n))], σ)) rfl rfl ?_
    refine TT.top0 (z := (((8 * t) + n : Nat) : Int)) (aAdd_n (a := 8 * t) (b := n) (by omega)) ?_
    refine TT.aldN (cd := cd80) (330) ((8 * t) + n) rfl rfl rfl rfl (show (8 * t) + n < 48 by omega) ?_
    refine TT.steps (cd := cd80) 2 (c' := (39, [(2, 295), (0, 1), (0, (sumF a (fun k => σ 330 (8 * t + k)) n)), (0, ((t : Nat) : Int)), (0, ((n : Nat) : Int))], [(0, (aAdd (sumF a (fun k => σ 330 (8 * t + k)) n) (σ 330 ((8 * t) + n))))], σ)) rfl rfl ?_
    refine TT.steps (cd := cd80) 1 (c' := (40, [(2, 295), (0, 1), (0, (aAdd (sumF a (fun k => σ 330 (8 * t + k)) n) (σ 330 ((8 * t) + n)))), (0, ((t : Nat) : Int)), (0, ((n : Nat) : Int))], [], σ)) rfl rfl ?_
    refine TT.inc (cd := cd80) ((n + 1 : Nat) : Int) rfl rfl rfl rfl (fun h => absurd h.2 (show ¬ (0 = 1) by decide)) (aAdd_n (a := n) (b := 1) (by omega)) (ls' := [(2, 295), (0, 1), (0, (aAdd (sumF a (fun k => σ 330 (8 * t + k)) n) (σ 330 ((8 * t) + n)))), (0, ((t : Nat) : Int)), (0, ((n + 1 : Nat) : Int))]) rfl ?_
    refine TT.steps (cd := cd80) 1 (c' := (13, [(2, 295), (0, 1), (0, (aAdd (sumF a (fun k => σ 330 (8 * t + k)) n) (σ 330 ((8 * t) + n)))), (0, ((t : Nat) : Int)), (0, ((n + 1 : Nat) : Int))], [], σ)) rfl rfl ?_
    exact ih (n + 1) (by omega)
theorem l_smo1 (X : AX) (nt : Nat) (L : Nat → Nat) (σ : AH) {b : Nat} (hb : σ 295 13 = (b : Int)) (hb2 : b < 2) (hnt : σ 300 b = (nt : Int)) (hnt2 : nt ≤ 6) (hL : ∀ t, t < nt → σ 304 (6 * b + t) = (L t : Int) ∧ 2 ≤ L t ∧ L t ≤ 8) : ∀ (d n : Nat), n + d = nt → ∀ x : AV, TT X 80 (4, [(2, 295), (0, 1), (0, (sumT (fun t k => σ 330 (8 * t + k)) L n)), (0, ((n : Nat) : Int)), x], [], σ) (fun r σ' => r = some (0, sumT (fun t k => σ 330 (8 * t + k)) L nt) ∧ σ' = σ) := by
  intro d
  induction d with
  | zero =>
    intro n hn x
    have hnn : n = nt := by omega
    refine TT.steps (cd := cd80) 5 (c' := (9, [(2, 295), (0, 1), (0, (sumT (fun t k => σ 330 (8 * t + k)) L n)), (0, ((n : Nat) : Int)), x], [(0, (σ 295 13)), (2, 300), (0, ((n : Nat) : Int))], σ)) rfl rfl ?_
    refine TT.top0 (z := ((b : Nat) : Int)) hb ?_
    refine TT.aldN (cd := cd80) (300) (b) rfl rfl rfl rfl (show b < 2 by omega) ?_
    refine TT.top0 (z := ((nt : Nat) : Int)) hnt ?_
    refine TT.steps (cd := cd80) 1 (c' := ((if decide (((nt : Nat) : Int) ≤ ((n : Nat) : Int)) = true then 44 else 11), [(2, 295), (0, 1), (0, (sumT (fun t k => σ 330 (8 * t + k)) L n)), (0, ((n : Nat) : Int)), x], [], σ)) rfl rfl ?_
    refine TT.br (p := ((nt : Nat) : Int) ≤ ((n : Nat) : Int)) (fun h1 => ?_) (fun h1 => absurd (show ((nt : Nat) : Int) ≤ ((n : Nat) : Int) by omega) h1)
    refine TT.steps (cd := cd80) 1 (c' := (45, [(2, 295), (0, 1), (0, (sumT (fun t k => σ 330 (8 * t + k)) L n)), (0, ((n : Nat) : Int)), x], [(0, (sumT (fun t k => σ 330 (8 * t + k)) L n))], σ)) rfl rfl ?_
    exact TT.ret (cd := cd80) rfl rfl rfl rfl (⟨by rw [hnn], rfl⟩)
  | succ d ih =>
    intro n hn x
    refine TT.steps (cd := cd80) 5 (c' := (9, [(2, 295), (0, 1), (0, (sumT (fun t k => σ 330 (8 * t + k)) L n)), (0, ((n : Nat) : Int)), x], [(0, (σ 295 13)), (2, 300), (0, ((n : Nat) : Int))], σ)) rfl rfl ?_
    refine TT.top0 (z := ((b : Nat) : Int)) hb ?_
    refine TT.aldN (cd := cd80) (300) (b) rfl rfl rfl rfl (show b < 2 by omega) ?_
    refine TT.top0 (z := ((nt : Nat) : Int)) hnt ?_
    refine TT.steps (cd := cd80) 1 (c' := ((if decide (((nt : Nat) : Int) ≤ ((n : Nat) : Int)) = true then 44 else 11), [(2, 295), (0, 1), (0, (sumT (fun t k => σ 330 (8 * t + k)) L n)), (0, ((n : Nat) : Int)), x], [], σ)) rfl rfl ?_
    refine TT.br (p := ((nt : Nat) : Int) ≤ ((n : Nat) : Int)) (fun h1 => absurd h1 (show ¬ (((nt : Nat) : Int) ≤ ((n : Nat) : Int)) by omega)) (fun h1 => ?_)
    refine TT.steps (cd := cd80) 2 (c' := (13, [(2, 295), (0, 1), (0, (sumT (fun t k => σ 330 (8 * t + k)) L n)), (0, ((n : Nat) : Int)), (0, 0)], [], σ)) rfl rfl ?_
    refine l_sm1 X _ n (L n) (by omega) _ σ hb hb2 (hL n (by omega)).1 (hL n (by omega)).2.2 (fun x => ?_) (L n) 0 (by omega)
    refine TT.inc (cd := cd80) ((n + 1 : Nat) : Int) rfl rfl rfl rfl (fun h => absurd h.2 (show ¬ (0 = 1) by decide)) (aAdd_n (a := n) (b := 1) (by omega)) (ls' := [(2, 295), (0, 1), (0, (sumF (sumT (fun t k => σ 330 (8 * t + k)) L n) (fun k => σ 330 (8 * n + k)) (L n))), (0, ((n + 1 : Nat) : Int)), x]) rfl ?_
    refine TT.steps (cd := cd80) 1 (c' := (4, [(2, 295), (0, 1), (0, (sumF (sumT (fun t k => σ 330 (8 * t + k)) L n) (fun k => σ 330 (8 * n + k)) (L n))), (0, ((n + 1 : Nat) : Int)), x], [], σ)) rfl rfl ?_
    exact ih (n + 1) (by omega) _
theorem t_stopMany1 (X : AX) (nt : Nat) (L : Nat → Nat) (σ : AH) {b : Nat} (hb : σ 295 13 = (b : Int)) (hb2 : b < 2) (hnt : σ 300 b = (nt : Int)) (hnt2 : nt ≤ 6) (hL : ∀ t, t < nt → σ 304 (6 * b + t) = (L t : Int) ∧ 2 ≤ L t ∧ L t ≤ 8)  : TT X 80 (0, [(2, 295), (0, 1), (9, 0), (9, 0), (9, 0)], [], σ) (fun r σ' => r = some (0, sumT (fun t k => σ 330 (8 * t + k)) L nt) ∧ σ' = σ) := by
  refine TT.steps (cd := cd80) 4 (c' := (4, [(2, 295), (0, 1), (0, 0), (0, 0), (9, 0)], [], σ)) rfl rfl ?_
  exact l_smo1 X nt L σ hb hb2 hnt hnt2 hL nt 0 (by omega) _
