/-- sums and unions, by the machine's own numbers -/
def sumA (f : Nat → Int) : Nat → Int
  | 0 => 0
  | n + 1 => aAdd (sumA f n) (f n)
def orA (f : Nat → Int) : Nat → Int
  | 0 => 0
  | n + 1 => aOr (orA f n) (f n)
theorem sumA_c {f g : Nat → Int} {n : Nat} (h : ∀ p, p < n → f p = g p) : sumA f n = sumA g n := by
  induction n with
  | zero => rfl
  | succ n ih => rw [sumA, sumA, ih (fun p hp => h p (by omega)), h n (by omega)]
theorem orA_c {f g : Nat → Int} {n : Nat} (h : ∀ p, p < n → f p = g p) : orA f n = orA g n := by
  induction n with
  | zero => rfl
  | succ n ih => rw [orA, orA, ih (fun p hp => h p (by omega)), h n (by omega)]
def mGood (σ : AH) (v np : Nat) : Int := sumA (fun p => if ¬ ((p : Int) = σ 295 44) ∧ ¬ (σ 322 (10 * v + p) = 1) ∧ σ 334 p = σ 321 (10 * v + p) then 1 else 0) np
theorem l_good (X : AX) (np : Nat) (σ : AH) {b v : Nat} (hb : σ 295 13 = (b : Int)) (hb2 : b < 2) (hv : σ 295 46 = (v : Int)) (hv2 : v < 22) (hnp : σ 307 b = (np : Int)) (hnp2 : np ≤ 10)  : ∀ (d n : Nat), n + d = np → TT X 58 (4, [(2, 295), (0, (sumA (fun p => if ¬ ((p : Int) = σ 295 44) ∧ ¬ (σ 322 (10 * v + p) = 1) ∧ σ 334 p = σ 321 (10 * v + p) then 1 else 0) n)), (0, ((n : Nat) : Int))], [], σ) (fun r σ' => r = some (0, sumA (fun p => if ¬ ((p : Int) = σ 295 44) ∧ ¬ (σ 322 (10 * v + p) = 1) ∧ σ 334 p = σ 321 (10 * v + p) then 1 else 0) np) ∧ σ' = σ) := by
  intro d
  induction d with
  | zero =>
    intro n hn
    have hnn : n = np := by omega
    refine TT.steps (cd := cd58) 5 (c' := (9, [(2, 295), (0, (sumA (fun p => if ¬ ((p : Int) = σ 295 44) ∧ ¬ (σ 322 (10 * v + p) = 1) ∧ σ 334 p = σ 321 (10 * v + p) then 1 else 0) n)), (0, ((n : Nat) : Int))], [(0, (σ 295 13)), (2, 307), (0, ((n : Nat) : Int))], σ)) rfl rfl ?_
    refine TT.top0 (z := ((b : Nat) : Int)) hb ?_
    refine TT.aldN (cd := cd58) (307) (b) rfl rfl rfl rfl (show b < 2 by omega) ?_
    refine TT.top0 (z := ((np : Nat) : Int)) hnp ?_
    refine TT.steps (cd := cd58) 1 (c' := ((if decide (((np : Nat) : Int) ≤ ((n : Nat) : Int)) = true then 35 else 11), [(2, 295), (0, (sumA (fun p => if ¬ ((p : Int) = σ 295 44) ∧ ¬ (σ 322 (10 * v + p) = 1) ∧ σ 334 p = σ 321 (10 * v + p) then 1 else 0) n)), (0, ((n : Nat) : Int))], [], σ)) rfl rfl ?_
    refine TT.br (p := ((np : Nat) : Int) ≤ ((n : Nat) : Int)) (fun h1 => ?_) (fun h1 => absurd (show ((np : Nat) : Int) ≤ ((n : Nat) : Int) by omega) h1)
    refine TT.steps (cd := cd58) 1 (c' := (36, [(2, 295), (0, (sumA (fun p => if ¬ ((p : Int) = σ 295 44) ∧ ¬ (σ 322 (10 * v + p) = 1) ∧ σ 334 p = σ 321 (10 * v + p) then 1 else 0) n)), (0, ((n : Nat) : Int))], [(0, (sumA (fun p => if ¬ ((p : Int) = σ 295 44) ∧ ¬ (σ 322 (10 * v + p) = 1) ∧ σ 334 p = σ 321 (10 * v + p) then 1 else 0) n))], σ)) rfl rfl ?_
    exact TT.ret (cd := cd58) rfl rfl rfl rfl (⟨by rw [hnn], rfl⟩)
  | succ d ih =>
    intro n hn
    refine TT.steps (cd := cd58) 5 (c' := (9, [(2, 295), (0, (sumA (fun p => if ¬ ((p : Int) = σ 295 44) ∧ ¬ (σ 322 (10 * v + p) = 1) ∧ σ 334 p = σ 321 (10 * v + p) then 1 else 0) n)), (0, ((n : Nat) : Int))], [(0, (σ 295 13)), (2, 307), (0, ((n : Nat) : Int))], σ)) rfl rfl ?_
    refine TT.top0 (z := ((b : Nat) : Int)) hb ?_
    refine TT.aldN (cd := cd58) (307) (b) rfl rfl rfl rfl (show b < 2 by omega) ?_
    refine TT.top0 (z := ((np : Nat) : Int)) hnp ?_
    refine TT.steps (cd := cd58) 1 (c' := ((if decide (((np : Nat) : Int) ≤ ((n : Nat) : Int)) = true then 35 else 11), [(2, 295), (0, (sumA (fun p => if ¬ ((p : Int) = σ 295 44) ∧ ¬ (σ 322 (10 * v + p) = 1) ∧ σ 334 p = σ 321 (10 * v + p) then 1 else 0) n)), (0, ((n : Nat) : Int))], [], σ)) rfl rfl ?_
    refine TT.br (p := ((np : Nat) : Int) ≤ ((n : Nat) : Int)) (fun h1 => absurd h1 (show ¬ (((np : Nat) : Int) ≤ ((n : Nat) : Int)) by omega)) (fun h1 => ?_)
    refine TT.steps (cd := cd58) 5 (c' := ((if decide (((n : Nat) : Int) = (σ 295 44)) = true then 30 else 16), [(2, 295), (0, (sumA (fun p => if ¬ ((p : Int) = σ 295 44) ∧ ¬ (σ 322 (10 * v + p) = 1) ∧ σ 334 p = σ 321 (10 * v + p) then 1 else 0) n)), (0, ((n : Nat) : Int))], [(0, (sumA (fun p => if ¬ ((p : Int) = σ 295 44) ∧ ¬ (σ 322 (10 * v + p) = 1) ∧ σ 334 p = σ 321 (10 * v + p) then 1 else 0) n))], σ)) rfl rfl ?_
    refine TT.br (p := ((n : Nat) : Int) = (σ 295 44)) (fun h2 => ?_) (fun h2 => ?_)
    · refine TT.steps (cd := cd58) 2 (c' := (32, [(2, 295), (0, (sumA (fun p => if ¬ ((p : Int) = σ 295 44) ∧ ¬ (σ 322 (10 * v + p) = 1) ∧ σ 334 p = σ 321 (10 * v + p) then 1 else 0) n)), (0, ((n : Nat) : Int))], [(0, (aAdd (sumA (fun p => if ¬ ((p : Int) = σ 295 44) ∧ ¬ (σ 322 (10 * v + p) = 1) ∧ σ 334 p = σ 321 (10 * v + p) then 1 else 0) n) 0))], σ)) rfl rfl ?_
      refine TT.steps (cd := cd58) 1 (c' := (33, [(2, 295), (0, (aAdd (sumA (fun p => if ¬ ((p : Int) = σ 295 44) ∧ ¬ (σ 322 (10 * v + p) = 1) ∧ σ 334 p = σ 321 (10 * v + p) then 1 else 0) n) 0)), (0, ((n : Nat) : Int))], [], σ)) rfl rfl ?_
      refine TT.inc (cd := cd58) ((n + 1 : Nat) : Int) rfl rfl rfl rfl (fun h => absurd h.2 (show ¬ (0 = 1) by decide)) (aAdd_n (a := n) (b := 1) (by omega)) (ls' := [(2, 295), (0, (aAdd (sumA (fun p => if ¬ ((p : Int) = σ 295 44) ∧ ¬ (σ 322 (10 * v + p) = 1) ∧ σ 334 p = σ 321 (10 * v + p) then 1 else 0) n) 0)), (0, ((n + 1 : Nat) : Int))]) rfl ?_
      refine TT.steps (cd := cd58) 1 (c' := (4, [(2, 295), (0, (aAdd (sumA (fun p => if ¬ ((p : Int) = σ 295 44) ∧ ¬ (σ 322 (10 * v + p) = 1) ∧ σ 334 p = σ 321 (10 * v + p) then 1 else 0) n) 0)), (0, ((n + 1 : Nat) : Int))], [], σ)) rfl rfl ?_
      have := ih (n + 1) (by omega)
      simp only [sumA] at this
      first | (rw [if_pos (by omega)] at this; exact this) | (rw [if_neg (by omega)] at this; exact this) | exact this
    · refine TT.steps (cd := cd58) 2 (c' := (18, [(2, 295), (0, (sumA (fun p => if ¬ ((p : Int) = σ 295 44) ∧ ¬ (σ 322 (10 * v + p) = 1) ∧ σ 334 p = σ 321 (10 * v + p) then 1 else 0) n)), (0, ((n : Nat) : Int))], [(0, ((n : Nat) : Int)), (2, 295), (0, (sumA (fun p => if ¬ ((p : Int) = σ 295 44) ∧ ¬ (σ 322 (10 * v + p) = 1) ∧ σ 334 p = σ 321 (10 * v + p) then 1 else 0) n))], σ)) rfl rfl ?_
      refine TT.call (cd := cd58) rfl rfl rfl (by decide) rfl (t_isHired X n (by omega) σ hv hv2) (fun r3 σ3 hq => ?_)
      rw [hq.1, hq.2]
      refine TT.steps (cd := cd58) 1 (c' := ((if decide (¬ ((if (σ 322 (10 * v + n)) = 1 then 1 else 0) : Int) = 0) = true then 30 else 20), [(2, 295), (0, (sumA (fun p => if ¬ ((p : Int) = σ 295 44) ∧ ¬ (σ 322 (10 * v + p) = 1) ∧ σ 334 p = σ 321 (10 * v + p) then 1 else 0) n)), (0, ((n : Nat) : Int))], [(0, (sumA (fun p => if ¬ ((p : Int) = σ 295 44) ∧ ¬ (σ 322 (10 * v + p) = 1) ∧ σ 334 p = σ 321 (10 * v + p) then 1 else 0) n))], σ)) rfl rfl ?_
      refine TT.br (p := ¬ ((if (σ 322 (10 * v + n)) = 1 then 1 else 0) : Int) = 0) (fun h4 => ?_) (fun h4 => ?_)
      · replace h4 := ite_t h4
        refine TT.steps (cd := cd58) 2 (c' := (32, [(2, 295), (0, (sumA (fun p => if ¬ ((p : Int) = σ 295 44) ∧ ¬ (σ 322 (10 * v + p) = 1) ∧ σ 334 p = σ 321 (10 * v + p) then 1 else 0) n)), (0, ((n : Nat) : Int))], [(0, (aAdd (sumA (fun p => if ¬ ((p : Int) = σ 295 44) ∧ ¬ (σ 322 (10 * v + p) = 1) ∧ σ 334 p = σ 321 (10 * v + p) then 1 else 0) n) 0))], σ)) rfl rfl ?_
        refine TT.steps (cd := cd58) 1 (c' := (33, [(2, 295), (0, (aAdd (sumA (fun p => if ¬ ((p : Int) = σ 295 44) ∧ ¬ (σ 322 (10 * v + p) = 1) ∧ σ 334 p = σ 321 (10 * v + p) then 1 else 0) n) 0)), (0, ((n : Nat) : Int))], [], σ)) rfl rfl ?_
        refine TT.inc (cd := cd58) ((n + 1 : Nat) : Int) rfl rfl rfl rfl (fun h => absurd h.2 (show ¬ (0 = 1) by decide)) (aAdd_n (a := n) (b := 1) (by omega)) (ls' := [(2, 295), (0, (aAdd (sumA (fun p => if ¬ ((p : Int) = σ 295 44) ∧ ¬ (σ 322 (10 * v + p) = 1) ∧ σ 334 p = σ 321 (10 * v + p) then 1 else 0) n) 0)), (0, ((n + 1 : Nat) : Int))]) rfl ?_
        refine TT.steps (cd := cd58) 1 (c' := (4, [(2, 295), (0, (aAdd (sumA (fun p => if ¬ ((p : Int) = σ 295 44) ∧ ¬ (σ 322 (10 * v + p) = 1) ∧ σ 334 p = σ 321 (10 * v + p) then 1 else 0) n) 0)), (0, ((n + 1 : Nat) : Int))], [], σ)) rfl rfl ?_
        have := ih (n + 1) (by omega)
        simp only [sumA] at this
        first | (rw [if_pos (by omega)] at this; exact this) | (rw [if_neg (by omega)] at this; exact this) | exact this
      · replace h4 := ite_f (Decidable.not_not.mp h4)
        refine TT.steps (cd := cd58) 3 (c' := (23, [(2, 295), (0, (sumA (fun p => if ¬ ((p : Int) = σ 295 44) ∧ ¬ (σ 322 (10 * v + p) = 1) ∧ σ 334 p = σ 321 (10 * v + p) then 1 else 0) n)), (0, ((n : Nat) : Int))], [(0, ((n : Nat) : Int)), (2, 334), (0, (sumA (fun p => if ¬ ((p : Int) = σ 295 44) ∧ ¬ (σ 322 (10 * v + p) = 1) ∧ σ 334 p = σ 321 (10 * v + p) then 1 else 0) n))], σ)) rfl rfl ?_
        refine TT.aldN (cd := cd58) (334) (n) rfl rfl rfl rfl (show n < 10 by omega) ?_
        refine TT.steps (cd := cd58) 2 (c' := (26, [(2, 295), (0, (sumA (fun p => if ¬ ((p : Int) = σ 295 44) ∧ ¬ (σ 322 (10 * v + p) = 1) ∧ σ 334 p = σ 321 (10 * v + p) then 1 else 0) n)), (0, ((n : Nat) : Int))], [(0, ((n : Nat) : Int)), (2, 295), (0, (σ 334 n)), (0, (sumA (fun p => if ¬ ((p : Int) = σ 295 44) ∧ ¬ (σ 322 (10 * v + p) = 1) ∧ σ 334 p = σ 321 (10 * v + p) then 1 else 0) n))], σ)) rfl rfl ?_
        refine TT.call (cd := cd58) rfl rfl rfl (by decide) rfl (t_wishOf X n (by omega) σ hv hv2) (fun r5 σ5 hq => ?_)
        rw [hq.1, hq.2]
        refine TT.steps (cd := cd58) 1 (c' := ((if decide (¬ (σ 334 n) = (σ 321 (10 * v + n))) = true then 30 else 28), [(2, 295), (0, (sumA (fun p => if ¬ ((p : Int) = σ 295 44) ∧ ¬ (σ 322 (10 * v + p) = 1) ∧ σ 334 p = σ 321 (10 * v + p) then 1 else 0) n)), (0, ((n : Nat) : Int))], [(0, (sumA (fun p => if ¬ ((p : Int) = σ 295 44) ∧ ¬ (σ 322 (10 * v + p) = 1) ∧ σ 334 p = σ 321 (10 * v + p) then 1 else 0) n))], σ)) rfl rfl ?_
        refine TT.br (p := ¬ (σ 334 n) = (σ 321 (10 * v + n))) (fun h6 => ?_) (fun h6 => ?_)
        · refine TT.steps (cd := cd58) 2 (c' := (32, [(2, 295), (0, (sumA (fun p => if ¬ ((p : Int) = σ 295 44) ∧ ¬ (σ 322 (10 * v + p) = 1) ∧ σ 334 p = σ 321 (10 * v + p) then 1 else 0) n)), (0, ((n : Nat) : Int))], [(0, (aAdd (sumA (fun p => if ¬ ((p : Int) = σ 295 44) ∧ ¬ (σ 322 (10 * v + p) = 1) ∧ σ 334 p = σ 321 (10 * v + p) then 1 else 0) n) 0))], σ)) rfl rfl ?_
          refine TT.steps (cd := cd58) 1 (c' := (33, [(2, 295), (0, (aAdd (sumA (fun p => if ¬ ((p : Int) = σ 295 44) ∧ ¬ (σ 322 (10 * v + p) = 1) ∧ σ 334 p = σ 321 (10 * v + p) then 1 else 0) n) 0)), (0, ((n : Nat) : Int))], [], σ)) rfl rfl ?_
          refine TT.inc (cd := cd58) ((n + 1 : Nat) : Int) rfl rfl rfl rfl (fun h => absurd h.2 (show ¬ (0 = 1) by decide)) (aAdd_n (a := n) (b := 1) (by omega)) (ls' := [(2, 295), (0, (aAdd (sumA (fun p => if ¬ ((p : Int) = σ 295 44) ∧ ¬ (σ 322 (10 * v + p) = 1) ∧ σ 334 p = σ 321 (10 * v + p) then 1 else 0) n) 0)), (0, ((n + 1 : Nat) : Int))]) rfl ?_
          refine TT.steps (cd := cd58) 1 (c' := (4, [(2, 295), (0, (aAdd (sumA (fun p => if ¬ ((p : Int) = σ 295 44) ∧ ¬ (σ 322 (10 * v + p) = 1) ∧ σ 334 p = σ 321 (10 * v + p) then 1 else 0) n) 0)), (0, ((n + 1 : Nat) : Int))], [], σ)) rfl rfl ?_
          have := ih (n + 1) (by omega)
          simp only [sumA] at this
          first | (rw [if_pos (by omega)] at this; exact this) | (rw [if_neg (by omega)] at this; exact this) | exact this
        · refine TT.steps (cd := cd58) 3 (c' := (32, [(2, 295), (0, (sumA (fun p => if ¬ ((p : Int) = σ 295 44) ∧ ¬ (σ 322 (10 * v + p) = 1) ∧ σ 334 p = σ 321 (10 * v + p) then 1 else 0) n)), (0, ((n : Nat) : Int))], [(0, (aAdd (sumA (fun p => if ¬ ((p : Int) = σ 295 44) ∧ ¬ (σ 322 (10 * v + p) = 1) ∧ σ 334 p = σ 321 (10 * v + p) then 1 else 0) n) 1))], σ)) rfl rfl ?_
          refine TT.steps (cd := cd58) 1 (c' := (33, [(2, 295), (0, (aAdd (sumA (fun p => if ¬ ((p : Int) = σ 295 44) ∧ ¬ (σ 322 (10 * v + p) = 1) ∧ σ 334 p = σ 321 (10 * v + p) then 1 else 0) n) 1)), (0, ((n : Nat) : Int))], [], σ)) rfl rfl ?_
          refine TT.inc (cd := cd58) ((n + 1 : Nat) : Int) rfl rfl rfl rfl (fun h => absurd h.2 (show ¬ (0 = 1) by decide)) (aAdd_n (a := n) (b := 1) (by omega)) (ls' := [(2, 295), (0, (aAdd (sumA (fun p => if ¬ ((p : Int) = σ 295 44) ∧ ¬ (σ 322 (10 * v + p) = 1) ∧ σ 334 p = σ 321 (10 * v + p) then 1 else 0) n) 1)), (0, ((n + 1 : Nat) : Int))]) rfl ?_
          refine TT.steps (cd := cd58) 1 (c' := (4, [(2, 295), (0, (aAdd (sumA (fun p => if ¬ ((p : Int) = σ 295 44) ∧ ¬ (σ 322 (10 * v + p) = 1) ∧ σ 334 p = σ 321 (10 * v + p) then 1 else 0) n) 1)), (0, ((n + 1 : Nat) : Int))], [], σ)) rfl rfl ?_
          have := ih (n + 1) (by omega)
          simp only [sumA] at this
          first | (rw [if_pos (by omega)] at this; exact this) | (rw [if_neg (by omega)] at this; exact this) | exact this
theorem t_good (X : AX) (np : Nat) (σ : AH) {b v : Nat} (hb : σ 295 13 = (b : Int)) (hb2 : b < 2) (hv : σ 295 46 = (v : Int)) (hv2 : v < 22) (hnp : σ 307 b = (np : Int)) (hnp2 : np ≤ 10)  : TT X 58 (0, [(2, 295), (9, 0), (9, 0)], [], σ) (fun r σ' => r = some (0, mGood σ v np) ∧ σ' = σ) := by
  refine TT.steps (cd := cd58) 4 (c' := (4, [(2, 295), (0, 0), (0, 0)], [], σ)) rfl rfl ?_
  exact l_good X np σ hb hb2 hv hv2 hnp hnp2 np 0 (by omega)
theorem l_arrivedMany (X : AX) (np : Nat) (σ : AH) {b : Nat} (hb : σ 295 13 = (b : Int)) (hb2 : b < 2) (hnp : σ 307 b = (np : Int)) (hnp2 : np ≤ 10)  : ∀ (d n : Nat), n + d = np → TT X 60 (4, [(2, 295), (0, (sumA (fun p => σ 337 p) n)), (0, ((n : Nat) : Int))], [], σ) (fun r σ' => r = some (0, sumA (fun p => σ 337 p) np) ∧ σ' = σ) := by
  intro d
  induction d with
  | zero =>
    intro n hn
    have hnn : n = np := by omega
    refine TT.steps (cd := cd60) 5 (c' := (9, [(2, 295), (0, (sumA (fun p => σ 337 p) n)), (0, ((n : Nat) : Int))], [(0, (σ 295 13)), (2, 307), (0, ((n : Nat) : Int))], σ)) rfl rfl ?_
    refine TT.top0 (z := ((b : Nat) : Int)) hb ?_
    refine TT.aldN (cd := cd60) (307) (b) rfl rfl rfl rfl (show b < 2 by omega) ?_
    refine TT.top0 (z := ((np : Nat) : Int)) hnp ?_
    refine TT.steps (cd := cd60) 1 (c' := ((if decide (((np : Nat) : Int) ≤ ((n : Nat) : Int)) = true then 20 else 11), [(2, 295), (0, (sumA (fun p => σ 337 p) n)), (0, ((n : Nat) : Int))], [], σ)) rfl rfl ?_
    refine TT.br (p := ((np : Nat) : Int) ≤ ((n : Nat) : Int)) (fun h1 => ?_) (fun h1 => absurd (show ((np : Nat) : Int) ≤ ((n : Nat) : Int) by omega) h1)
    refine TT.steps (cd := cd60) 1 (c' := (21, [(2, 295), (0, (sumA (fun p => σ 337 p) n)), (0, ((n : Nat) : Int))], [(0, (sumA (fun p => σ 337 p) n))], σ)) rfl rfl ?_
    exact TT.ret (cd := cd60) rfl rfl rfl rfl (⟨by rw [hnn], rfl⟩)
  | succ d ih =>
    intro n hn
    refine TT.steps (cd := cd60) 5 (c' := (9, [(2, 295), (0, (sumA (fun p => σ 337 p) n)), (0, ((n : Nat) : Int))], [(0, (σ 295 13)), (2, 307), (0, ((n : Nat) : Int))], σ)) rfl rfl ?_
    refine TT.top0 (z := ((b : Nat) : Int)) hb ?_
    refine TT.aldN (cd := cd60) (307) (b) rfl rfl rfl rfl (show b < 2 by omega) ?_
    refine TT.top0 (z := ((np : Nat) : Int)) hnp ?_
    refine TT.steps (cd := cd60) 1 (c' := ((if decide (((np : Nat) : Int) ≤ ((n : Nat) : Int)) = true then 20 else 11), [(2, 295), (0, (sumA (fun p => σ 337 p) n)), (0, ((n : Nat) : Int))], [], σ)) rfl rfl ?_
    refine TT.br (p := ((np : Nat) : Int) ≤ ((n : Nat) : Int)) (fun h1 => absurd h1 (show ¬ (((np : Nat) : Int) ≤ ((n : Nat) : Int)) by omega)) (fun h1 => ?_)
    refine TT.steps (cd := cd60) 4 (c' := (15, [(2, 295), (0, (sumA (fun p => σ 337 p) n)), (0, ((n : Nat) : Int))], [(0, ((n : Nat) : Int)), (2, 337), (0, (sumA (fun p => σ 337 p) n))], σ)) rfl rfl ?_
    refine TT.aldN (cd := cd60) (337) (n) rfl rfl rfl rfl (show n < 10 by omega) ?_
    refine TT.steps (cd := cd60) 1 (c' := (17, [(2, 295), (0, (sumA (fun p => σ 337 p) n)), (0, ((n : Nat) : Int))], [(0, (aAdd (sumA (fun p => σ 337 p) n) (σ 337 n)))], σ)) rfl rfl ?_
    refine TT.steps (cd := cd60) 1 (c' := (18, [(2, 295), (0, (aAdd (sumA (fun p => σ 337 p) n) (σ 337 n))), (0, ((n : Nat) : Int))], [], σ)) rfl rfl ?_
    refine TT.inc (cd := cd60) ((n + 1 : Nat) : Int) rfl rfl rfl rfl (fun h => absurd h.2 (show ¬ (0 = 1) by decide)) (aAdd_n (a := n) (b := 1) (by omega)) (ls' := [(2, 295), (0, (aAdd (sumA (fun p => σ 337 p) n) (σ 337 n))), (0, ((n + 1 : Nat) : Int))]) rfl ?_
    refine TT.steps (cd := cd60) 1 (c' := (4, [(2, 295), (0, (aAdd (sumA (fun p => σ 337 p) n) (σ 337 n))), (0, ((n + 1 : Nat) : Int))], [], σ)) rfl rfl ?_
    have := ih (n + 1) (by omega)
    simp only [sumA] at this
    first | (rw [if_pos (by omega)] at this; exact this) | (rw [if_neg (by omega)] at this; exact this) | exact this
def mArr (σ : AH) (np : Nat) : Int := sumA (fun p => σ 337 p) np
theorem t_arrivedMany (X : AX) (np : Nat) (σ : AH) {b : Nat} (hb : σ 295 13 = (b : Int)) (hb2 : b < 2) (hnp : σ 307 b = (np : Int)) (hnp2 : np ≤ 10)  : TT X 60 (0, [(2, 295), (9, 0), (9, 0)], [], σ) (fun r σ' => r = some (0, mArr σ np) ∧ σ' = σ) := by
  refine TT.steps (cd := cd60) 4 (c' := (4, [(2, 295), (0, 0), (0, 0)], [], σ)) rfl rfl ?_
  exact l_arrivedMany X np σ hb hb2 hnp hnp2 np 0 (by omega)
abbrev mStrC (σ : AH) (v p : Nat) : Prop := ¬ (σ 335 p = -1) ∧ ¬ (σ 334 p = σ 321 (10 * v + p)) ∧ ¬ (σ 322 (10 * v + p) = 1)
theorem t_isStranded (X : AX) (p : Nat) (hp : p < 10) (σ : AH) {v : Nat} (hv : σ 295 46 = (v : Int)) (hv2 : v < 22)  : TT X 61 (0, [(2, 295), (0, ((p : Nat) : Int))], [], σ) (fun r σ' => r = some (0, if mStrC σ v p then 1 else 0) ∧ σ' = σ) := by
  refine TT.steps (cd := cd61) 3 (c' := (3, [(2, 295), (0, ((p : Nat) : Int))], [(0, ((p : Nat) : Int)), (2, 335)], σ)) rfl rfl ?_
  refine TT.aldN (cd := cd61) (335) (p) rfl rfl rfl rfl (show p < 10 by omega) ?_
  refine TT.steps (cd := cd61) 2 (c' := ((if decide ((σ 335 p) = (-1)) = true then 20 else 6), [(2, 295), (0, ((p : Nat) : Int))], [], σ)) rfl rfl ?_
  refine TT.br (p := (σ 335 p) = (-1)) (fun h1 => ?_) (fun h1 => ?_)
  · refine TT.steps (cd := cd61) 1 (c' := (21, [(2, 295), (0, ((p : Nat) : Int))], [(0, 0)], σ)) rfl rfl ?_
    exact TT.ret (cd := cd61) rfl rfl rfl rfl (⟨by first | (rw [if_pos (by omega)]; done) | (rw [if_neg (by omega)]; done), rfl⟩)
  · refine TT.steps (cd := cd61) 3 (c' := (9, [(2, 295), (0, ((p : Nat) : Int))], [(0, ((p : Nat) : Int)), (2, 334)], σ)) rfl rfl ?_
    refine TT.aldN (cd := cd61) (334) (p) rfl rfl rfl rfl (show p < 10 by omega) ?_
    refine TT.steps (cd := cd61) 2 (c' := (12, [(2, 295), (0, ((p : Nat) : Int))], [(0, ((p : Nat) : Int)), (2, 295), (0, (σ 334 p))], σ)) rfl rfl ?_
    refine TT.call (cd := cd61) rfl rfl rfl (by decide) rfl (t_wishOf X p (by omega) σ hv hv2) (fun r2 σ2 hq => ?_)
    rw [hq.1, hq.2]
    refine TT.steps (cd := cd61) 1 (c' := ((if decide ((σ 334 p) = (σ 321 (10 * v + p))) = true then 20 else 14), [(2, 295), (0, ((p : Nat) : Int))], [], σ)) rfl rfl ?_
    refine TT.br (p := (σ 334 p) = (σ 321 (10 * v + p))) (fun h3 => ?_) (fun h3 => ?_)
    · refine TT.steps (cd := cd61) 1 (c' := (21, [(2, 295), (0, ((p : Nat) : Int))], [(0, 0)], σ)) rfl rfl ?_
      exact TT.ret (cd := cd61) rfl rfl rfl rfl (⟨by first | (rw [if_pos (by omega)]; done) | (rw [if_neg (by omega)]; done), rfl⟩)
    · refine TT.steps (cd := cd61) 2 (c' := (16, [(2, 295), (0, ((p : Nat) : Int))], [(0, ((p : Nat) : Int)), (2, 295)], σ)) rfl rfl ?_
      refine TT.call (cd := cd61) rfl rfl rfl (by decide) rfl (t_isHired X p (by omega) σ hv hv2) (fun r4 σ4 hq => ?_)
      rw [hq.1, hq.2]
      refine TT.steps (cd := cd61) 1 (c' := ((if decide (¬ ((if (σ 322 (10 * v + p)) = 1 then 1 else 0) : Int) = 0) = true then 20 else 18), [(2, 295), (0, ((p : Nat) : Int))], [], σ)) rfl rfl ?_
      refine TT.br (p := ¬ ((if (σ 322 (10 * v + p)) = 1 then 1 else 0) : Int) = 0) (fun h5 => ?_) (fun h5 => ?_)
      · replace h5 := ite_t h5
        refine TT.steps (cd := cd61) 1 (c' := (21, [(2, 295), (0, ((p : Nat) : Int))], [(0, 0)], σ)) rfl rfl ?_
        exact TT.ret (cd := cd61) rfl rfl rfl rfl (⟨by first | (rw [if_pos (by omega)]; done) | (rw [if_neg (by omega)]; done), rfl⟩)
      · replace h5 := ite_f (Decidable.not_not.mp h5)
        refine TT.steps (cd := cd61) 2 (c' := (21, [(2, 295), (0, ((p : Nat) : Int))], [(0, 1)], σ)) rfl rfl ?_
        exact TT.ret (cd := cd61) rfl rfl rfl rfl (⟨by first | (rw [if_pos (by omega)]; done) | (rw [if_neg (by omega)]; done), rfl⟩)
/-- whether somebody of the layer was born at a station -/
abbrev mAnyB (σ : AH) (v np : Nat) (s : Int) : Bool := anyN (fun p => decide (σ 318 (10 * v + p) = s ∧ σ 319 (10 * v + p) = -1)) np
theorem l_isDead (X : AX) (np v : Nat) (s : Int) (hv2 : v < 22) (σ : AH) {b : Nat} (hb : σ 295 13 = (b : Int)) (hb2 : b < 2) (hnp : σ 307 b = (np : Int)) (hnp2 : np ≤ 10) : ∀ (d n : Nat), n + d = np → (∀ p, p < n → (fun p => decide (σ 318 (10 * v + p) = s ∧ σ 319 (10 * v + p) = -1)) p = false) → TT X 62 (5, [(2, 295), (0, ((v : Nat) : Int)), (0, s), (0, ((n : Nat) : Int))], [], (up2 σ 295 46 ((v : Nat) : Int))) (fun r σ' => r = some (0, if mAnyB σ v np s = true then 0 else 1) ∧ σ' = (up2 σ 295 46 ((v : Nat) : Int))) := by
  intro d
  induction d with
  | zero =>
    intro n hn ha
    have hnn : n = np := by omega
    refine TT.steps (cd := cd62) 5 (c' := (10, [(2, 295), (0, ((v : Nat) : Int)), (0, s), (0, ((n : Nat) : Int))], [(0, ((up2 σ 295 46 ((v : Nat) : Int)) 295 13)), (2, 307), (0, ((n : Nat) : Int))], (up2 σ 295 46 ((v : Nat) : Int)))) rfl rfl ?_
    refine TT.top0 (z := ((b : Nat) : Int)) ((up2_by _ _ _ (by decide)).trans hb) ?_
    refine TT.aldN (cd := cd62) (307) (b) rfl rfl rfl rfl (show b < 2 by omega) ?_
    refine TT.top0 (z := ((np : Nat) : Int)) ((up2_far (k := 295) _ _ _ _ (by decide)).trans hnp) ?_
    refine TT.steps (cd := cd62) 1 (c' := ((if decide (((np : Nat) : Int) ≤ ((n : Nat) : Int)) = true then 21 else 12), [(2, 295), (0, ((v : Nat) : Int)), (0, s), (0, ((n : Nat) : Int))], [], (up2 σ 295 46 ((v : Nat) : Int)))) rfl rfl ?_
    refine TT.br (p := ((np : Nat) : Int) ≤ ((n : Nat) : Int)) (fun h1 => ?_) (fun h1 => absurd (show ((np : Nat) : Int) ≤ ((n : Nat) : Int) by omega) h1)
    refine TT.steps (cd := cd62) 1 (c' := (22, [(2, 295), (0, ((v : Nat) : Int)), (0, s), (0, ((n : Nat) : Int))], [(0, 1)], (up2 σ 295 46 ((v : Nat) : Int)))) rfl rfl ?_
    exact TT.ret (cd := cd62) rfl rfl rfl rfl (⟨by rw [if_neg (by rw [mAnyB, anyN_f (fun p hp => ha p (by omega))]; decide)], rfl⟩)
  | succ d ih =>
    intro n hn ha
    refine TT.steps (cd := cd62) 5 (c' := (10, [(2, 295), (0, ((v : Nat) : Int)), (0, s), (0, ((n : Nat) : Int))], [(0, ((up2 σ 295 46 ((v : Nat) : Int)) 295 13)), (2, 307), (0, ((n : Nat) : Int))], (up2 σ 295 46 ((v : Nat) : Int)))) rfl rfl ?_
    refine TT.top0 (z := ((b : Nat) : Int)) ((up2_by _ _ _ (by decide)).trans hb) ?_
    refine TT.aldN (cd := cd62) (307) (b) rfl rfl rfl rfl (show b < 2 by omega) ?_
    refine TT.top0 (z := ((np : Nat) : Int)) ((up2_far (k := 295) _ _ _ _ (by decide)).trans hnp) ?_
    refine TT.steps (cd := cd62) 1 (c' := ((if decide (((np : Nat) : Int) ≤ ((n : Nat) : Int)) = true then 21 else 12), [(2, 295), (0, ((v : Nat) : Int)), (0, s), (0, ((n : Nat) : Int))], [], (up2 σ 295 46 ((v : Nat) : Int)))) rfl rfl ?_
    refine TT.br (p := ((np : Nat) : Int) ≤ ((n : Nat) : Int)) (fun h1 => absurd h1 (show ¬ (((np : Nat) : Int) ≤ ((n : Nat) : Int)) by omega)) (fun h1 => ?_)
    refine TT.steps (cd := cd62) 3 (c' := (15, [(2, 295), (0, ((v : Nat) : Int)), (0, s), (0, ((n : Nat) : Int))], [(0, s), (0, ((n : Nat) : Int)), (2, 295)], (up2 σ 295 46 ((v : Nat) : Int)))) rfl rfl ?_
    refine TT.call (cd := cd62) rfl rfl rfl (by decide) rfl (t_isBornAt X n (by omega) s (up2 σ 295 46 ((v : Nat) : Int)) (up2_hit _ _ _ _) hv2) (fun r2 σ2 hq => ?_)
    rw [hq.1, hq.2]
    refine TT.steps (cd := cd62) 1 (c' := ((if decide (((if mBA (up2 σ 295 46 ((v : Nat) : Int)) v n s then 1 else 0) : Int) = 0) = true then 19 else 17), [(2, 295), (0, ((v : Nat) : Int)), (0, s), (0, ((n : Nat) : Int))], [], (up2 σ 295 46 ((v : Nat) : Int)))) rfl rfl ?_
    refine TT.br (p := ((if mBA (up2 σ 295 46 ((v : Nat) : Int)) v n s then 1 else 0) : Int) = 0) (fun h3 => ?_) (fun h3 => ?_)
    · replace h3 := ite_f h3
      refine TT.inc (cd := cd62) ((n + 1 : Nat) : Int) rfl rfl rfl rfl (fun h => absurd h.2 (show ¬ (0 = 1) by decide)) (aAdd_n (a := n) (b := 1) (by omega)) (ls' := [(2, 295), (0, ((v : Nat) : Int)), (0, s), (0, ((n + 1 : Nat) : Int))]) rfl ?_
      refine TT.steps (cd := cd62) 1 (c' := (5, [(2, 295), (0, ((v : Nat) : Int)), (0, s), (0, ((n + 1 : Nat) : Int))], [], (up2 σ 295 46 ((v : Nat) : Int)))) rfl rfl ?_
      exact ih (n + 1) (by omega) (fun p hp => by rcases (show p < n ∨ p = n by omega) with h | rfl; exact ha p h; exact decide_eq_false h3)
    · replace h3 := ite_t h3
      refine TT.steps (cd := cd62) 1 (c' := (18, [(2, 295), (0, ((v : Nat) : Int)), (0, s), (0, ((n : Nat) : Int))], [(0, 0)], (up2 σ 295 46 ((v : Nat) : Int)))) rfl rfl ?_
      exact TT.ret (cd := cd62) rfl rfl rfl rfl ⟨by rw [if_pos (anyN_t (p := n) (by omega) (decide_eq_true h3))], rfl⟩
theorem t_isDead (X : AX) (np v : Nat) (s : Int) (hv2 : v < 22) (σ : AH) {b : Nat} (hb : σ 295 13 = (b : Int)) (hb2 : b < 2) (hnp : σ 307 b = (np : Int)) (hnp2 : np ≤ 10)  : TT X 62 (0, [(2, 295), (0, ((v : Nat) : Int)), (0, s), (9, 0)], [], σ) (fun r σ' => r = some (0, if mAnyB σ v np s = true then 0 else 1) ∧ σ' = (up2 σ 295 46 ((v : Nat) : Int))) := by
  refine TT.steps (cd := cd62) 5 (c' := (5, [(2, 295), (0, ((v : Nat) : Int)), (0, s), (0, 0)], [], (up2 σ 295 46 ((v : Nat) : Int)))) rfl rfl ?_
  exact l_isDead X np v s hv2 σ hb hb2 hnp hnp2 np 0 (by omega) (fun p hp => by omega)
