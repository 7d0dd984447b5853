def mWr (σ : AH) (v : Int) (oc : Nat) : AH := up2 (up2 σ 338 oc (aAnd v 255)) 295 64 ((oc + 1 : Nat) : Int)
theorem mWr_o (σ : AH) (v : Int) (oc : Nat) : mWr σ v oc 295 64 = ((oc + 1 : Nat) : Int) := up2_hit _ _ _ _
theorem mWr_fr (σ : AH) (v : Int) (oc c j : Nat) (h : c ≠ 338 ∧ (c ≠ 295 ∨ j ≠ 64)) : mWr σ v oc c j = σ c j := by
  unfold mWr
  simp only [up2]
  repeat rw [if_neg (by omega)]
def sumI (f : Nat → Int) : Nat → Int
  | 0 => 67
  | k + 1 => aRem (aAdd (aMul 5 (sumI f k)) (f k)) 249
def mImP (σ : AH) : Nat → AH
  | 0 => σ
  | n + 1 => mWr (mWr (mWr (mWr (mWr (mWr (mImP σ n) (σ 317 n) (2 + 6 * n)) (aAdd (σ 318 n) 1) (2 + 6 * n + 1)) (aAdd (σ 319 n) 1) (2 + 6 * n + 1 + 1)) (σ 320 n) (2 + 6 * n + 1 + 1 + 1)) (σ 321 n) (2 + 6 * n + 1 + 1 + 1 + 1)) (σ 322 n) (2 + 6 * n + 1 + 1 + 1 + 1 + 1)
theorem mImP_fr (σ : AH) (n c j : Nat) (h : c ≠ 338 ∧ (c ≠ 295 ∨ j ≠ 64)) : mImP σ n c j = σ c j := by
  induction n with
  | zero => rfl
  | succ n ih => rw [mImP, mWr_fr _ _ _ _ _ h, mWr_fr _ _ _ _ _ h, mWr_fr _ _ _ _ _ h, mWr_fr _ _ _ _ _ h, mWr_fr _ _ _ _ _ h, mWr_fr _ _ _ _ _ h, ih]
theorem mImP_o (σ : AH) (h : σ 295 64 = ((2 : Nat) : Int)) (n : Nat) : mImP σ n 295 64 = ((2 + 6 * n : Nat) : Int) := by
  cases n with
  | zero => exact h
  | succ n => rw [mImP, mWr_o]; congr 1
theorem t_writes (X : AX) (v : Int) (oc : Nat) (ho : oc < 80) (σ : AH) (hoc : σ 295 64 = (oc : Int))  : TT X 105 (0, [(2, 295), (0, v)], [], σ) (fun r σ' => r = none ∧ σ' = mWr σ v oc) := by
  refine TT.steps (cd := cd105) 4 (c' := (4, [(2, 295), (0, v)], [(0, (σ 295 64)), (2, 338)], σ)) rfl rfl ?_
  refine TT.top0 (z := ((oc : Nat) : Int)) hoc ?_
  refine TT.steps (cd := cd105) 3 (c' := (7, [(2, 295), (0, v)], [(0, (aAnd v 255)), (0, ((oc : Nat) : Int)), (2, 338)], σ)) rfl rfl ?_
  refine TT.astN (cd := cd105) (338) (oc) rfl rfl rfl rfl (show oc < 80 by omega) ?_
  refine TT.steps (cd := cd105) 3 (c' := (11, [(2, 295), (0, v)], [(0, ((up2 σ 338 oc (aAnd v 255)) 295 64)), (2, 295)], (up2 σ 338 oc (aAnd v 255)))) rfl rfl ?_
  refine TT.top0 (z := ((oc : Nat) : Int)) ((up2_far (k := 338) (k' := 295) _ _ _ _ (by decide)).trans hoc) ?_
  refine TT.steps (cd := cd105) 2 (c' := (13, [(2, 295), (0, v)], [(0, (aAdd ((oc : Nat) : Int) 1)), (2, 295)], (up2 σ 338 oc (aAnd v 255)))) rfl rfl ?_
  refine TT.top0 (z := ((oc + 1 : Nat) : Int)) (aAdd_n (a := oc) (b := 1) (by omega)) ?_
  refine TT.steps (cd := cd105) 1 (c' := (14, [(2, 295), (0, v)], [], (up2 (up2 σ 338 oc (aAnd v 255)) 295 64 ((oc + 1 : Nat) : Int)))) rfl rfl ?_
  exact TT.ret (cd := cd105) rfl rfl rfl rfl (⟨rfl, rfl⟩)
theorem t_octet0 (X : AX) (k : Int) (oc : Nat) (ho : oc ≤ 80) (σ : AH) (hoc : σ 295 64 = (oc : Int)) (hk : ¬ (0 ≤ k ∧ k < (oc : Int)))  : TT X 107 (0, [(2, 295), (0, k)], [], σ) (fun r σ' => r = some (0, -1) ∧ σ' = σ) := by
  refine TT.steps (cd := cd107) 4 (c' := (4, [(2, 295), (0, k)], [(0, (σ 295 64)), (0, 0), (0, k)], σ)) rfl rfl ?_
  refine TT.top0 (z := ((oc : Nat) : Int)) hoc ?_
  refine TT.steps (cd := cd107) 2 (c' := (6, [(2, 295), (0, k)], [(0, (aSub ((oc : Nat) : Int) 1)), (0, 0), (0, k)], σ)) rfl rfl ?_
  refine TT.top0 (z := ((oc : Int) - 1)) (aSub_of (by omega) (by omega)) ?_
  refine TT.call (cd := cd107) rfl rfl rfl (by decide) rfl (t_is X k 0 ((oc : Int) - 1) σ) (fun r1 σ1 hq => ?_)
  rw [hq.1, hq.2]
  refine TT.steps (cd := cd107) 1 (c' := ((if decide (((if 0 ≤ k ∧ k ≤ ((oc : Int) - 1) then 1 else 0) : Int) = 0) = true then 13 else 8), [(2, 295), (0, k)], [], σ)) rfl rfl ?_
  refine TT.br (p := ((if 0 ≤ k ∧ k ≤ ((oc : Int) - 1) then 1 else 0) : Int) = 0) (fun h2 => ?_) (fun h2 => ?_)
  · replace h2 := ite_f h2
    refine TT.steps (cd := cd107) 1 (c' := (14, [(2, 295), (0, k)], [(0, -1)], σ)) rfl rfl ?_
    exact TT.ret (cd := cd107) rfl rfl rfl rfl (⟨rfl, rfl⟩)
  · replace h2 := ite_t h2
    exfalso
    omega
theorem t_octet1 (X : AX) (k oc : Nat) (ho : oc ≤ 80) (σ : AH) (hoc : σ 295 64 = (oc : Int)) (hk : k < oc)  : TT X 107 (0, [(2, 295), (0, ((k : Nat) : Int))], [], σ) (fun r σ' => r = some (0, σ 338 k) ∧ σ' = σ) := by
  refine TT.steps (cd := cd107) 4 (c' := (4, [(2, 295), (0, ((k : Nat) : Int))], [(0, (σ 295 64)), (0, 0), (0, ((k : Nat) : Int))], σ)) rfl rfl ?_
  refine TT.top0 (z := ((oc : Nat) : Int)) hoc ?_
  refine TT.steps (cd := cd107) 2 (c' := (6, [(2, 295), (0, ((k : Nat) : Int))], [(0, (aSub ((oc : Nat) : Int) 1)), (0, 0), (0, ((k : Nat) : Int))], σ)) rfl rfl ?_
  refine TT.top0 (z := ((oc : Int) - 1)) (aSub_of (by omega) (by omega)) ?_
  refine TT.call (cd := cd107) rfl rfl rfl (by decide) rfl (t_is X ((k : Nat) : Int) 0 ((oc : Int) - 1) σ) (fun r1 σ1 hq => ?_)
  rw [hq.1, hq.2]
  refine TT.steps (cd := cd107) 1 (c' := ((if decide (((if 0 ≤ ((k : Nat) : Int) ∧ ((k : Nat) : Int) ≤ ((oc : Int) - 1) then 1 else 0) : Int) = 0) = true then 13 else 8), [(2, 295), (0, ((k : Nat) : Int))], [], σ)) rfl rfl ?_
  refine TT.br (p := ((if 0 ≤ ((k : Nat) : Int) ∧ ((k : Nat) : Int) ≤ ((oc : Int) - 1) then 1 else 0) : Int) = 0) (fun h2 => ?_) (fun h2 => ?_)
  · replace h2 := ite_f h2
    exfalso
    omega
  · replace h2 := ite_t h2
    refine TT.steps (cd := cd107) 3 (c' := (11, [(2, 295), (0, ((k : Nat) : Int))], [(0, ((k : Nat) : Int)), (2, 338)], σ)) rfl rfl ?_
    refine TT.aldN (cd := cd107) (338) (k) rfl rfl rfl rfl (show k < 80 by omega) ?_
    refine TT.steps (cd := cd107) 1 (c' := (14, [(2, 295), (0, ((k : Nat) : Int))], [(0, (σ 338 k))], σ)) rfl rfl ?_
    exact TT.ret (cd := cd107) rfl rfl rfl rfl (⟨rfl, rfl⟩)
theorem l_image1 (X : AX) (Q : Option AV → AH → Prop) (y : AV) (np : Nat) (σ : AH) {b : Nat} (hb : σ 295 13 = (b : Int)) (hb2 : b < 2) (hnp : σ 307 b = (np : Int)) (hnp2 : np ≤ 10) (ho : σ 295 64 = ((2 : Nat) : Int)) (kk : ∀ x : AV, TT X 106 (68, [(2, 295), x, y], [], mImP σ np) Q) : ∀ (d n : Nat), n + d = np → TT X 106 (19, [(2, 295), (0, ((n : Nat) : Int)), y], [], (mImP σ n)) Q := by
  intro d
  induction d with
  | zero =>
    intro n hn 
    have hnn : n = np := by omega
    refine TT.steps (cd := cd106) 5 (c' := (24, [(2, 295), (0, ((n : Nat) : Int)), y], [(0, ((mImP σ n) 295 13)), (2, 307), (0, ((n : Nat) : Int))], (mImP σ n))) rfl rfl ?_
    refine TT.top0 (z := ((b : Nat) : Int)) ((mImP_fr _ _ _ (13) ⟨by decide, Or.inr (by decide)⟩).trans hb) ?_
    refine TT.aldN (cd := cd106) (307) (b) rfl rfl rfl rfl (show b < 2 by omega) ?_
    refine TT.top0 (z := ((np : Nat) : Int)) ((mImP_fr _ _ 307 (b) ⟨by decide, Or.inl (by decide)⟩).trans hnp) ?_
    refine TT.steps (cd := cd106) 1 (c' := ((if decide (((np : Nat) : Int) ≤ ((n : Nat) : Int)) = true then 68 else 26), [(2, 295), (0, ((n : Nat) : Int)), y], [], (mImP σ n))) rfl rfl ?_
    refine TT.br (p := ((np : Nat) : Int) ≤ ((n : Nat) : Int)) (fun h1 => ?_) (fun h1 => absurd (show ((np : Nat) : Int) ≤ ((n : Nat) : Int) by omega) h1)
    subst hnn
    exact kk _
  | succ d ih =>
    intro n hn 
    refine TT.steps (cd := cd106) 5 (c' := (24, [(2, 295), (0, ((n : Nat) : Int)), y], [(0, ((mImP σ n) 295 13)), (2, 307), (0, ((n : Nat) : Int))], (mImP σ n))) rfl rfl ?_
    refine TT.top0 (z := ((b : Nat) : Int)) ((mImP_fr _ _ _ (13) ⟨by decide, Or.inr (by decide)⟩).trans hb) ?_
    refine TT.aldN (cd := cd106) (307) (b) rfl rfl rfl rfl (show b < 2 by omega) ?_
    refine TT.top0 (z := ((np : Nat) : Int)) ((mImP_fr _ _ 307 (b) ⟨by decide, Or.inl (by decide)⟩).trans hnp) ?_
    refine TT.steps (cd := cd106) 1 (c' := ((if decide (((np : Nat) : Int) ≤ ((n : Nat) : Int)) = true then 68 else 26), [(2, 295), (0, ((n : Nat) : Int)), y], [], (mImP σ n))) rfl rfl ?_
    refine TT.br (p := ((np : Nat) : Int) ≤ ((n : Nat) : Int)) (fun h1 => absurd h1 (show ¬ (((np : Nat) : Int) ≤ ((n : Nat) : Int)) by omega)) (fun h1 => ?_)
    refine TT.steps (cd := cd106) 4 (c' := (30, [(2, 295), (0, ((n : Nat) : Int)), y], [(0, ((n : Nat) : Int)), (2, 317), (2, 295)], (mImP σ n))) rfl rfl ?_
    refine TT.aldN (cd := cd106) (317) (n) rfl rfl rfl rfl (show n < 220 by omega) ?_
    refine TT.top0 (z := (σ 317 n)) (mImP_fr _ _ 317 (n) ⟨by decide, Or.inl (by decide)⟩) ?_
    refine TT.call (cd := cd106) rfl rfl rfl (by decide) rfl (t_writes X (σ 317 n) (2 + 6 * n) (by omega) (mImP σ n) (mImP_o σ ho n)) (fun r2 σ2 hq => ?_)
    rw [hq.1, hq.2]
    refine TT.steps (cd := cd106) 4 (c' := (36, [(2, 295), (0, ((n : Nat) : Int)), y], [(0, ((n : Nat) : Int)), (2, 318), (2, 295)], (mWr (mImP σ n) (σ 317 n) (2 + 6 * n)))) rfl rfl ?_
    refine TT.aldN (cd := cd106) (318) (n) rfl rfl rfl rfl (show n < 220 by omega) ?_
    refine TT.top0 (z := (σ 318 n)) ((mWr_fr _ _ _ 318 (n) ⟨by decide, Or.inl (by decide)⟩).trans (mImP_fr _ _ 318 (n) ⟨by decide, Or.inl (by decide)⟩)) ?_
    refine TT.steps (cd := cd106) 2 (c' := (39, [(2, 295), (0, ((n : Nat) : Int)), y], [(0, (aAdd (σ 318 n) 1)), (2, 295)], (mWr (mImP σ n) (σ 317 n) (2 + 6 * n)))) rfl rfl ?_
    refine TT.call (cd := cd106) rfl rfl rfl (by decide) rfl (t_writes X (aAdd (σ 318 n) 1) ((2 + 6 * n) + 1) (by omega) (mWr (mImP σ n) (σ 317 n) (2 + 6 * n)) (mWr_o _ _ _)) (fun r3 σ3 hq => ?_)
    rw [hq.1, hq.2]
    refine TT.steps (cd := cd106) 4 (c' := (44, [(2, 295), (0, ((n : Nat) : Int)), y], [(0, ((n : Nat) : Int)), (2, 319), (2, 295)], (mWr (mWr (mImP σ n) (σ 317 n) (2 + 6 * n)) (aAdd (σ 318 n) 1) ((2 + 6 * n) + 1)))) rfl rfl ?_
    refine TT.aldN (cd := cd106) (319) (n) rfl rfl rfl rfl (show n < 220 by omega) ?_
    refine TT.top0 (z := (σ 319 n)) (((mWr_fr _ _ _ 319 (n) ⟨by decide, Or.inl (by decide)⟩).trans (mWr_fr _ _ _ 319 (n) ⟨by decide, Or.inl (by decide)⟩)).trans (mImP_fr _ _ 319 (n) ⟨by decide, Or.inl (by decide)⟩)) ?_
    refine TT.steps (cd := cd106) 2 (c' := (47, [(2, 295), (0, ((n : Nat) : Int)), y], [(0, (aAdd (σ 319 n) 1)), (2, 295)], (mWr (mWr (mImP σ n) (σ 317 n) (2 + 6 * n)) (aAdd (σ 318 n) 1) ((2 + 6 * n) + 1)))) rfl rfl ?_
    refine TT.call (cd := cd106) rfl rfl rfl (by decide) rfl (t_writes X (aAdd (σ 319 n) 1) (((2 + 6 * n) + 1) + 1) (by omega) (mWr (mWr (mImP σ n) (σ 317 n) (2 + 6 * n)) (aAdd (σ 318 n) 1) ((2 + 6 * n) + 1)) (mWr_o _ _ _)) (fun r4 σ4 hq => ?_)
    rw [hq.1, hq.2]
    refine TT.steps (cd := cd106) 4 (c' := (52, [(2, 295), (0, ((n : Nat) : Int)), y], [(0, ((n : Nat) : Int)), (2, 320), (2, 295)], (mWr (mWr (mWr (mImP σ n) (σ 317 n) (2 + 6 * n)) (aAdd (σ 318 n) 1) ((2 + 6 * n) + 1)) (aAdd (σ 319 n) 1) (((2 + 6 * n) + 1) + 1)))) rfl rfl ?_
    refine TT.aldN (cd := cd106) (320) (n) rfl rfl rfl rfl (show n < 220 by omega) ?_
    refine TT.top0 (z := (σ 320 n)) ((((mWr_fr _ _ _ 320 (n) ⟨by decide, Or.inl (by decide)⟩).trans (mWr_fr _ _ _ 320 (n) ⟨by decide, Or.inl (by decide)⟩)).trans (mWr_fr _ _ _ 320 (n) ⟨by decide, Or.inl (by decide)⟩)).trans (mImP_fr _ _ 320 (n) ⟨by decide, Or.inl (by decide)⟩)) ?_
    refine TT.call (cd := cd106) rfl rfl rfl (by decide) rfl (t_writes X (σ 320 n) ((((2 + 6 * n) + 1) + 1) + 1) (by omega) (mWr (mWr (mWr (mImP σ n) (σ 317 n) (2 + 6 * n)) (aAdd (σ 318 n) 1) ((2 + 6 * n) + 1)) (aAdd (σ 319 n) 1) (((2 + 6 * n) + 1) + 1)) (mWr_o _ _ _)) (fun r5 σ5 hq => ?_)
    rw [hq.1, hq.2]
    refine TT.steps (cd := cd106) 4 (c' := (58, [(2, 295), (0, ((n : Nat) : Int)), y], [(0, ((n : Nat) : Int)), (2, 321), (2, 295)], (mWr (mWr (mWr (mWr (mImP σ n) (σ 317 n) (2 + 6 * n)) (aAdd (σ 318 n) 1) ((2 + 6 * n) + 1)) (aAdd (σ 319 n) 1) (((2 + 6 * n) + 1) + 1)) (σ 320 n) ((((2 + 6 * n) + 1) + 1) + 1)))) rfl rfl ?_
    refine TT.aldN (cd := cd106) (321) (n) rfl rfl rfl rfl (show n < 220 by omega) ?_
    refine TT.top0 (z := (σ 321 n)) (((((mWr_fr _ _ _ 321 (n) ⟨by decide, Or.inl (by decide)⟩).trans (mWr_fr _ _ _ 321 (n) ⟨by decide, Or.inl (by decide)⟩)).trans (mWr_fr _ _ _ 321 (n) ⟨by decide, Or.inl (by decide)⟩)).trans (mWr_fr _ _ _ 321 (n) ⟨by decide, Or.inl (by decide)⟩)).trans (mImP_fr _ _ 321 (n) ⟨by decide, Or.inl (by decide)⟩)) ?_
    refine TT.call (cd := cd106) rfl rfl rfl (by decide) rfl (t_writes X (σ 321 n) (((((2 + 6 * n) + 1) + 1) + 1) + 1) (by omega) (mWr (mWr (mWr (mWr (mImP σ n) (σ 317 n) (2 + 6 * n)) (aAdd (σ 318 n) 1) ((2 + 6 * n) + 1)) (aAdd (σ 319 n) 1) (((2 + 6 * n) + 1) + 1)) (σ 320 n) ((((2 + 6 * n) + 1) + 1) + 1)) (mWr_o _ _ _)) (fun r6 σ6 hq => ?_)
    rw [hq.1, hq.2]
    refine TT.steps (cd := cd106) 4 (c' := (64, [(2, 295), (0, ((n : Nat) : Int)), y], [(0, ((n : Nat) : Int)), (2, 322), (2, 295)], (mWr (mWr (mWr (mWr (mWr (mImP σ n) (σ 317 n) (2 + 6 * n)) (aAdd (σ 318 n) 1) ((2 + 6 * n) + 1)) (aAdd (σ 319 n) 1) (((2 + 6 * n) + 1) + 1)) (σ 320 n) ((((2 + 6 * n) + 1) + 1) + 1)) (σ 321 n) (((((2 + 6 * n) + 1) + 1) + 1) + 1)))) rfl rfl ?_
    refine TT.aldN (cd := cd106) (322) (n) rfl rfl rfl rfl (show n < 220 by omega) ?_
    refine TT.top0 (z := (σ 322 n)) ((((((mWr_fr _ _ _ 322 (n) ⟨by decide, Or.inl (by decide)⟩).trans (mWr_fr _ _ _ 322 (n) ⟨by decide, Or.inl (by decide)⟩)).trans (mWr_fr _ _ _ 322 (n) ⟨by decide, Or.inl (by decide)⟩)).trans (mWr_fr _ _ _ 322 (n) ⟨by decide, Or.inl (by decide)⟩)).trans (mWr_fr _ _ _ 322 (n) ⟨by decide, Or.inl (by decide)⟩)).trans (mImP_fr _ _ 322 (n) ⟨by decide, Or.inl (by decide)⟩)) ?_
    refine TT.call (cd := cd106) rfl rfl rfl (by decide) rfl (t_writes X (σ 322 n) ((((((2 + 6 * n) + 1) + 1) + 1) + 1) + 1) (by omega) (mWr (mWr (mWr (mWr (mWr (mImP σ n) (σ 317 n) (2 + 6 * n)) (aAdd (σ 318 n) 1) ((2 + 6 * n) + 1)) (aAdd (σ 319 n) 1) (((2 + 6 * n) + 1) + 1)) (σ 320 n) ((((2 + 6 * n) + 1) + 1) + 1)) (σ 321 n) (((((2 + 6 * n) + 1) + 1) + 1) + 1)) (mWr_o _ _ _)) (fun r7 σ7 hq => ?_)
    rw [hq.1, hq.2]
    refine TT.inc (cd := cd106) ((n + 1 : Nat) : Int) rfl rfl rfl rfl (fun h => absurd h.2 (show ¬ (2 = 1) by decide)) (aAdd_n (a := n) (b := 1) (by omega)) (ls' := [(2, 295), (0, ((n + 1 : Nat) : Int)), y]) rfl ?_
    refine TT.steps (cd := cd106) 1 (c' := (19, [(2, 295), (0, ((n + 1 : Nat) : Int)), y], [], (mWr (mWr (mWr (mWr (mWr (mWr (mImP σ n) (σ 317 n) (2 + 6 * n)) (aAdd (σ 318 n) 1) ((2 + 6 * n) + 1)) (aAdd (σ 319 n) 1) (((2 + 6 * n) + 1) + 1)) (σ 320 n) ((((2 + 6 * n) + 1) + 1) + 1)) (σ 321 n) (((((2 + 6 * n) + 1) + 1) + 1) + 1)) (σ 322 n) ((((((2 + 6 * n) + 1) + 1) + 1) + 1) + 1)))) rfl rfl ?_
    exact ih (n + 1) (by omega)
theorem l_image2 (X : AX) (Q : Option AV → AH → Prop) (m : Nat) (hm : m ≤ 80) (σ : AH) (hoc : σ 295 64 = (m : Int)) (kk : ∀ x : AV, TT X 106 (89, [(2, 295), (0, (sumI (fun k => σ 338 k) m)), x], [], σ) Q) : ∀ (d n : Nat), n + d = m → TT X 106 (72, [(2, 295), (0, (sumI (fun k => σ 338 k) n)), (0, ((n : Nat) : Int))], [], σ) Q := by
  intro d
  induction d with
  | zero =>
    intro n hn 
    have hnn : n = m := by omega
    refine TT.steps (cd := cd106) 3 (c' := (75, [(2, 295), (0, (sumI (fun k => σ 338 k) n)), (0, ((n : Nat) : Int))], [(0, (σ 295 64)), (0, ((n : Nat) : Int))], σ)) rfl rfl ?_
    refine TT.top0 (z := ((m : Nat) : Int)) hoc ?_
    refine TT.steps (cd := cd106) 1 (c' := ((if decide (((m : Nat) : Int) ≤ ((n : Nat) : Int)) = true then 89 else 76), [(2, 295), (0, (sumI (fun k => σ 338 k) n)), (0, ((n : Nat) : Int))], [], σ)) rfl rfl ?_
    refine TT.br (p := ((m : Nat) : Int) ≤ ((n : Nat) : Int)) (fun h1 => ?_) (fun h1 => absurd (show ((m : Nat) : Int) ≤ ((n : Nat) : Int) by omega) h1)
    subst hnn
    exact kk _
  | succ d ih =>
    intro n hn 
    refine TT.steps (cd := cd106) 3 (c' := (75, [(2, 295), (0, (sumI (fun k => σ 338 k) n)), (0, ((n : Nat) : Int))], [(0, (σ 295 64)), (0, ((n : Nat) : Int))], σ)) rfl rfl ?_
    refine TT.top0 (z := ((m : Nat) : Int)) hoc ?_
    refine TT.steps (cd := cd106) 1 (c' := ((if decide (((m : Nat) : Int) ≤ ((n : Nat) : Int)) = true then 89 else 76), [(2, 295), (0, (sumI (fun k => σ 338 k) n)), (0, ((n : Nat) : Int))], [], σ)) rfl rfl ?_
    refine TT.br (p := ((m : Nat) : Int) ≤ ((n : Nat) : Int)) (fun h1 => absurd h1 (show ¬ (((m : Nat) : Int) ≤ ((n : Nat) : Int)) by omega)) (fun h1 => ?_)
    refine TT.steps (cd := cd106) 3 (c' := (79, [(2, 295), (0, (sumI (fun k => σ 338 k) n)), (0, ((n : Nat) : Int))], [(0, (aMul 5 (sumI (fun k => σ 338 k) n)))], σ)) rfl rfl ?_
    refine TT.steps (cd := cd106) 3 (c' := (82, [(2, 295), (0, (sumI (fun k => σ 338 k) n)), (0, ((n : Nat) : Int))], [(0, ((n : Nat) : Int)), (2, 338), (0, (aMul 5 (sumI (fun k => σ 338 k) n)))], σ)) rfl rfl ?_
    refine TT.aldN (cd := cd106) (338) (n) rfl rfl rfl rfl (show n < 80 by omega) ?_
    refine TT.steps (cd := cd106) 1 (c' := (84, [(2, 295), (0, (sumI (fun k => σ 338 k) n)), (0, ((n : Nat) : Int))], [(0, (aAdd (aMul 5 (sumI (fun k => σ 338 k) n)) (σ 338 n)))], σ)) rfl rfl ?_
    refine TT.steps (cd := cd106) 3 (c' := (87, [(2, 295), (0, (aRem (aAdd (aMul 5 (sumI (fun k => σ 338 k) n)) (σ 338 n)) 249)), (0, ((n : Nat) : Int))], [], σ)) rfl rfl ?_
    refine TT.inc (cd := cd106) ((n + 1 : Nat) : Int) rfl rfl rfl rfl (fun h => absurd h.2 (show ¬ (0 = 1) by decide)) (aAdd_n (a := n) (b := 1) (by omega)) (ls' := [(2, 295), (0, (aRem (aAdd (aMul 5 (sumI (fun k => σ 338 k) n)) (σ 338 n)) 249)), (0, ((n + 1 : Nat) : Int))]) rfl ?_
    refine TT.steps (cd := cd106) 1 (c' := (72, [(2, 295), (0, (aRem (aAdd (aMul 5 (sumI (fun k => σ 338 k) n)) (σ 338 n)) 249)), (0, ((n + 1 : Nat) : Int))], [], σ)) rfl rfl ?_
    exact ih (n + 1) (by omega)
theorem t_image (X : AX) (np : Nat) (σ : AH) {b : Nat} (hb : σ 295 13 = (b : Int)) (hb2 : b < 2) (hnp : σ 307 b = (np : Int)) (hnp2 : np ≤ 10)  : TT X 106 (0, [(2, 295), (9, 0), (9, 0)], [], σ) (fun r σ' => r = some (0, ((2 + 6 * np + 1 : Nat) : Int)) ∧ σ' = mWr (mImP (mWr (mWr (up2 σ 295 64 0) (aShr (σ 316 0) 8) 0) (σ 316 0) (0 + 1)) np) (sumI (fun k => (mImP (mWr (mWr (up2 σ 295 64 0) (aShr (σ 316 0) 8) 0) (σ 316 0) (0 + 1)) np) 338 k) (2 + 6 * np)) (2 + 6 * np)) := by
  refine TT.steps (cd := cd106) 7 (c' := (7, [(2, 295), (9, 0), (9, 0)], [(0, 0), (2, 316), (2, 295)], (up2 σ 295 64 0))) rfl rfl ?_
  refine TT.aldN (cd := cd106) (316) (0) rfl rfl rfl rfl (show 0 < 22 by omega) ?_
  refine TT.top0 (z := (σ 316 0)) (up2_far (k := 295) (k' := 316) _ _ _ _ (by decide)) ?_
  refine TT.steps (cd := cd106) 2 (c' := (10, [(2, 295), (9, 0), (9, 0)], [(0, (aShr (σ 316 0) 8)), (2, 295)], (up2 σ 295 64 0))) rfl rfl ?_
  refine TT.call (cd := cd106) rfl rfl rfl (by decide) rfl (t_writes X (aShr (σ 316 0) 8) 0 (by omega) (up2 σ 295 64 0) (up2_hit _ _ _ _)) (fun r1 σ1 hq => ?_)
  rw [hq.1, hq.2]
  refine TT.steps (cd := cd106) 4 (c' := (15, [(2, 295), (9, 0), (9, 0)], [(0, 0), (2, 316), (2, 295)], (mWr (up2 σ 295 64 0) (aShr (σ 316 0) 8) 0))) rfl rfl ?_
  refine TT.aldN (cd := cd106) (316) (0) rfl rfl rfl rfl (show 0 < 22 by omega) ?_
  refine TT.top0 (z := (σ 316 0)) ((mWr_fr _ _ _ 316 (0) ⟨by decide, Or.inl (by decide)⟩).trans (up2_far (k := 295) (k' := 316) _ _ _ _ (by decide))) ?_
  refine TT.call (cd := cd106) rfl rfl rfl (by decide) rfl (t_writes X (σ 316 0) (0 + 1) (by omega) (mWr (up2 σ 295 64 0) (aShr (σ 316 0) 8) 0) (mWr_o _ _ _)) (fun r2 σ2 hq => ?_)
  rw [hq.1, hq.2]
  refine TT.steps (cd := cd106) 2 (c' := (19, [(2, 295), (0, 0), (9, 0)], [], (mWr (mWr (up2 σ 295 64 0) (aShr (σ 316 0) 8) 0) (σ 316 0) (0 + 1)))) rfl rfl ?_
  refine l_image1 X _ _ np (mWr (mWr (up2 σ 295 64 0) (aShr (σ 316 0) 8) 0) (σ 316 0) (0 + 1)) ((((mWr_fr _ _ _ _ (13) ⟨by decide, Or.inr (by decide)⟩).trans (mWr_fr _ _ _ _ (13) ⟨by decide, Or.inr (by decide)⟩)).trans (up2_by _ _ (j := 64) (j' := 13) _ (by decide))).trans hb) hb2 ((((mWr_fr _ _ _ 307 (b) ⟨by decide, Or.inl (by decide)⟩).trans (mWr_fr _ _ _ 307 (b) ⟨by decide, Or.inl (by decide)⟩)).trans (up2_far (k := 295) (k' := 307) _ _ _ _ (by decide))).trans hnp) hnp2 (mWr_o _ _ _) (fun x => ?_) np 0 (by omega)
  refine TT.steps (cd := cd106) 4 (c' := (72, [(2, 295), (0, 67), (0, 0)], [], (mImP (mWr (mWr (up2 σ 295 64 0) (aShr (σ 316 0) 8) 0) (σ 316 0) (0 + 1)) np))) rfl rfl ?_
  refine l_image2 X _ (2 + 6 * np) (by omega) (mImP (mWr (mWr (up2 σ 295 64 0) (aShr (σ 316 0) 8) 0) (σ 316 0) (0 + 1)) np) (mImP_o _ (mWr_o _ _ _) np) (fun x => ?_) (2 + 6 * np) 0 (by omega)
  refine TT.steps (cd := cd106) 2 (c' := (91, [(2, 295), (0, (sumI (fun k => (mImP (mWr (mWr (up2 σ 295 64 0) (aShr (σ 316 0) 8) 0) (σ 316 0) (0 + 1)) np) 338 k) (2 + 6 * np))), x], [(0, (sumI (fun k => (mImP (mWr (mWr (up2 σ 295 64 0) (aShr (σ 316 0) 8) 0) (σ 316 0) (0 + 1)) np) 338 k) (2 + 6 * np))), (2, 295)], (mImP (mWr (mWr (up2 σ 295 64 0) (aShr (σ 316 0) 8) 0) (σ 316 0) (0 + 1)) np))) rfl rfl ?_
  refine TT.call (cd := cd106) rfl rfl rfl (by decide) rfl (t_writes X (sumI (fun k => (mImP (mWr (mWr (up2 σ 295 64 0) (aShr (σ 316 0) 8) 0) (σ 316 0) (0 + 1)) np) 338 k) (2 + 6 * np)) (2 + 6 * np) (by omega) (mImP (mWr (mWr (up2 σ 295 64 0) (aShr (σ 316 0) 8) 0) (σ 316 0) (0 + 1)) np) (mImP_o _ (mWr_o _ _ _) np)) (fun r3 σ3 hq => ?_)
  rw [hq.1, hq.2]
  refine TT.steps (cd := cd106) 2 (c' := (94, [(2, 295), (0, (sumI (fun k => (mImP (mWr (mWr (up2 σ 295 64 0) (aShr (σ 316 0) 8) 0) (σ 316 0) (0 + 1)) np) 338 k) (2 + 6 * np))), x], [(0, ((mWr (mImP (mWr (mWr (up2 σ 295 64 0) (aShr (σ 316 0) 8) 0) (σ 316 0) (0 + 1)) np) (sumI (fun k => (mImP (mWr (mWr (up2 σ 295 64 0) (aShr (σ 316 0) 8) 0) (σ 316 0) (0 + 1)) np) 338 k) (2 + 6 * np)) (2 + 6 * np)) 295 64))], (mWr (mImP (mWr (mWr (up2 σ 295 64 0) (aShr (σ 316 0) 8) 0) (σ 316 0) (0 + 1)) np) (sumI (fun k => (mImP (mWr (mWr (up2 σ 295 64 0) (aShr (σ 316 0) 8) 0) (σ 316 0) (0 + 1)) np) 338 k) (2 + 6 * np)) (2 + 6 * np)))) rfl rfl ?_
  refine TT.top0 (z := (((2 + 6 * np) + 1 : Nat) : Int)) (mWr_o _ _ _) ?_
  exact TT.ret (cd := cd106) rfl rfl rfl rfl (⟨rfl, rfl⟩)
