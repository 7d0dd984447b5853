/-- people of a layer, the first n of them, over those of another -/
def cpN (σ : AH) (a v n : Nat) : AH := fun k j => if k = 316 ∧ j = a then σ 316 v else if 317 ≤ k ∧ k ≤ 322 ∧ 10 * a ≤ j ∧ j < 10 * a + n then σ k (10 * v + (j - 10 * a)) else σ k j
theorem cpN_r (σ0 : AH) (a v n k : Nat) (hn : n < 10) (h1 : 317 ≤ k) (h2 : k ≤ 322) : cpN σ0 a v n k ((10 * v) + n) = σ0 k ((10 * v) + n) := by
  unfold cpN
  rw [if_neg (by omega), if_neg (by omega)]
theorem cpN_s (σ0 : AH) (a v n : Nat) (hn : n < 10) : (up2 (up2 (up2 (up2 (up2 (up2 (cpN σ0 a v n) 317 ((10 * a) + n) (σ0 317 ((10 * v) + n))) 318 ((10 * a) + n) (σ0 318 ((10 * v) + n))) 319 ((10 * a) + n) (σ0 319 ((10 * v) + n))) 320 ((10 * a) + n) (σ0 320 ((10 * v) + n))) 321 ((10 * a) + n) (σ0 321 ((10 * v) + n))) 322 ((10 * a) + n) (σ0 322 ((10 * v) + n))) = cpN σ0 a v (n + 1) := by
  funext k j
  simp only [up2, cpN]
  repeat' split
  all_goals first | rfl | (exfalso; omega) | (congr 1 <;> first | rfl | omega | (congr 1; omega))

theorem l_copies (X : AX) (a v : Nat) (ha : a < 22) (hv : v < 22) (σ0 : AH) : ∀ (d n : Nat), n + d = 10 → ∀ x4 x5 : AV, TT X 40 (10, [(2, 295), (0, ((a : Nat) : Int)), (0, ((v : Nat) : Int)), (0, ((n : Nat) : Int)), x4, x5], [], cpN σ0 a v n) (fun r σ' => r = none ∧ σ' = cpN σ0 a v 10) := by
  intro d
  induction d with
  | zero =>
    intro n hn x4 x5
    refine TT.steps (cd := cd40) 3 (c' := ((if decide (10 ≤ ((n : Nat) : Int)) = true then 75 else 13), [(2, 295), (0, ((a : Nat) : Int)), (0, ((v : Nat) : Int)), (0, ((n : Nat) : Int)), x4, x5], [], (cpN σ0 a v n))) rfl rfl ?_
    refine TT.br (p := 10 ≤ ((n : Nat) : Int)) (fun h1 => ?_) (fun h1 => absurd (show 10 ≤ ((n : Nat) : Int) by omega) h1)
    exact TT.ret (cd := cd40) rfl rfl rfl rfl (⟨rfl, by rw [show n = 10 by omega]⟩)
  | succ d ih =>
    intro n hn x4 x5
    refine TT.steps (cd := cd40) 3 (c' := ((if decide (10 ≤ ((n : Nat) : Int)) = true then 75 else 13), [(2, 295), (0, ((a : Nat) : Int)), (0, ((v : Nat) : Int)), (0, ((n : Nat) : Int)), x4, x5], [], (cpN σ0 a v n))) rfl rfl ?_
    refine TT.br (p := 10 ≤ ((n : Nat) : Int)) (fun h2 => absurd h2 (show ¬ (10 ≤ ((n : Nat) : Int)) by omega)) (fun h2 => ?_)
    refine TT.steps (cd := cd40) 3 (c' := (16, [(2, 295), (0, ((a : Nat) : Int)), (0, ((v : Nat) : Int)), (0, ((n : Nat) : Int)), x4, x5], [(0, (aMul 10 ((a : Nat) : Int)))], (cpN σ0 a v n))) rfl rfl ?_
    refine TT.top0 (z := ((10 * a : Nat) : Int)) (aMul_n (a := 10) (b := a) (by omega)) ?_
    refine TT.steps (cd := cd40) 2 (c' := (18, [(2, 295), (0, ((a : Nat) : Int)), (0, ((v : Nat) : Int)), (0, ((n : Nat) : Int)), x4, x5], [(0, (aAdd ((10 * a : Nat) : Int) ((n : Nat) : Int)))], (cpN σ0 a v n))) rfl rfl ?_
    refine TT.top0 (z := (((10 * a) + n : Nat) : Int)) (aAdd_n (a := 10 * a) (b := n) (by omega)) ?_
    refine TT.steps (cd := cd40) 4 (c' := (22, [(2, 295), (0, ((a : Nat) : Int)), (0, ((v : Nat) : Int)), (0, ((n : Nat) : Int)), (0, (((10 * a) + n : Nat) : Int)), x5], [(0, (aMul 10 ((v : Nat) : Int)))], (cpN σ0 a v n))) rfl rfl ?_
    refine TT.top0 (z := ((10 * v : Nat) : Int)) (aMul_n (a := 10) (b := v) (by omega)) ?_
    refine TT.steps (cd := cd40) 2 (c' := (24, [(2, 295), (0, ((a : Nat) : Int)), (0, ((v : Nat) : Int)), (0, ((n : Nat) : Int)), (0, (((10 * a) + n : Nat) : Int)), x5], [(0, (aAdd ((10 * v : Nat) : Int) ((n : Nat) : Int)))], (cpN σ0 a v n))) rfl rfl ?_
    refine TT.top0 (z := (((10 * v) + n : Nat) : Int)) (aAdd_n (a := 10 * v) (b := n) (by omega)) ?_
    refine TT.steps (cd := cd40) 7 (c' := (31, [(2, 295), (0, ((a : Nat) : Int)), (0, ((v : Nat) : Int)), (0, ((n : Nat) : Int)), (0, (((10 * a) + n : Nat) : Int)), (0, (((10 * v) + n : Nat) : Int))], [(0, (((10 * v) + n : Nat) : Int)), (2, 317), (0, (((10 * a) + n : Nat) : Int)), (2, 317)], (cpN σ0 a v n))) rfl rfl ?_
    refine TT.aldN (cd := cd40) (317) ((10 * v) + n) rfl rfl rfl rfl (show (10 * v) + n < 220 by omega) ?_
    refine TT.top0 (z := (σ0 317 ((10 * v) + n))) (cpN_r σ0 a v n 317 (by omega) (by decide) (by decide)) ?_
    refine TT.astN (cd := cd40) (317) ((10 * a) + n) rfl rfl rfl rfl (show (10 * a) + n < 220 by omega) ?_
    refine TT.steps (cd := cd40) 6 (c' := (39, [(2, 295), (0, ((a : Nat) : Int)), (0, ((v : Nat) : Int)), (0, ((n : Nat) : Int)), (0, (((10 * a) + n : Nat) : Int)), (0, (((10 * v) + n : Nat) : Int))], [(0, (((10 * v) + n : Nat) : Int)), (2, 318), (0, (((10 * a) + n : Nat) : Int)), (2, 318)], (up2 (cpN σ0 a v n) 317 ((10 * a) + n) (σ0 317 ((10 * v) + n))))) rfl rfl ?_
    refine TT.aldN (cd := cd40) (318) ((10 * v) + n) rfl rfl rfl rfl (show (10 * v) + n < 220 by omega) ?_
    refine TT.top0 (z := (σ0 318 ((10 * v) + n))) ((up2_far (k := 317) (k' := 318) _ _ _ _ (by decide)).trans (cpN_r σ0 a v n 318 (by omega) (by decide) (by decide))) ?_
    refine TT.astN (cd := cd40) (318) ((10 * a) + n) rfl rfl rfl rfl (show (10 * a) + n < 220 by omega) ?_
    refine TT.steps (cd := cd40) 6 (c' := (47, [(2, 295), (0, ((a : Nat) : Int)), (0, ((v : Nat) : Int)), (0, ((n : Nat) : Int)), (0, (((10 * a) + n : Nat) : Int)), (0, (((10 * v) + n : Nat) : Int))], [(0, (((10 * v) + n : Nat) : Int)), (2, 319), (0, (((10 * a) + n : Nat) : Int)), (2, 319)], (up2 (up2 (cpN σ0 a v n) 317 ((10 * a) + n) (σ0 317 ((10 * v) + n))) 318 ((10 * a) + n) (σ0 318 ((10 * v) + n))))) rfl rfl ?_
    refine TT.aldN (cd := cd40) (319) ((10 * v) + n) rfl rfl rfl rfl (show (10 * v) + n < 220 by omega) ?_
    refine TT.top0 (z := (σ0 319 ((10 * v) + n))) (((up2_far (k := 318) (k' := 319) _ _ _ _ (by decide)).trans (up2_far (k := 317) (k' := 319) _ _ _ _ (by decide))).trans (cpN_r σ0 a v n 319 (by omega) (by decide) (by decide))) ?_
    refine TT.astN (cd := cd40) (319) ((10 * a) + n) rfl rfl rfl rfl (show (10 * a) + n < 220 by omega) ?_
    refine TT.steps (cd := cd40) 6 (c' := (55, [(2, 295), (0, ((a : Nat) : Int)), (0, ((v : Nat) : Int)), (0, ((n : Nat) : Int)), (0, (((10 * a) + n : Nat) : Int)), (0, (((10 * v) + n : Nat) : Int))], [(0, (((10 * v) + n : Nat) : Int)), (2, 320), (0, (((10 * a) + n : Nat) : Int)), (2, 320)], (up2 (up2 (up2 (cpN σ0 a v n) 317 ((10 * a) + n) (σ0 317 ((10 * v) + n))) 318 ((10 * a) + n) (σ0 318 ((10 * v) + n))) 319 ((10 * a) + n) (σ0 319 ((10 * v) + n))))) rfl rfl ?_
    refine TT.aldN (cd := cd40) (320) ((10 * v) + n) rfl rfl rfl rfl (show (10 * v) + n < 220 by omega) ?_
    refine TT.top0 (z := (σ0 320 ((10 * v) + n))) ((((up2_far (k := 319) (k' := 320) _ _ _ _ (by decide)).trans (up2_far (k := 318) (k' := 320) _ _ _ _ (by decide))).trans (up2_far (k := 317) (k' := 320) _ _ _ _ (by decide))).trans (cpN_r σ0 a v n 320 (by omega) (by decide) (by decide))) ?_
    refine TT.astN (cd := cd40) (320) ((10 * a) + n) rfl rfl rfl rfl (show (10 * a) + n < 220 by omega) ?_
    refine TT.steps (cd := cd40) 6 (c' := (63, [(2, 295), (0, ((a : Nat) : Int)), (0, ((v : Nat) : Int)), (0, ((n : Nat) : Int)), (0, (((10 * a) + n : Nat) : Int)), (0, (((10 * v) + n : Nat) : Int))], [(0, (((10 * v) + n : Nat) : Int)), (2, 321), (0, (((10 * a) + n : Nat) : Int)), (2, 321)], (up2 (up2 (up2 (up2 (cpN σ0 a v n) 317 ((10 * a) + n) (σ0 317 ((10 * v) + n))) 318 ((10 * a) + n) (σ0 318 ((10 * v) + n))) 319 ((10 * a) + n) (σ0 319 ((10 * v) + n))) 320 ((10 * a) + n) (σ0 320 ((10 * v) + n))))) rfl rfl ?_
    refine TT.aldN (cd := cd40) (321) ((10 * v) + n) rfl rfl rfl rfl (show (10 * v) + n < 220 by omega) ?_
    refine TT.top0 (z := (σ0 321 ((10 * v) + n))) (((((up2_far (k := 320) (k' := 321) _ _ _ _ (by decide)).trans (up2_far (k := 319) (k' := 321) _ _ _ _ (by decide))).trans (up2_far (k := 318) (k' := 321) _ _ _ _ (by decide))).trans (up2_far (k := 317) (k' := 321) _ _ _ _ (by decide))).trans (cpN_r σ0 a v n 321 (by omega) (by decide) (by decide))) ?_
    refine TT.astN (cd := cd40) (321) ((10 * a) + n) rfl rfl rfl rfl (show (10 * a) + n < 220 by omega) ?_
    refine TT.steps (cd := cd40) 6 (c' := (71, [(2, 295), (0, ((a : Nat) : Int)), (0, ((v : Nat) : Int)), (0, ((n : Nat) : Int)), (0, (((10 * a) + n : Nat) : Int)), (0, (((10 * v) + n : Nat) : Int))], [(0, (((10 * v) + n : Nat) : Int)), (2, 322), (0, (((10 * a) + n : Nat) : Int)), (2, 322)], (up2 (up2 (up2 (up2 (up2 (cpN σ0 a v n) 317 ((10 * a) + n) (σ0 317 ((10 * v) + n))) 318 ((10 * a) + n) (σ0 318 ((10 * v) + n))) 319 ((10 * a) + n) (σ0 319 ((10 * v) + n))) 320 ((10 * a) + n) (σ0 320 ((10 * v) + n))) 321 ((10 * a) + n) (σ0 321 ((10 * v) + n))))) rfl rfl ?_
    refine TT.aldN (cd := cd40) (322) ((10 * v) + n) rfl rfl rfl rfl (show (10 * v) + n < 220 by omega) ?_
    refine TT.top0 (z := (σ0 322 ((10 * v) + n))) ((((((up2_far (k := 321) (k' := 322) _ _ _ _ (by decide)).trans (up2_far (k := 320) (k' := 322) _ _ _ _ (by decide))).trans (up2_far (k := 319) (k' := 322) _ _ _ _ (by decide))).trans (up2_far (k := 318) (k' := 322) _ _ _ _ (by decide))).trans (up2_far (k := 317) (k' := 322) _ _ _ _ (by decide))).trans (cpN_r σ0 a v n 322 (by omega) (by decide) (by decide))) ?_
    refine TT.astN (cd := cd40) (322) ((10 * a) + n) rfl rfl rfl rfl (show (10 * a) + n < 220 by omega) ?_
    refine TT.inc (cd := cd40) ((n + 1 : Nat) : Int) rfl rfl rfl rfl (fun h => absurd h.2 (show ¬ (0 = 1) by decide)) (aAdd_n (a := n) (b := 1) (by omega)) (ls' := [(2, 295), (0, ((a : Nat) : Int)), (0, ((v : Nat) : Int)), (0, ((n + 1 : Nat) : Int)), (0, (((10 * a) + n : Nat) : Int)), (0, (((10 * v) + n : Nat) : Int))]) rfl ?_
    refine TT.steps (cd := cd40) 1 (c' := (10, [(2, 295), (0, ((a : Nat) : Int)), (0, ((v : Nat) : Int)), (0, ((n + 1 : Nat) : Int)), (0, (((10 * a) + n : Nat) : Int)), (0, (((10 * v) + n : Nat) : Int))], [], (up2 (up2 (up2 (up2 (up2 (up2 (cpN σ0 a v n) 317 ((10 * a) + n) (σ0 317 ((10 * v) + n))) 318 ((10 * a) + n) (σ0 318 ((10 * v) + n))) 319 ((10 * a) + n) (σ0 319 ((10 * v) + n))) 320 ((10 * a) + n) (σ0 320 ((10 * v) + n))) 321 ((10 * a) + n) (σ0 321 ((10 * v) + n))) 322 ((10 * a) + n) (σ0 322 ((10 * v) + n))))) rfl rfl ?_
    refine TT.sg (σ' := cpN σ0 a v (n + 1)) ?_ (ih (n + 1) (by omega) _ _)
    exact cpN_s σ0 a v n (by omega)
theorem cpN_0 (σ : AH) (a v : Nat) : up2 σ 316 a (σ 316 v) = cpN σ a v 0 := by
  funext k j
  simp only [up2, cpN]
  repeat' split
  all_goals first | rfl | (exfalso; omega) | (congr 1; omega) | (simp_all; done) | skip
theorem t_copies (X : AX) (a v : Nat) (ha : a < 22) (hv : v < 22) (σ : AH) : TT X 40 (0, [(2, 295), (0, ((a : Nat) : Int)), (0, ((v : Nat) : Int)), (9, 0), (9, 0), (9, 0)], [], σ) (fun r σ' => r = none ∧ σ' = cpN σ a v 10) := by
  refine TT.steps (cd := cd40) 6 (c' := (6, [(2, 295), (0, ((a : Nat) : Int)), (0, ((v : Nat) : Int)), (9, 0), (9, 0), (9, 0)], [(0, ((v : Nat) : Int)), (2, 316), (0, ((a : Nat) : Int)), (2, 316)], σ)) rfl rfl ?_
  refine TT.aldN (cd := cd40) (316) (v) rfl rfl rfl rfl (show v < 22 by omega) ?_
  refine TT.astN (cd := cd40) (316) (a) rfl rfl rfl rfl (show a < 22 by omega) ?_
  refine TT.steps (cd := cd40) 2 (c' := (10, [(2, 295), (0, ((a : Nat) : Int)), (0, ((v : Nat) : Int)), (0, 0), (9, 0), (9, 0)], [], (up2 σ 316 a (σ 316 v)))) rfl rfl ?_
  refine TT.sg (σ' := cpN σ a v 0) ?_ (l_copies X a v ha hv σ 10 0 rfl _ _)
  exact cpN_0 σ a v
