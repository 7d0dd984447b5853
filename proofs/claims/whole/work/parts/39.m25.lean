theorem t_isImage (X : AX) (tp np ns : Nat) (σ : AH) {b : Nat} (hb : σ 295 13 = (b : Int)) (hb2 : b < 2) (hnp : σ 307 b = (np : Int)) (hnp2 : np ≤ 10) (hns : σ 297 b = (ns : Int)) (hns2 : ns ≤ 14) : TT X 109 (0, [(2, 295), (0, ((tp : Nat) : Int)), (9, 0), (9, 0)], [], σ) (fun r σ' => r = some (0, if mImgC σ b np ns tp then 1 else 0) ∧ σ' = σ) := by
  by_cases h : tp = 3 + 6 * np
  · have h2 : tp = 2 + 6 * np + 1 := by omega
    subst h2
    exact t_isImage1 X np ns σ hb hb2 hnp hnp2 hns hns2
  · exact t_isImage0 X tp np ns σ hb hb2 hnp hnp2 hns hns2 h
/-- the people of an image -/
def mOnP (σ : AH) : Nat → AH
  | 0 => σ
  | n + 1 => up2 (up2 (up2 (up2 (up2 (up2 (mOnP σ n) 317 n (σ 296 (2 + (6 * n)))) 318 n (aSub (σ 296 (2 + (6 * n) + 1)) 1)) 319 n (aSub (σ 296 (2 + (6 * n) + 2)) 1)) 320 n (σ 296 (2 + (6 * n) + 3))) 321 n (σ 296 (2 + (6 * n) + 4))) 322 n (σ 296 (2 + (6 * n) + 5))
theorem mOnP_fr (σ : AH) (n c j : Nat) (h : c < 316 ∨ 322 < c) : mOnP σ n c j = σ c j := by
  induction n with
  | zero => rfl
  | succ n ih => rw [mOnP, up2_far _ _ _ _ (by omega), up2_far _ _ _ _ (by omega), up2_far _ _ _ _ (by omega), up2_far _ _ _ _ (by omega), up2_far _ _ _ _ (by omega), up2_far _ _ _ _ (by omega), ih]
theorem l_on (X : AX) (Q : Option AV → AH → Prop) (x1 : Nat) (np : Nat) (σ : AH) {b : Nat} (hb : σ 295 13 = (b : Int)) (hb2 : b < 2) (hnp : σ 307 b = (np : Int)) (hnp2 : np ≤ 10) (kk : ∀ x y : AV, TT X 110 (112, [(2, 295), (0, ((x1 : Nat) : Int)), x, y], [], mOnP σ np) Q) : ∀ (d n : Nat), n + d = np → ∀ y : AV, TT X 110 (35, [(2, 295), (0, ((x1 : Nat) : Int)), (0, ((n : Nat) : Int)), y], [], (mOnP σ n)) Q := by
  intro d
  induction d with
  | zero =>
    intro n hn y
    have hnn : n = np := by omega
    refine TT.steps (cd := cd110) 5 (c' := (40, [(2, 295), (0, ((x1 : Nat) : Int)), (0, ((n : Nat) : Int)), y], [(0, ((mOnP σ n) 295 13)), (2, 307), (0, ((n : Nat) : Int))], (mOnP σ n))) rfl rfl ?_
    refine TT.top0 (z := ((b : Nat) : Int)) ((mOnP_fr _ _ 295 (13) (by decide)).trans hb) ?_
    refine TT.aldN (cd := cd110) (307) (b) rfl rfl rfl rfl (show b < 2 by omega) ?_
    refine TT.top0 (z := ((np : Nat) : Int)) ((mOnP_fr _ _ 307 (b) (by decide)).trans hnp) ?_
    refine TT.steps (cd := cd110) 1 (c' := ((if decide (((np : Nat) : Int) ≤ ((n : Nat) : Int)) = true then 112 else 42), [(2, 295), (0, ((x1 : Nat) : Int)), (0, ((n : Nat) : Int)), y], [], (mOnP σ n))) rfl rfl ?_
    refine TT.br (p := ((np : Nat) : Int) ≤ ((n : Nat) : Int)) (fun h1 => ?_) (fun h1 => absurd (show ((np : Nat) : Int) ≤ ((n : Nat) : Int) by omega) h1)
    subst hnn
    exact kk _ _
  | succ d ih =>
    intro n hn y
    refine TT.steps (cd := cd110) 5 (c' := (40, [(2, 295), (0, ((x1 : Nat) : Int)), (0, ((n : Nat) : Int)), y], [(0, ((mOnP σ n) 295 13)), (2, 307), (0, ((n : Nat) : Int))], (mOnP σ n))) rfl rfl ?_
    refine TT.top0 (z := ((b : Nat) : Int)) ((mOnP_fr _ _ 295 (13) (by decide)).trans hb) ?_
    refine TT.aldN (cd := cd110) (307) (b) rfl rfl rfl rfl (show b < 2 by omega) ?_
    refine TT.top0 (z := ((np : Nat) : Int)) ((mOnP_fr _ _ 307 (b) (by decide)).trans hnp) ?_
    refine TT.steps (cd := cd110) 1 (c' := ((if decide (((np : Nat) : Int) ≤ ((n : Nat) : Int)) = true then 112 else 42), [(2, 295), (0, ((x1 : Nat) : Int)), (0, ((n : Nat) : Int)), y], [], (mOnP σ n))) rfl rfl ?_
    refine TT.br (p := ((np : Nat) : Int) ≤ ((n : Nat) : Int)) (fun h1 => absurd h1 (show ¬ (((np : Nat) : Int) ≤ ((n : Nat) : Int)) by omega)) (fun h1 => ?_)
    refine TT.steps (cd := cd110) 4 (c' := (46, [(2, 295), (0, ((x1 : Nat) : Int)), (0, ((n : Nat) : Int)), y], [(0, (aMul 6 ((n : Nat) : Int))), (0, 2)], (mOnP σ n))) rfl rfl ?_
    refine TT.top0 (z := ((6 * n : Nat) : Int)) (aMul_n (a := 6) (b := n) (by omega)) ?_
    refine TT.steps (cd := cd110) 1 (c' := (47, [(2, 295), (0, ((x1 : Nat) : Int)), (0, ((n : Nat) : Int)), y], [(0, (aAdd 2 ((6 * n : Nat) : Int)))], (mOnP σ n))) rfl rfl ?_
    refine TT.top0 (z := ((2 + (6 * n) : Nat) : Int)) (aAdd_n (a := 2) (b := 6 * n) (by omega)) ?_
    refine TT.steps (cd := cd110) 7 (c' := (54, [(2, 295), (0, ((x1 : Nat) : Int)), (0, ((n : Nat) : Int)), (0, ((2 + (6 * n) : Nat) : Int))], [(0, ((2 + (6 * n) : Nat) : Int)), (2, 296), (0, ((n : Nat) : Int)), (2, 317)], (mOnP σ n))) rfl rfl ?_
    refine TT.aldN (cd := cd110) (296) (2 + (6 * n)) rfl rfl rfl rfl (show 2 + (6 * n) < 1800 by omega) ?_
    refine TT.top0 (z := (σ 296 (2 + (6 * n)))) (mOnP_fr _ _ 296 (2 + (6 * n)) (by decide)) ?_
    refine TT.astN (cd := cd110) (317) (n) rfl rfl rfl rfl (show n < 220 by omega) ?_
    refine TT.steps (cd := cd110) 8 (c' := (64, [(2, 295), (0, ((x1 : Nat) : Int)), (0, ((n : Nat) : Int)), (0, ((2 + (6 * n) : Nat) : Int))], [(0, (aAdd ((2 + (6 * n) : Nat) : Int) 1)), (2, 296), (0, ((n : Nat) : Int)), (2, 318)], (up2 (mOnP σ n) 317 n (σ 296 (2 + (6 * n)))))) rfl rfl ?_
    refine TT.top0 (z := (((2 + (6 * n)) + 1 : Nat) : Int)) (aAdd_n (a := 2 + (6 * n)) (b := 1) (by omega)) ?_
    refine TT.aldN (cd := cd110) (296) ((2 + (6 * n)) + 1) rfl rfl rfl rfl (show (2 + (6 * n)) + 1 < 1800 by omega) ?_
    refine TT.top0 (z := (σ 296 ((2 + (6 * n)) + 1))) ((up2_far (k := 317) (k' := 296) _ _ _ _ (by decide)).trans (mOnP_fr _ _ 296 ((2 + (6 * n)) + 1) (by decide))) ?_
    refine TT.steps (cd := cd110) 2 (c' := (67, [(2, 295), (0, ((x1 : Nat) : Int)), (0, ((n : Nat) : Int)), (0, ((2 + (6 * n) : Nat) : Int))], [(0, (aSub (σ 296 ((2 + (6 * n)) + 1)) 1)), (0, ((n : Nat) : Int)), (2, 318)], (up2 (mOnP σ n) 317 n (σ 296 (2 + (6 * n)))))) rfl rfl ?_
    refine TT.astN (cd := cd110) (318) (n) rfl rfl rfl rfl (show n < 220 by omega) ?_
    refine TT.steps (cd := cd110) 8 (c' := (76, [(2, 295), (0, ((x1 : Nat) : Int)), (0, ((n : Nat) : Int)), (0, ((2 + (6 * n) : Nat) : Int))], [(0, (aAdd ((2 + (6 * n) : Nat) : Int) 2)), (2, 296), (0, ((n : Nat) : Int)), (2, 319)], (up2 (up2 (mOnP σ n) 317 n (σ 296 (2 + (6 * n)))) 318 n (aSub (σ 296 ((2 + (6 * n)) + 1)) 1)))) rfl rfl ?_
    refine TT.top0 (z := (((2 + (6 * n)) + 2 : Nat) : Int)) (aAdd_n (a := 2 + (6 * n)) (b := 2) (by omega)) ?_
    refine TT.aldN (cd := cd110) (296) ((2 + (6 * n)) + 2) rfl rfl rfl rfl (show (2 + (6 * n)) + 2 < 1800 by omega) ?_
    refine TT.top0 (z := (σ 296 ((2 + (6 * n)) + 2))) (((up2_far (k := 318) (k' := 296) _ _ _ _ (by decide)).trans (up2_far (k := 317) (k' := 296) _ _ _ _ (by decide))).trans (mOnP_fr _ _ 296 ((2 + (6 * n)) + 2) (by decide))) ?_
    refine TT.steps (cd := cd110) 2 (c' := (79, [(2, 295), (0, ((x1 : Nat) : Int)), (0, ((n : Nat) : Int)), (0, ((2 + (6 * n) : Nat) : Int))], [(0, (aSub (σ 296 ((2 + (6 * n)) + 2)) 1)), (0, ((n : Nat) : Int)), (2, 319)], (up2 (up2 (mOnP σ n) 317 n (σ 296 (2 + (6 * n)))) 318 n (aSub (σ 296 ((2 + (6 * n)) + 1)) 1)))) rfl rfl ?_
    refine TT.astN (cd := cd110) (319) (n) rfl rfl rfl rfl (show n < 220 by omega) ?_
    refine TT.steps (cd := cd110) 8 (c' := (88, [(2, 295), (0, ((x1 : Nat) : Int)), (0, ((n : Nat) : Int)), (0, ((2 + (6 * n) : Nat) : Int))], [(0, (aAdd ((2 + (6 * n) : Nat) : Int) 3)), (2, 296), (0, ((n : Nat) : Int)), (2, 320)], (up2 (up2 (up2 (mOnP σ n) 317 n (σ 296 (2 + (6 * n)))) 318 n (aSub (σ 296 ((2 + (6 * n)) + 1)) 1)) 319 n (aSub (σ 296 ((2 + (6 * n)) + 2)) 1)))) rfl rfl ?_
    refine TT.top0 (z := (((2 + (6 * n)) + 3 : Nat) : Int)) (aAdd_n (a := 2 + (6 * n)) (b := 3) (by omega)) ?_
    refine TT.aldN (cd := cd110) (296) ((2 + (6 * n)) + 3) rfl rfl rfl rfl (show (2 + (6 * n)) + 3 < 1800 by omega) ?_
    refine TT.top0 (z := (σ 296 ((2 + (6 * n)) + 3))) ((((up2_far (k := 319) (k' := 296) _ _ _ _ (by decide)).trans (up2_far (k := 318) (k' := 296) _ _ _ _ (by decide))).trans (up2_far (k := 317) (k' := 296) _ _ _ _ (by decide))).trans (mOnP_fr _ _ 296 ((2 + (6 * n)) + 3) (by decide))) ?_
    refine TT.astN (cd := cd110) (320) (n) rfl rfl rfl rfl (show n < 220 by omega) ?_
    refine TT.steps (cd := cd110) 8 (c' := (98, [(2, 295), (0, ((x1 : Nat) : Int)), (0, ((n : Nat) : Int)), (0, ((2 + (6 * n) : Nat) : Int))], [(0, (aAdd ((2 + (6 * n) : Nat) : Int) 4)), (2, 296), (0, ((n : Nat) : Int)), (2, 321)], (up2 (up2 (up2 (up2 (mOnP σ n) 317 n (σ 296 (2 + (6 * n)))) 318 n (aSub (σ 296 ((2 + (6 * n)) + 1)) 1)) 319 n (aSub (σ 296 ((2 + (6 * n)) + 2)) 1)) 320 n (σ 296 ((2 + (6 * n)) + 3))))) rfl rfl ?_
    refine TT.top0 (z := (((2 + (6 * n)) + 4 : Nat) : Int)) (aAdd_n (a := 2 + (6 * n)) (b := 4) (by omega)) ?_
    refine TT.aldN (cd := cd110) (296) ((2 + (6 * n)) + 4) rfl rfl rfl rfl (show (2 + (6 * n)) + 4 < 1800 by omega) ?_
    refine TT.top0 (z := (σ 296 ((2 + (6 * n)) + 4))) (((((up2_far (k := 320) (k' := 296) _ _ _ _ (by decide)).trans (up2_far (k := 319) (k' := 296) _ _ _ _ (by decide))).trans (up2_far (k := 318) (k' := 296) _ _ _ _ (by decide))).trans (up2_far (k := 317) (k' := 296) _ _ _ _ (by decide))).trans (mOnP_fr _ _ 296 ((2 + (6 * n)) + 4) (by decide))) ?_
    refine TT.astN (cd := cd110) (321) (n) rfl rfl rfl rfl (show n < 220 by omega) ?_
    refine TT.steps (cd := cd110) 8 (c' := (108, [(2, 295), (0, ((x1 : Nat) : Int)), (0, ((n : Nat) : Int)), (0, ((2 + (6 * n) : Nat) : Int))], [(0, (aAdd ((2 + (6 * n) : Nat) : Int) 5)), (2, 296), (0, ((n : Nat) : Int)), (2, 322)], (up2 (up2 (up2 (up2 (up2 (mOnP σ n) 317 n (σ 296 (2 + (6 * n)))) 318 n (aSub (σ 296 ((2 + (6 * n)) + 1)) 1)) 319 n (aSub (σ 296 ((2 + (6 * n)) + 2)) 1)) 320 n (σ 296 ((2 + (6 * n)) + 3))) 321 n (σ 296 ((2 + (6 * n)) + 4))))) rfl rfl ?_
    refine TT.top0 (z := (((2 + (6 * n)) + 5 : Nat) : Int)) (aAdd_n (a := 2 + (6 * n)) (b := 5) (by omega)) ?_
    refine TT.aldN (cd := cd110) (296) ((2 + (6 * n)) + 5) rfl rfl rfl rfl (show (2 + (6 * n)) + 5 < 1800 by omega) ?_
    refine TT.top0 (z := (σ 296 ((2 + (6 * n)) + 5))) ((((((up2_far (k := 321) (k' := 296) _ _ _ _ (by decide)).trans (up2_far (k := 320) (k' := 296) _ _ _ _ (by decide))).trans (up2_far (k := 319) (k' := 296) _ _ _ _ (by decide))).trans (up2_far (k := 318) (k' := 296) _ _ _ _ (by decide))).trans (up2_far (k := 317) (k' := 296) _ _ _ _ (by decide))).trans (mOnP_fr _ _ 296 ((2 + (6 * n)) + 5) (by decide))) ?_
    refine TT.astN (cd := cd110) (322) (n) rfl rfl rfl rfl (show n < 220 by omega) ?_
    refine TT.inc (cd := cd110) ((n + 1 : Nat) : Int) rfl rfl rfl rfl (fun h => absurd h.2 (show ¬ (0 = 1) by decide)) (aAdd_n (a := n) (b := 1) (by omega)) (ls' := [(2, 295), (0, ((x1 : Nat) : Int)), (0, ((n + 1 : Nat) : Int)), (0, ((2 + (6 * n) : Nat) : Int))]) rfl ?_
    refine TT.steps (cd := cd110) 1 (c' := (35, [(2, 295), (0, ((x1 : Nat) : Int)), (0, ((n + 1 : Nat) : Int)), (0, ((2 + (6 * n) : Nat) : Int))], [], (up2 (up2 (up2 (up2 (up2 (up2 (mOnP σ n) 317 n (σ 296 (2 + (6 * n)))) 318 n (aSub (σ 296 ((2 + (6 * n)) + 1)) 1)) 319 n (aSub (σ 296 ((2 + (6 * n)) + 2)) 1)) 320 n (σ 296 ((2 + (6 * n)) + 3))) 321 n (σ 296 ((2 + (6 * n)) + 4))) 322 n (σ 296 ((2 + (6 * n)) + 5))))) rfl rfl ?_
    exact ih (n + 1) (by omega) _
theorem t_on0 (X : AX) (tp np ns : Nat) (σ : AH) {b : Nat} (hb : σ 295 13 = (b : Int)) (hb2 : b < 2) (hnp : σ 307 b = (np : Int)) (hnp2 : np ≤ 10) (hns : σ 297 b = (ns : Int)) (hns2 : ns ≤ 14) (htp : σ 295 1 = (tp : Int)) (hi : ¬ mImgC (up2 σ 295 1 0) b np ns tp)  : TT X 110 (0, [(2, 295), (9, 0), (9, 0), (9, 0)], [], σ) (fun r σ' => r = some (0, 0) ∧ σ' = up2 (up2 σ 295 1 0) 315 5 (aAdd (σ 315 5) 1)) := by
  refine TT.steps (cd := cd110) 2 (c' := (2, [(2, 295), (9, 0), (9, 0), (9, 0)], [(0, (σ 295 1))], σ)) rfl rfl ?_
  refine TT.top0 (z := ((tp : Nat) : Int)) htp ?_
  refine TT.steps (cd := cd110) 6 (c' := (8, [(2, 295), (0, ((tp : Nat) : Int)), (9, 0), (9, 0)], [(0, ((tp : Nat) : Int)), (2, 295)], (up2 σ 295 1 0))) rfl rfl ?_
  refine TT.call (cd := cd110) rfl rfl rfl (by decide) rfl (t_isImage X tp np ns (up2 σ 295 1 0) ((up2_by _ _ (j := 1) (j' := 13) _ (by decide)).trans hb) hb2 ((up2_far (k := 295) (k' := 307) _ _ _ _ (by decide)).trans hnp) hnp2 ((up2_far (k := 295) (k' := 297) _ _ _ _ (by decide)).trans hns) hns2) (fun r1 σ1 hq => ?_)
  rw [hq.1, hq.2]
  refine TT.steps (cd := cd110) 1 (c' := ((if decide (¬ ((if mImgC (up2 σ 295 1 0) b np ns tp then 1 else 0) : Int) = 0) = true then 18 else 10), [(2, 295), (0, ((tp : Nat) : Int)), (9, 0), (9, 0)], [], (up2 σ 295 1 0))) rfl rfl ?_
  refine TT.br (p := ¬ ((if mImgC (up2 σ 295 1 0) b np ns tp then 1 else 0) : Int) = 0) (fun h2 => ?_) (fun h2 => ?_)
  · replace h2 := ite_t h2
    exact absurd (by assumption) hi
  · replace h2 := ite_f (Decidable.not_not.mp h2)
    refine TT.steps (cd := cd110) 2 (c' := (12, [(2, 295), (0, ((tp : Nat) : Int)), (9, 0), (9, 0)], [(0, 5), (2, 295)], (up2 σ 295 1 0))) rfl rfl ?_
    refine TT.call (cd := cd110) rfl rfl rfl (by decide) rfl (t_refuses X 5 (by omega) (up2 σ 295 1 0)) (fun r3 σ3 hq => ?_)
    rw [hq.1, hq.2]
    refine TT.steps (cd := cd110) 2 (c' := (17, [(2, 295), (0, ((tp : Nat) : Int)), (9, 0), (9, 0)], [(0, 0)], (up2 (up2 σ 295 1 0) 315 5 (aAdd (σ 315 5) 1)))) rfl rfl ?_
    exact TT.ret (cd := cd110) rfl rfl rfl rfl (⟨rfl, rfl⟩)
theorem t_on1 (X : AX) (tp np ns : Nat) (σ : AH) {b : Nat} (hb : σ 295 13 = (b : Int)) (hb2 : b < 2) (hnp : σ 307 b = (np : Int)) (hnp2 : np ≤ 10) (hns : σ 297 b = (ns : Int)) (hns2 : ns ≤ 14) (htp : σ 295 1 = (tp : Int)) (hi : mImgC (up2 σ 295 1 0) b np ns tp)  : TT X 110 (0, [(2, 295), (9, 0), (9, 0), (9, 0)], [], σ) (fun r σ' => r = some (0, 1) ∧ σ' = up2 (mOnP (up2 (up2 σ 295 1 0) 316 0 (aOr (aShl (σ 296 0) 8) (σ 296 1))) np) 295 42 0) := by
  refine TT.steps (cd := cd110) 2 (c' := (2, [(2, 295), (9, 0), (9, 0), (9, 0)], [(0, (σ 295 1))], σ)) rfl rfl ?_
  refine TT.top0 (z := ((tp : Nat) : Int)) htp ?_
  refine TT.steps (cd := cd110) 6 (c' := (8, [(2, 295), (0, ((tp : Nat) : Int)), (9, 0), (9, 0)], [(0, ((tp : Nat) : Int)), (2, 295)], (up2 σ 295 1 0))) rfl rfl ?_
  refine TT.call (cd := cd110) rfl rfl rfl (by decide) rfl (t_isImage X tp np ns (up2 σ 295 1 0) ((up2_by _ _ (j := 1) (j' := 13) _ (by decide)).trans hb) hb2 ((up2_far (k := 295) (k' := 307) _ _ _ _ (by decide)).trans hnp) hnp2 ((up2_far (k := 295) (k' := 297) _ _ _ _ (by decide)).trans hns) hns2) (fun r1 σ1 hq => ?_)
  rw [hq.1, hq.2]
  refine TT.steps (cd := cd110) 1 (c' := ((if decide (¬ ((if mImgC (up2 σ 295 1 0) b np ns tp then 1 else 0) : Int) = 0) = true then 18 else 10), [(2, 295), (0, ((tp : Nat) : Int)), (9, 0), (9, 0)], [], (up2 σ 295 1 0))) rfl rfl ?_
  refine TT.br (p := ¬ ((if mImgC (up2 σ 295 1 0) b np ns tp then 1 else 0) : Int) = 0) (fun h2 => ?_) (fun h2 => absurd (show ¬ ((if mImgC (up2 σ 295 1 0) b np ns tp then 1 else 0) : Int) = 0 by (rw [if_pos hi]; decide)) h2)
  refine TT.steps (cd := cd110) 6 (c' := (24, [(2, 295), (0, ((tp : Nat) : Int)), (9, 0), (9, 0)], [(0, 0), (2, 296), (0, 0), (2, 316)], (up2 σ 295 1 0))) rfl rfl ?_
  refine TT.aldN (cd := cd110) (296) (0) rfl rfl rfl rfl (show 0 < 1800 by omega) ?_
  refine TT.top0 (z := (σ 296 0)) (up2_far (k := 295) (k' := 296) _ _ _ _ (by decide)) ?_
  refine TT.steps (cd := cd110) 5 (c' := (30, [(2, 295), (0, ((tp : Nat) : Int)), (9, 0), (9, 0)], [(0, 1), (2, 296), (0, (aShl (σ 296 0) 8)), (0, 0), (2, 316)], (up2 σ 295 1 0))) rfl rfl ?_
  refine TT.aldN (cd := cd110) (296) (1) rfl rfl rfl rfl (show 1 < 1800 by omega) ?_
  refine TT.top0 (z := (σ 296 1)) (up2_far (k := 295) (k' := 296) _ _ _ _ (by decide)) ?_
  refine TT.steps (cd := cd110) 1 (c' := (32, [(2, 295), (0, ((tp : Nat) : Int)), (9, 0), (9, 0)], [(0, (aOr (aShl (σ 296 0) 8) (σ 296 1))), (0, 0), (2, 316)], (up2 σ 295 1 0))) rfl rfl ?_
  refine TT.astN (cd := cd110) (316) (0) rfl rfl rfl rfl (show 0 < 22 by omega) ?_
  refine TT.steps (cd := cd110) 2 (c' := (35, [(2, 295), (0, ((tp : Nat) : Int)), (0, 0), (9, 0)], [], (up2 (up2 σ 295 1 0) 316 0 (aOr (aShl (σ 296 0) 8) (σ 296 1))))) rfl rfl ?_
  refine l_on X _ _ np (up2 (up2 σ 295 1 0) 316 0 (aOr (aShl (σ 296 0) 8) (σ 296 1))) (((up2_far (k := 316) (k' := 295) _ _ _ _ (by decide)).trans (up2_by _ _ (j := 1) (j' := 13) _ (by decide))).trans hb) hb2 (((up2_far (k := 316) (k' := 307) _ _ _ _ (by decide)).trans (up2_far (k := 295) (k' := 307) _ _ _ _ (by decide))).trans hnp) hnp2 (fun x y => ?_) np 0 (by omega) _
  refine TT.steps (cd := cd110) 4 (c' := (116, [(2, 295), (0, ((tp : Nat) : Int)), x, y], [(0, 1)], (up2 (mOnP (up2 (up2 σ 295 1 0) 316 0 (aOr (aShl (σ 296 0) 8) (σ 296 1))) np) 295 42 0))) rfl rfl ?_
  exact TT.ret (cd := cd110) rfl rfl rfl rfl (⟨rfl, rfl⟩)
theorem t_train0 (X : AX) (t w : Int) (np nt : Nat) (L : Nat → Nat) (σ : AH) {b : Nat} (hb : σ 295 13 = (b : Int)) (hb2 : b < 2) (hnp : σ 307 b = (np : Int)) (hnp2 : np ≤ 10) (hnt : σ 300 b = (nt : Int)) (hnt2 : nt ≤ 6) (hL : ∀ t, t < nt → σ 304 (6 * b + t) = (L t : Int) ∧ 2 ≤ L t ∧ L t ≤ 8) (ht : ¬ (0 ≤ t ∧ t < (nt : Int)))  : TT X 67 (0, [(2, 295), (0, t), (0, w)], [], σ) (fun r σ' => r = some (0, -1) ∧ σ' = σ) := by
  refine TT.steps (cd := cd67) 2 (c' := (2, [(2, 295), (0, t), (0, w)], [(0, t), (2, 295)], σ)) rfl rfl ?_
  refine TT.call (cd := cd67) rfl rfl rfl (by decide) rfl (t_isTrain X t σ hb hb2) (fun r1 σ1 hq => ?_)
  rw [hq.1, hq.2, hnt]
  refine TT.steps (cd := cd67) 1 (c' := ((if decide (¬ ((if 0 ≤ t ∧ t < (nt : Int) then 1 else 0) : Int) = 0) = true then 6 else 4), [(2, 295), (0, t), (0, w)], [], σ)) rfl rfl ?_
  refine TT.br (p := ¬ ((if 0 ≤ t ∧ t < (nt : Int) then 1 else 0) : Int) = 0) (fun h2 => ?_) (fun h2 => ?_)
  · replace h2 := ite_t h2
    exact absurd (by assumption) ht
  · replace h2 := ite_f (Decidable.not_not.mp h2)
    refine TT.steps (cd := cd67) 1 (c' := (5, [(2, 295), (0, t), (0, w)], [(0, -1)], σ)) rfl rfl ?_
    exact TT.ret (cd := cd67) rfl rfl rfl rfl (⟨rfl, rfl⟩)
theorem t_trainN (X : AX) (t : Nat) (w : Int) (hw : w < 0) (np nt : Nat) (L : Nat → Nat) (σ : AH) {b : Nat} (hb : σ 295 13 = (b : Int)) (hb2 : b < 2) (hnp : σ 307 b = (np : Int)) (hnp2 : np ≤ 10) (hnt : σ 300 b = (nt : Int)) (hnt2 : nt ≤ 6) (hL : ∀ t, t < nt → σ 304 (6 * b + t) = (L t : Int) ∧ 2 ≤ L t ∧ L t ≤ 8) (ht : t < nt)  : TT X 67 (0, [(2, 295), (0, ((t : Nat) : Int)), (0, w)], [], σ) (fun r σ' => r = some (0, -1) ∧ σ' = σ) := by
  refine TT.steps (cd := cd67) 2 (c' := (2, [(2, 295), (0, ((t : Nat) : Int)), (0, w)], [(0, ((t : Nat) : Int)), (2, 295)], σ)) rfl rfl ?_
  refine TT.call (cd := cd67) rfl rfl rfl (by decide) rfl (t_isTrain X ((t : Nat) : Int) σ hb hb2) (fun r1 σ1 hq => ?_)
  rw [hq.1, hq.2, hnt]
  refine TT.steps (cd := cd67) 1 (c' := ((if decide (¬ ((if 0 ≤ ((t : Nat) : Int) ∧ ((t : Nat) : Int) < (nt : Int) then 1 else 0) : Int) = 0) = true then 6 else 4), [(2, 295), (0, ((t : Nat) : Int)), (0, w)], [], σ)) rfl rfl ?_
  refine TT.br (p := ¬ ((if 0 ≤ ((t : Nat) : Int) ∧ ((t : Nat) : Int) < (nt : Int) then 1 else 0) : Int) = 0) (fun h2 => ?_) (fun h2 => absurd (show ¬ ((if 0 ≤ ((t : Nat) : Int) ∧ ((t : Nat) : Int) < (nt : Int) then 1 else 0) : Int) = 0 by (rw [if_pos (by first | assumption | omega)]; decide)) h2)
  refine TT.steps (cd := cd67) 5 (c' := (11, [(2, 295), (0, ((t : Nat) : Int)), (0, w)], [(0, ((t : Nat) : Int)), (2, 295), (0, 9), (0, 10), (0, w)], σ)) rfl rfl ?_
  refine TT.call (cd := cd67) rfl rfl rfl (by decide) rfl (t_callsOf X t (by omega) σ hb hb2) (fun r3 σ3 hq => ?_)
  rw [hq.1, hq.2]
  refine TT.top0 (z := (((L t) : Nat) : Int)) (hL t ht).1 ?_
  refine TT.steps (cd := cd67) 1 (c' := (13, [(2, 295), (0, ((t : Nat) : Int)), (0, w)], [(0, (aAdd 9 (((L t) : Nat) : Int))), (0, 10), (0, w)], σ)) rfl rfl ?_
  refine TT.top0 (z := ((9 + ((L t)) : Nat) : Int)) (aAdd_n (a := 9) (b := (L t)) (by (have := hL t ht; omega))) ?_
  refine TT.call (cd := cd67) rfl rfl rfl (by decide) rfl (t_is X w 10 ((9 + ((L t)) : Nat) : Int) σ) (fun r4 σ4 hq => ?_)
  rw [hq.1, hq.2]
  refine TT.steps (cd := cd67) 1 (c' := ((if decide (((if 10 ≤ w ∧ w ≤ ((9 + ((L t)) : Nat) : Int) then 1 else 0) : Int) = 0) = true then 22 else 15), [(2, 295), (0, ((t : Nat) : Int)), (0, w)], [], σ)) rfl rfl ?_
  refine TT.br (p := ((if 10 ≤ w ∧ w ≤ ((9 + ((L t)) : Nat) : Int) then 1 else 0) : Int) = 0) (fun h5 => ?_) (fun h5 => ?_)
  · replace h5 := ite_f h5
    refine TT.steps (cd := cd67) 5 (c' := (27, [(2, 295), (0, ((t : Nat) : Int)), (0, w)], [(0, ((t : Nat) : Int)), (2, 295), (0, 19), (0, 21), (0, w)], σ)) rfl rfl ?_
    refine TT.call (cd := cd67) rfl rfl rfl (by decide) rfl (t_callsOf X t (by omega) σ hb hb2) (fun r6 σ6 hq => ?_)
    rw [hq.1, hq.2]
    refine TT.top0 (z := (((L t) : Nat) : Int)) (hL t ht).1 ?_
    refine TT.steps (cd := cd67) 1 (c' := (29, [(2, 295), (0, ((t : Nat) : Int)), (0, w)], [(0, (aAdd 19 (((L t) : Nat) : Int))), (0, 21), (0, w)], σ)) rfl rfl ?_
    refine TT.top0 (z := ((19 + ((L t)) : Nat) : Int)) (aAdd_n (a := 19) (b := (L t)) (by (have := hL t ht; omega))) ?_
    refine TT.call (cd := cd67) rfl rfl rfl (by decide) rfl (t_is X w 21 ((19 + ((L t)) : Nat) : Int) σ) (fun r7 σ7 hq => ?_)
    rw [hq.1, hq.2]
    refine TT.steps (cd := cd67) 1 (c' := ((if decide (((if 21 ≤ w ∧ w ≤ ((19 + ((L t)) : Nat) : Int) then 1 else 0) : Int) = 0) = true then 38 else 31), [(2, 295), (0, ((t : Nat) : Int)), (0, w)], [], σ)) rfl rfl ?_
    refine TT.br (p := ((if 21 ≤ w ∧ w ≤ ((19 + ((L t)) : Nat) : Int) then 1 else 0) : Int) = 0) (fun h8 => ?_) (fun h8 => ?_)
    · replace h8 := ite_f h8
      refine TT.steps (cd := cd67) 2 (c' := ((if decide (¬ w = 0) = true then 50 else 40), [(2, 295), (0, ((t : Nat) : Int)), (0, w)], [], σ)) rfl rfl ?_
      refine TT.br (p := ¬ w = 0) (fun h9 => ?_) (fun h9 => ?_)
      · refine TT.steps (cd := cd67) 3 (c' := ((if decide (¬ w = 1) = true then 63 else 53), [(2, 295), (0, ((t : Nat) : Int)), (0, w)], [], σ)) rfl rfl ?_
        refine TT.br (p := ¬ w = 1) (fun h10 => ?_) (fun h10 => ?_)
        · refine TT.steps (cd := cd67) 3 (c' := ((if decide (¬ w = 2) = true then 70 else 66), [(2, 295), (0, ((t : Nat) : Int)), (0, w)], [], σ)) rfl rfl ?_
          refine TT.br (p := ¬ w = 2) (fun h11 => ?_) (fun h11 => ?_)
          · refine TT.steps (cd := cd67) 1 (c' := (71, [(2, 295), (0, ((t : Nat) : Int)), (0, w)], [(0, -1)], σ)) rfl rfl ?_
            exact TT.ret (cd := cd67) rfl rfl rfl rfl (⟨rfl, rfl⟩)
          · exfalso
            have := hL t ht
            omega
        · exfalso
          have := hL t ht
          omega
      · exfalso
        have := hL t ht
        omega
    · replace h8 := ite_t h8
      exfalso
      have := hL t ht
      omega
  · replace h5 := ite_t h5
    exfalso
    have := hL t ht
    omega
theorem t_train1 (X : AX) (t w : Nat) (hw : w < 100) (np nt : Nat) (L : Nat → Nat) (σ : AH) {b : Nat} (hb : σ 295 13 = (b : Int)) (hb2 : b < 2) (hnp : σ 307 b = (np : Int)) (hnp2 : np ≤ 10) (hnt : σ 300 b = (nt : Int)) (hnt2 : nt ≤ 6) (hL : ∀ t, t < nt → σ 304 (6 * b + t) = (L t : Int) ∧ 2 ≤ L t ∧ L t ≤ 8) (ht : t < nt)  : TT X 67 (0, [(2, 295), (0, ((t : Nat) : Int)), (0, ((w : Nat) : Int))], [], σ) (fun r σ' => r = some (0, if 10 ≤ w ∧ w ≤ 9 + L t then σ 305 (8 * (6 * b + t) + (w - 10)) else if 21 ≤ w ∧ w ≤ 19 + L t then σ 306 (8 * (6 * b + t) + (w - 20)) else if w = 0 then σ 302 (6 * b + t) else if w = 1 then σ 303 (6 * b + t) else if w = 2 then ((L t : Nat) : Int) else -1) ∧ σ' = σ) := by
  refine TT.steps (cd := cd67) 2 (c' := (2, [(2, 295), (0, ((t : Nat) : Int)), (0, ((w : Nat) : Int))], [(0, ((t : Nat) : Int)), (2, 295)], σ)) rfl rfl ?_
  refine TT.call (cd := cd67) rfl rfl rfl (by decide) rfl (t_isTrain X ((t : Nat) : Int) σ hb hb2) (fun r1 σ1 hq => ?_)
  rw [hq.1, hq.2, hnt]
  refine TT.steps (cd := cd67) 1 (c' := ((if decide (¬ ((if 0 ≤ ((t : Nat) : Int) ∧ ((t : Nat) : Int) < (nt : Int) then 1 else 0) : Int) = 0) = true then 6 else 4), [(2, 295), (0, ((t : Nat) : Int)), (0, ((w : Nat) : Int))], [], σ)) rfl rfl ?_
  refine TT.br (p := ¬ ((if 0 ≤ ((t : Nat) : Int) ∧ ((t : Nat) : Int) < (nt : Int) then 1 else 0) : Int) = 0) (fun h2 => ?_) (fun h2 => absurd (show ¬ ((if 0 ≤ ((t : Nat) : Int) ∧ ((t : Nat) : Int) < (nt : Int) then 1 else 0) : Int) = 0 by (rw [if_pos (by first | assumption | omega)]; decide)) h2)
  refine TT.steps (cd := cd67) 5 (c' := (11, [(2, 295), (0, ((t : Nat) : Int)), (0, ((w : Nat) : Int))], [(0, ((t : Nat) : Int)), (2, 295), (0, 9), (0, 10), (0, ((w : Nat) : Int))], σ)) rfl rfl ?_
  refine TT.call (cd := cd67) rfl rfl rfl (by decide) rfl (t_callsOf X t (by omega) σ hb hb2) (fun r3 σ3 hq => ?_)
  rw [hq.1, hq.2]
  refine TT.top0 (z := (((L t) : Nat) : Int)) (hL t ht).1 ?_
  refine TT.steps (cd := cd67) 1 (c' := (13, [(2, 295), (0, ((t : Nat) : Int)), (0, ((w : Nat) : Int))], [(0, (aAdd 9 (((L t) : Nat) : Int))), (0, 10), (0, ((w : Nat) : Int))], σ)) rfl rfl ?_
  refine TT.top0 (z := ((9 + ((L t)) : Nat) : Int)) (aAdd_n (a := 9) (b := (L t)) (by (have := hL t ht; omega))) ?_
  refine TT.call (cd := cd67) rfl rfl rfl (by decide) rfl (t_is X ((w : Nat) : Int) 10 ((9 + ((L t)) : Nat) : Int) σ) (fun r4 σ4 hq => ?_)
  rw [hq.1, hq.2]
  refine TT.steps (cd := cd67) 1 (c' := ((if decide (((if 10 ≤ ((w : Nat) : Int) ∧ ((w : Nat) : Int) ≤ ((9 + ((L t)) : Nat) : Int) then 1 else 0) : Int) = 0) = true then 22 else 15), [(2, 295), (0, ((t : Nat) : Int)), (0, ((w : Nat) : Int))], [], σ)) rfl rfl ?_
  refine TT.br (p := ((if 10 ≤ ((w : Nat) : Int) ∧ ((w : Nat) : Int) ≤ ((9 + ((L t)) : Nat) : Int) then 1 else 0) : Int) = 0) (fun h5 => ?_) (fun h5 => ?_)
  · replace h5 := ite_f h5
    refine TT.steps (cd := cd67) 5 (c' := (27, [(2, 295), (0, ((t : Nat) : Int)), (0, ((w : Nat) : Int))], [(0, ((t : Nat) : Int)), (2, 295), (0, 19), (0, 21), (0, ((w : Nat) : Int))], σ)) rfl rfl ?_
    refine TT.call (cd := cd67) rfl rfl rfl (by decide) rfl (t_callsOf X t (by omega) σ hb hb2) (fun r6 σ6 hq => ?_)
    rw [hq.1, hq.2]
    refine TT.top0 (z := (((L t) : Nat) : Int)) (hL t ht).1 ?_
    refine TT.steps (cd := cd67) 1 (c' := (29, [(2, 295), (0, ((t : Nat) : Int)), (0, ((w : Nat) : Int))], [(0, (aAdd 19 (((L t) : Nat) : Int))), (0, 21), (0, ((w : Nat) : Int))], σ)) rfl rfl ?_
    refine TT.top0 (z := ((19 + ((L t)) : Nat) : Int)) (aAdd_n (a := 19) (b := (L t)) (by (have := hL t ht; omega))) ?_
    refine TT.call (cd := cd67) rfl rfl rfl (by decide) rfl (t_is X ((w : Nat) : Int) 21 ((19 + ((L t)) : Nat) : Int) σ) (fun r7 σ7 hq => ?_)
    rw [hq.1, hq.2]
    refine TT.steps (cd := cd67) 1 (c' := ((if decide (((if 21 ≤ ((w : Nat) : Int) ∧ ((w : Nat) : Int) ≤ ((19 + ((L t)) : Nat) : Int) then 1 else 0) : Int) = 0) = true then 38 else 31), [(2, 295), (0, ((t : Nat) : Int)), (0, ((w : Nat) : Int))], [], σ)) rfl rfl ?_
    refine TT.br (p := ((if 21 ≤ ((w : Nat) : Int) ∧ ((w : Nat) : Int) ≤ ((19 + ((L t)) : Nat) : Int) then 1 else 0) : Int) = 0) (fun h8 => ?_) (fun h8 => ?_)
    · replace h8 := ite_f h8
      refine TT.steps (cd := cd67) 2 (c' := ((if decide (¬ ((w : Nat) : Int) = 0) = true then 50 else 40), [(2, 295), (0, ((t : Nat) : Int)), (0, ((w : Nat) : Int))], [], σ)) rfl rfl ?_
      refine TT.br (p := ¬ ((w : Nat) : Int) = 0) (fun h9 => ?_) (fun h9 => ?_)
      · refine TT.steps (cd := cd67) 3 (c' := ((if decide (¬ ((w : Nat) : Int) = 1) = true then 63 else 53), [(2, 295), (0, ((t : Nat) : Int)), (0, ((w : Nat) : Int))], [], σ)) rfl rfl ?_
        refine TT.br (p := ¬ ((w : Nat) : Int) = 1) (fun h10 => ?_) (fun h10 => ?_)
        · refine TT.steps (cd := cd67) 3 (c' := ((if decide (¬ ((w : Nat) : Int) = 2) = true then 70 else 66), [(2, 295), (0, ((t : Nat) : Int)), (0, ((w : Nat) : Int))], [], σ)) rfl rfl ?_
          refine TT.br (p := ¬ ((w : Nat) : Int) = 2) (fun h11 => ?_) (fun h11 => ?_)
          · refine TT.steps (cd := cd67) 1 (c' := (71, [(2, 295), (0, ((t : Nat) : Int)), (0, ((w : Nat) : Int))], [(0, -1)], σ)) rfl rfl ?_
            exact TT.ret (cd := cd67) rfl rfl rfl rfl (⟨by first | (rw [if_pos (by (have := hL t ht; omega))]; done) | (rw [if_neg (by (have := hL t ht; omega)), if_pos (by (have := hL t ht; omega))]; done) | (rw [if_neg (by (have := hL t ht; omega)), if_neg (by (have := hL t ht; omega)), if_pos (by (have := hL t ht; omega))]; done) | (rw [if_neg (by (have := hL t ht; omega)), if_neg (by (have := hL t ht; omega)), if_neg (by (have := hL t ht; omega)), if_pos (by (have := hL t ht; omega))]; done) | (rw [if_neg (by (have := hL t ht; omega)), if_neg (by (have := hL t ht; omega)), if_neg (by (have := hL t ht; omega)), if_neg (by (have := hL t ht; omega)), if_pos (by (have := hL t ht; omega))]; done) | (rw [if_neg (by (have := hL t ht; omega)), if_neg (by (have := hL t ht; omega)), if_neg (by (have := hL t ht; omega)), if_neg (by (have := hL t ht; omega)), if_neg (by (have := hL t ht; omega))]; done), rfl⟩)
          · refine TT.steps (cd := cd67) 2 (c' := (68, [(2, 295), (0, ((t : Nat) : Int)), (0, ((w : Nat) : Int))], [(0, ((t : Nat) : Int)), (2, 295)], σ)) rfl rfl ?_
            refine TT.call (cd := cd67) rfl rfl rfl (by decide) rfl (t_callsOf X t (by omega) σ hb hb2) (fun r12 σ12 hq => ?_)
            rw [hq.1, hq.2]
            refine TT.top0 (z := (((L t) : Nat) : Int)) (hL t ht).1 ?_
            refine TT.steps (cd := cd67) 1 (c' := (71, [(2, 295), (0, ((t : Nat) : Int)), (0, ((w : Nat) : Int))], [(0, (((L t) : Nat) : Int))], σ)) rfl rfl ?_
            exact TT.ret (cd := cd67) rfl rfl rfl rfl (⟨by first | (rw [if_pos (by (have := hL t ht; omega))]; done) | (rw [if_neg (by (have := hL t ht; omega)), if_pos (by (have := hL t ht; omega))]; done) | (rw [if_neg (by (have := hL t ht; omega)), if_neg (by (have := hL t ht; omega)), if_pos (by (have := hL t ht; omega))]; done) | (rw [if_neg (by (have := hL t ht; omega)), if_neg (by (have := hL t ht; omega)), if_neg (by (have := hL t ht; omega)), if_pos (by (have := hL t ht; omega))]; done) | (rw [if_neg (by (have := hL t ht; omega)), if_neg (by (have := hL t ht; omega)), if_neg (by (have := hL t ht; omega)), if_neg (by (have := hL t ht; omega)), if_pos (by (have := hL t ht; omega))]; done) | (rw [if_neg (by (have := hL t ht; omega)), if_neg (by (have := hL t ht; omega)), if_neg (by (have := hL t ht; omega)), if_neg (by (have := hL t ht; omega)), if_neg (by (have := hL t ht; omega))]; done), rfl⟩)
        · refine TT.steps (cd := cd67) 5 (c' := (58, [(2, 295), (0, ((t : Nat) : Int)), (0, ((w : Nat) : Int))], [(0, (σ 295 13)), (0, 6), (2, 303)], σ)) rfl rfl ?_
          refine TT.top0 (z := ((b : Nat) : Int)) hb ?_
          refine TT.steps (cd := cd67) 1 (c' := (59, [(2, 295), (0, ((t : Nat) : Int)), (0, ((w : Nat) : Int))], [(0, (aMul 6 ((b : Nat) : Int))), (2, 303)], σ)) rfl rfl ?_
          refine TT.top0 (z := ((6 * b : Nat) : Int)) (aMul_n (a := 6) (b := b) (by (have := hL t ht; omega))) ?_
          refine TT.steps (cd := cd67) 2 (c' := (61, [(2, 295), (0, ((t : Nat) : Int)), (0, ((w : Nat) : Int))], [(0, (aAdd ((6 * b : Nat) : Int) ((t : Nat) : Int))), (2, 303)], σ)) rfl rfl ?_
          refine TT.top0 (z := (((6 * b) + t : Nat) : Int)) (aAdd_n (a := 6 * b) (b := t) (by (have := hL t ht; omega))) ?_
          refine TT.aldN (cd := cd67) (303) ((6 * b) + t) rfl rfl rfl rfl (show (6 * b) + t < 12 by (have := hL t ht; omega)) ?_
          refine TT.steps (cd := cd67) 1 (c' := (71, [(2, 295), (0, ((t : Nat) : Int)), (0, ((w : Nat) : Int))], [(0, (σ 303 ((6 * b) + t)))], σ)) rfl rfl ?_
          exact TT.ret (cd := cd67) rfl rfl rfl rfl (⟨by first | (rw [if_pos (by (have := hL t ht; omega))]; done) | (rw [if_neg (by (have := hL t ht; omega)), if_pos (by (have := hL t ht; omega))]; done) | (rw [if_neg (by (have := hL t ht; omega)), if_neg (by (have := hL t ht; omega)), if_pos (by (have := hL t ht; omega))]; done) | (rw [if_neg (by (have := hL t ht; omega)), if_neg (by (have := hL t ht; omega)), if_neg (by (have := hL t ht; omega)), if_pos (by (have := hL t ht; omega))]; done) | (rw [if_neg (by (have := hL t ht; omega)), if_neg (by (have := hL t ht; omega)), if_neg (by (have := hL t ht; omega)), if_neg (by (have := hL t ht; omega)), if_pos (by (have := hL t ht; omega))]; done) | (rw [if_neg (by (have := hL t ht; omega)), if_neg (by (have := hL t ht; omega)), if_neg (by (have := hL t ht; omega)), if_neg (by (have := hL t ht; omega)), if_neg (by (have := hL t ht; omega))]; done), rfl⟩)
      · refine TT.steps (cd := cd67) 5 (c' := (45, [(2, 295), (0, ((t : Nat) : Int)), (0, ((w : Nat) : Int))], [(0, (σ 295 13)), (0, 6), (2, 302)], σ)) rfl rfl ?_
        refine TT.top0 (z := ((b : Nat) : Int)) hb ?_
        refine TT.steps (cd := cd67) 1 (c' := (46, [(2, 295), (0, ((t : Nat) : Int)), (0, ((w : Nat) : Int))], [(0, (aMul 6 ((b : Nat) : Int))), (2, 302)], σ)) rfl rfl ?_
        refine TT.top0 (z := ((6 * b : Nat) : Int)) (aMul_n (a := 6) (b := b) (by (have := hL t ht; omega))) ?_
        refine TT.steps (cd := cd67) 2 (c' := (48, [(2, 295), (0, ((t : Nat) : Int)), (0, ((w : Nat) : Int))], [(0, (aAdd ((6 * b : Nat) : Int) ((t : Nat) : Int))), (2, 302)], σ)) rfl rfl ?_
        refine TT.top0 (z := (((6 * b) + t : Nat) : Int)) (aAdd_n (a := 6 * b) (b := t) (by (have := hL t ht; omega))) ?_
        refine TT.aldN (cd := cd67) (302) ((6 * b) + t) rfl rfl rfl rfl (show (6 * b) + t < 12 by (have := hL t ht; omega)) ?_
        refine TT.steps (cd := cd67) 1 (c' := (71, [(2, 295), (0, ((t : Nat) : Int)), (0, ((w : Nat) : Int))], [(0, (σ 302 ((6 * b) + t)))], σ)) rfl rfl ?_
        exact TT.ret (cd := cd67) rfl rfl rfl rfl (⟨by first | (rw [if_pos (by (have := hL t ht; omega))]; done) | (rw [if_neg (by (have := hL t ht; omega)), if_pos (by (have := hL t ht; omega))]; done) | (rw [if_neg (by (have := hL t ht; omega)), if_neg (by (have := hL t ht; omega)), if_pos (by (have := hL t ht; omega))]; done) | (rw [if_neg (by (have := hL t ht; omega)), if_neg (by (have := hL t ht; omega)), if_neg (by (have := hL t ht; omega)), if_pos (by (have := hL t ht; omega))]; done) | (rw [if_neg (by (have := hL t ht; omega)), if_neg (by (have := hL t ht; omega)), if_neg (by (have := hL t ht; omega)), if_neg (by (have := hL t ht; omega)), if_pos (by (have := hL t ht; omega))]; done) | (rw [if_neg (by (have := hL t ht; omega)), if_neg (by (have := hL t ht; omega)), if_neg (by (have := hL t ht; omega)), if_neg (by (have := hL t ht; omega)), if_neg (by (have := hL t ht; omega))]; done), rfl⟩)
    · replace h8 := ite_t h8
      refine TT.steps (cd := cd67) 5 (c' := (36, [(2, 295), (0, ((t : Nat) : Int)), (0, ((w : Nat) : Int))], [(0, (aSub ((w : Nat) : Int) 20)), (0, ((t : Nat) : Int)), (2, 295)], σ)) rfl rfl ?_
      refine TT.top0 (z := ((w - 20 : Nat) : Int)) (aSub_n (a := w) (b := 20) (by (have := hL t ht; omega)) (by (have := hL t ht; omega))) ?_
      refine TT.call (cd := cd67) rfl rfl rfl (by decide) rfl (t_afterOf X t (w - 20) (by omega) (by (have := hL t ht; omega)) σ hb hb2) (fun r13 σ13 hq => ?_)
      rw [hq.1, hq.2]
      exact TT.ret (cd := cd67) rfl rfl rfl rfl (⟨by first | (rw [if_pos (by (have := hL t ht; omega))]; done) | (rw [if_neg (by (have := hL t ht; omega)), if_pos (by (have := hL t ht; omega))]; done) | (rw [if_neg (by (have := hL t ht; omega)), if_neg (by (have := hL t ht; omega)), if_pos (by (have := hL t ht; omega))]; done) | (rw [if_neg (by (have := hL t ht; omega)), if_neg (by (have := hL t ht; omega)), if_neg (by (have := hL t ht; omega)), if_pos (by (have := hL t ht; omega))]; done) | (rw [if_neg (by (have := hL t ht; omega)), if_neg (by (have := hL t ht; omega)), if_neg (by (have := hL t ht; omega)), if_neg (by (have := hL t ht; omega)), if_pos (by (have := hL t ht; omega))]; done) | (rw [if_neg (by (have := hL t ht; omega)), if_neg (by (have := hL t ht; omega)), if_neg (by (have := hL t ht; omega)), if_neg (by (have := hL t ht; omega)), if_neg (by (have := hL t ht; omega))]; done), rfl⟩)
  · replace h5 := ite_t h5
    refine TT.steps (cd := cd67) 5 (c' := (20, [(2, 295), (0, ((t : Nat) : Int)), (0, ((w : Nat) : Int))], [(0, (aSub ((w : Nat) : Int) 10)), (0, ((t : Nat) : Int)), (2, 295)], σ)) rfl rfl ?_
    refine TT.top0 (z := ((w - 10 : Nat) : Int)) (aSub_n (a := w) (b := 10) (by (have := hL t ht; omega)) (by (have := hL t ht; omega))) ?_
    refine TT.call (cd := cd67) rfl rfl rfl (by decide) rfl (t_callOf X t (w - 10) (by omega) (by (have := hL t ht; omega)) σ hb hb2) (fun r14 σ14 hq => ?_)
    rw [hq.1, hq.2]
    exact TT.ret (cd := cd67) rfl rfl rfl rfl (⟨by first | (rw [if_pos (by (have := hL t ht; omega))]; done) | (rw [if_neg (by (have := hL t ht; omega)), if_pos (by (have := hL t ht; omega))]; done) | (rw [if_neg (by (have := hL t ht; omega)), if_neg (by (have := hL t ht; omega)), if_pos (by (have := hL t ht; omega))]; done) | (rw [if_neg (by (have := hL t ht; omega)), if_neg (by (have := hL t ht; omega)), if_neg (by (have := hL t ht; omega)), if_pos (by (have := hL t ht; omega))]; done) | (rw [if_neg (by (have := hL t ht; omega)), if_neg (by (have := hL t ht; omega)), if_neg (by (have := hL t ht; omega)), if_neg (by (have := hL t ht; omega)), if_pos (by (have := hL t ht; omega))]; done) | (rw [if_neg (by (have := hL t ht; omega)), if_neg (by (have := hL t ht; omega)), if_neg (by (have := hL t ht; omega)), if_neg (by (have := hL t ht; omega)), if_neg (by (have := hL t ht; omega))]; done), rfl⟩)
theorem t_isUnderWay0 (X : AX) (p : Nat) (m : Int) (hp : p < 10) (σ : AH) (ha : σ 333 p = -1)  : TT X 84 (0, [(2, 295), (0, ((p : Nat) : Int)), (0, m), (9, 0), (9, 0)], [], σ) (fun r σ' => r = some (0, 0) ∧ σ' = σ) := by
  refine TT.steps (cd := cd84) 3 (c' := (3, [(2, 295), (0, ((p : Nat) : Int)), (0, m), (9, 0), (9, 0)], [(0, ((p : Nat) : Int)), (2, 333)], σ)) rfl rfl ?_
  refine TT.aldN (cd := cd84) (333) (p) rfl rfl rfl rfl (show p < 10 by omega) ?_
  refine TT.top0 (z := (-1)) ha ?_
  refine TT.steps (cd := cd84) 5 (c' := (9, [(2, 295), (0, ((p : Nat) : Int)), (0, m), (0, -1), (9, 0)], [(0, 0)], σ)) rfl rfl ?_
  exact TT.ret (cd := cd84) rfl rfl rfl rfl (⟨rfl, rfl⟩)
abbrev mUW (σ : AH) (b t x : Nat) (m : Int) : Prop := aAdd (σ 326 (8 * t + x - 1)) (if σ 325 (8 * t + x - 1) = 1 ∧ 1 < x then σ 299 b else 0) < m
theorem t_isUnderWay1 (X : AX) (p t x : Nat) (m : Int) (hp : p < 10) (ht : t < 6) (hx : 1 ≤ x ∧ x ≤ 8) (σ : AH) {b : Nat} (hb : σ 295 13 = (b : Int)) (hb2 : b < 2) (ha : σ 333 p = (t : Int)) (hx2 : σ 323 t = (x : Int))  : TT X 84 (0, [(2, 295), (0, ((p : Nat) : Int)), (0, m), (9, 0), (9, 0)], [], σ) (fun r σ' => r = some (0, if mUW σ b t x m then 1 else 0) ∧ σ' = σ) := by
  refine TT.steps (cd := cd84) 3 (c' := (3, [(2, 295), (0, ((p : Nat) : Int)), (0, m), (9, 0), (9, 0)], [(0, ((p : Nat) : Int)), (2, 333)], σ)) rfl rfl ?_
  refine TT.aldN (cd := cd84) (333) (p) rfl rfl rfl rfl (show p < 10 by omega) ?_
  refine TT.top0 (z := ((t : Nat) : Int)) ha ?_
  refine TT.steps (cd := cd84) 4 (c' := ((if decide (¬ ((t : Nat) : Int) = (-1)) = true then 10 else 8), [(2, 295), (0, ((p : Nat) : Int)), (0, m), (0, ((t : Nat) : Int)), (9, 0)], [], σ)) rfl rfl ?_
  refine TT.br (p := ¬ ((t : Nat) : Int) = (-1)) (fun h1 => ?_) (fun h1 => absurd (show ¬ ((t : Nat) : Int) = (-1) by omega) h1)
  refine TT.steps (cd := cd84) 3 (c' := (13, [(2, 295), (0, ((p : Nat) : Int)), (0, m), (0, ((t : Nat) : Int)), (9, 0)], [(0, (aMul 8 ((t : Nat) : Int)))], σ)) rfl rfl ?_
  refine TT.top0 (z := ((8 * t : Nat) : Int)) (aMul_n (a := 8) (b := t) (by omega)) ?_
  refine TT.steps (cd := cd84) 3 (c' := (16, [(2, 295), (0, ((p : Nat) : Int)), (0, m), (0, ((t : Nat) : Int)), (9, 0)], [(0, ((t : Nat) : Int)), (2, 323), (0, ((8 * t : Nat) : Int))], σ)) rfl rfl ?_
  refine TT.aldN (cd := cd84) (323) (t) rfl rfl rfl rfl (show t < 6 by omega) ?_
  refine TT.top0 (z := ((x : Nat) : Int)) hx2 ?_
  refine TT.steps (cd := cd84) 1 (c' := (18, [(2, 295), (0, ((p : Nat) : Int)), (0, m), (0, ((t : Nat) : Int)), (9, 0)], [(0, (aAdd ((8 * t : Nat) : Int) ((x : Nat) : Int)))], σ)) rfl rfl ?_
  refine TT.top0 (z := (((8 * t) + x : Nat) : Int)) (aAdd_n (a := 8 * t) (b := x) (by omega)) ?_
  refine TT.steps (cd := cd84) 2 (c' := (20, [(2, 295), (0, ((p : Nat) : Int)), (0, m), (0, ((t : Nat) : Int)), (9, 0)], [(0, (aSub (((8 * t) + x : Nat) : Int) 1))], σ)) rfl rfl ?_
  refine TT.top0 (z := ((((8 * t) + x) - 1 : Nat) : Int)) (aSub_n (a := (8 * t) + x) (b := 1) (by omega) (by omega)) ?_
  refine TT.steps (cd := cd84) 5 (c' := (25, [(2, 295), (0, ((p : Nat) : Int)), (0, m), (0, ((t : Nat) : Int)), (0, ((((8 * t) + x) - 1 : Nat) : Int))], [(0, ((((8 * t) + x) - 1 : Nat) : Int)), (2, 326), (0, m)], σ)) rfl rfl ?_
  refine TT.aldN (cd := cd84) (326) (((8 * t) + x) - 1) rfl rfl rfl rfl (show ((8 * t) + x) - 1 < 48 by omega) ?_
  refine TT.steps (cd := cd84) 3 (c' := (29, [(2, 295), (0, ((p : Nat) : Int)), (0, m), (0, ((t : Nat) : Int)), (0, ((((8 * t) + x) - 1 : Nat) : Int))], [(0, ((((8 * t) + x) - 1 : Nat) : Int)), (2, 325), (0, (σ 326 (((8 * t) + x) - 1))), (0, m)], σ)) rfl rfl ?_
  refine TT.aldN (cd := cd84) (325) (((8 * t) + x) - 1) rfl rfl rfl rfl (show ((8 * t) + x) - 1 < 48 by omega) ?_
  refine TT.steps (cd := cd84) 2 (c' := ((if decide (¬ (σ 325 (((8 * t) + x) - 1)) = 1) = true then 44 else 32), [(2, 295), (0, ((p : Nat) : Int)), (0, m), (0, ((t : Nat) : Int)), (0, ((((8 * t) + x) - 1 : Nat) : Int))], [(0, (σ 326 (((8 * t) + x) - 1))), (0, m)], σ)) rfl rfl ?_
  refine TT.br (p := ¬ (σ 325 (((8 * t) + x) - 1)) = 1) (fun h2 => ?_) (fun h2 => ?_)
  · refine TT.steps (cd := cd84) 2 (c' := (46, [(2, 295), (0, ((p : Nat) : Int)), (0, m), (0, ((t : Nat) : Int)), (0, ((((8 * t) + x) - 1 : Nat) : Int))], [(0, (aAdd (σ 326 (((8 * t) + x) - 1)) 0)), (0, m)], σ)) rfl rfl ?_
    refine TT.steps (cd := cd84) 1 (c' := ((if decide (m ≤ (aAdd (σ 326 (((8 * t) + x) - 1)) 0)) = true then 49 else 47), [(2, 295), (0, ((p : Nat) : Int)), (0, m), (0, ((t : Nat) : Int)), (0, ((((8 * t) + x) - 1 : Nat) : Int))], [], σ)) rfl rfl ?_
    refine TT.br (p := m ≤ (aAdd (σ 326 (((8 * t) + x) - 1)) 0)) (fun h3 => ?_) (fun h3 => ?_)
    · refine TT.steps (cd := cd84) 1 (c' := (50, [(2, 295), (0, ((p : Nat) : Int)), (0, m), (0, ((t : Nat) : Int)), (0, ((((8 * t) + x) - 1 : Nat) : Int))], [(0, 0)], σ)) rfl rfl ?_
      exact TT.ret (cd := cd84) rfl rfl rfl rfl (⟨by unfold mUW; first | (rw [if_pos (by first | (rw [if_pos (by omega)]; omega) | (rw [if_neg (by omega)]; omega))]; done) | (rw [if_neg (by first | (rw [if_pos (by omega)]; omega) | (rw [if_neg (by omega)]; omega))]; done), rfl⟩)
    · refine TT.steps (cd := cd84) 2 (c' := (50, [(2, 295), (0, ((p : Nat) : Int)), (0, m), (0, ((t : Nat) : Int)), (0, ((((8 * t) + x) - 1 : Nat) : Int))], [(0, 1)], σ)) rfl rfl ?_
      exact TT.ret (cd := cd84) rfl rfl rfl rfl (⟨by unfold mUW; first | (rw [if_pos (by first | (rw [if_pos (by omega)]; omega) | (rw [if_neg (by omega)]; omega))]; done) | (rw [if_neg (by first | (rw [if_pos (by omega)]; omega) | (rw [if_neg (by omega)]; omega))]; done), rfl⟩)
  · refine TT.steps (cd := cd84) 3 (c' := (35, [(2, 295), (0, ((p : Nat) : Int)), (0, m), (0, ((t : Nat) : Int)), (0, ((((8 * t) + x) - 1 : Nat) : Int))], [(0, ((t : Nat) : Int)), (2, 323), (0, (σ 326 (((8 * t) + x) - 1))), (0, m)], σ)) rfl rfl ?_
    refine TT.aldN (cd := cd84) (323) (t) rfl rfl rfl rfl (show t < 6 by omega) ?_
    refine TT.top0 (z := ((x : Nat) : Int)) hx2 ?_
    refine TT.steps (cd := cd84) 2 (c' := ((if decide (((x : Nat) : Int) ≤ 1) = true then 44 else 38), [(2, 295), (0, ((p : Nat) : Int)), (0, m), (0, ((t : Nat) : Int)), (0, ((((8 * t) + x) - 1 : Nat) : Int))], [(0, (σ 326 (((8 * t) + x) - 1))), (0, m)], σ)) rfl rfl ?_
    refine TT.br (p := ((x : Nat) : Int) ≤ 1) (fun h4 => ?_) (fun h4 => ?_)
    · refine TT.steps (cd := cd84) 2 (c' := (46, [(2, 295), (0, ((p : Nat) : Int)), (0, m), (0, ((t : Nat) : Int)), (0, ((((8 * t) + x) - 1 : Nat) : Int))], [(0, (aAdd (σ 326 (((8 * t) + x) - 1)) 0)), (0, m)], σ)) rfl rfl ?_
      refine TT.steps (cd := cd84) 1 (c' := ((if decide (m ≤ (aAdd (σ 326 (((8 * t) + x) - 1)) 0)) = true then 49 else 47), [(2, 295), (0, ((p : Nat) : Int)), (0, m), (0, ((t : Nat) : Int)), (0, ((((8 * t) + x) - 1 : Nat) : Int))], [], σ)) rfl rfl ?_
      refine TT.br (p := m ≤ (aAdd (σ 326 (((8 * t) + x) - 1)) 0)) (fun h5 => ?_) (fun h5 => ?_)
      · refine TT.steps (cd := cd84) 1 (c' := (50, [(2, 295), (0, ((p : Nat) : Int)), (0, m), (0, ((t : Nat) : Int)), (0, ((((8 * t) + x) - 1 : Nat) : Int))], [(0, 0)], σ)) rfl rfl ?_
        exact TT.ret (cd := cd84) rfl rfl rfl rfl (⟨by unfold mUW; first | (rw [if_pos (by first | (rw [if_pos (by omega)]; omega) | (rw [if_neg (by omega)]; omega))]; done) | (rw [if_neg (by first | (rw [if_pos (by omega)]; omega) | (rw [if_neg (by omega)]; omega))]; done), rfl⟩)
      · refine TT.steps (cd := cd84) 2 (c' := (50, [(2, 295), (0, ((p : Nat) : Int)), (0, m), (0, ((t : Nat) : Int)), (0, ((((8 * t) + x) - 1 : Nat) : Int))], [(0, 1)], σ)) rfl rfl ?_
        exact TT.ret (cd := cd84) rfl rfl rfl rfl (⟨by unfold mUW; first | (rw [if_pos (by first | (rw [if_pos (by omega)]; omega) | (rw [if_neg (by omega)]; omega))]; done) | (rw [if_neg (by first | (rw [if_pos (by omega)]; omega) | (rw [if_neg (by omega)]; omega))]; done), rfl⟩)
    · refine TT.steps (cd := cd84) 4 (c' := (42, [(2, 295), (0, ((p : Nat) : Int)), (0, m), (0, ((t : Nat) : Int)), (0, ((((8 * t) + x) - 1 : Nat) : Int))], [(0, (σ 295 13)), (2, 299), (0, (σ 326 (((8 * t) + x) - 1))), (0, m)], σ)) rfl rfl ?_
      refine TT.top0 (z := ((b : Nat) : Int)) hb ?_
      refine TT.aldN (cd := cd84) (299) (b) rfl rfl rfl rfl (show b < 2 by omega) ?_
      refine TT.steps (cd := cd84) 2 (c' := (46, [(2, 295), (0, ((p : Nat) : Int)), (0, m), (0, ((t : Nat) : Int)), (0, ((((8 * t) + x) - 1 : Nat) : Int))], [(0, (aAdd (σ 326 (((8 * t) + x) - 1)) (σ 299 b))), (0, m)], σ)) rfl rfl ?_
      refine TT.steps (cd := cd84) 1 (c' := ((if decide (m ≤ (aAdd (σ 326 (((8 * t) + x) - 1)) (σ 299 b))) = true then 49 else 47), [(2, 295), (0, ((p : Nat) : Int)), (0, m), (0, ((t : Nat) : Int)), (0, ((((8 * t) + x) - 1 : Nat) : Int))], [], σ)) rfl rfl ?_
      refine TT.br (p := m ≤ (aAdd (σ 326 (((8 * t) + x) - 1)) (σ 299 b))) (fun h6 => ?_) (fun h6 => ?_)
      · refine TT.steps (cd := cd84) 1 (c' := (50, [(2, 295), (0, ((p : Nat) : Int)), (0, m), (0, ((t : Nat) : Int)), (0, ((((8 * t) + x) - 1 : Nat) : Int))], [(0, 0)], σ)) rfl rfl ?_
        exact TT.ret (cd := cd84) rfl rfl rfl rfl (⟨by unfold mUW; first | (rw [if_pos (by first | (rw [if_pos (by omega)]; omega) | (rw [if_neg (by omega)]; omega))]; done) | (rw [if_neg (by first | (rw [if_pos (by omega)]; omega) | (rw [if_neg (by omega)]; omega))]; done), rfl⟩)
      · refine TT.steps (cd := cd84) 2 (c' := (50, [(2, 295), (0, ((p : Nat) : Int)), (0, m), (0, ((t : Nat) : Int)), (0, ((((8 * t) + x) - 1 : Nat) : Int))], [(0, 1)], σ)) rfl rfl ?_
        exact TT.ret (cd := cd84) rfl rfl rfl rfl (⟨by unfold mUW; first | (rw [if_pos (by first | (rw [if_pos (by omega)]; omega) | (rw [if_neg (by omega)]; omega))]; done) | (rw [if_neg (by first | (rw [if_pos (by omega)]; omega) | (rw [if_neg (by omega)]; omega))]; done), rfl⟩)
