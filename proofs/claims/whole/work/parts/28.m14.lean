/-- years one behind another -/
def mYrs (σ : AH) (b np nt : Nat) (L : Nat → Nat) : Nat → Nat × AH
  | 0 => (0, σ)
  | n + 1 => ((mYrs σ b np nt L n).1 + (mYear (mYrs σ b np nt L n).2 b 0 np nt L).1, (mYear (mYrs σ b np nt L n).2 b 0 np nt L).2)
theorem mYear_le (σ : AH) (b v np nt : Nat) (L : Nat → Nat) : (mYear σ b v np nt L).1 ≤ np := mY2_le _ _ _
theorem mYrs_le (σ : AH) (b np nt : Nat) (L : Nat → Nat) (n : Nat) : (mYrs σ b np nt L n).1 ≤ np * n := by
  induction n with
  | zero => exact Nat.zero_le _
  | succ n ih =>
    have := mYear_le (mYrs σ b np nt L n).2 b 0 np nt L
    rw [mYrs, Nat.mul_succ]
    dsimp only
    omega
theorem mYrs_fr (σ : AH) (b np nt : Nat) (L : Nat → Nat) (n c j : Nat) (h : c ≠ 295 ∧ (c < 316 ∨ 337 < c)) : (mYrs σ b np nt L n).2 c j = σ c j := by
  induction n with
  | zero => rfl
  | succ n ih => rw [mYrs]; exact (mYear_fr _ _ _ _ _ _ _ _ h).trans ih
theorem mYrs_M (σ : AH) (b np nt : Nat) (L : Nat → Nat) (n j : Nat) (h : j ≠ 43 ∧ j ≠ 46) : (mYrs σ b np nt L n).2 295 j = σ 295 j := by
  induction n with
  | zero => rfl
  | succ n ih => rw [mYrs]; exact (mYear_M _ _ _ _ _ _ _ h).trans ih
theorem l_years (X : AX) (m : Nat) (hm : m ≤ 40) (np nt : Nat) (L : Nat → Nat) (σ : AH) {b : Nat} (hb : σ 295 13 = (b : Int)) (hb2 : b < 2) (hnp : σ 307 b = (np : Int)) (hnp2 : np ≤ 10) (hnt : σ 300 b = (nt : Int)) (hnt2 : nt ≤ 6) (hL : ∀ t, t < nt → σ 304 (6 * b + t) = (L t : Int) ∧ 2 ≤ L t ∧ L t ≤ 8) : ∀ (d n : Nat), n + d = m → TT X 76 (23, [(2, 295), (0, ((m : Nat) : Int)), (0, (((mYrs σ b np nt L n).1 : Nat) : Int)), (0, ((n : Nat) : Int))], [], ((mYrs σ b np nt L n).2)) (fun r σ' => r = some (0, (((mYrs σ b np nt L m).1 : Nat) : Int)) ∧ σ' = (mYrs σ b np nt L m).2) := by
  intro d
  induction d with
  | zero =>
    intro n hn
    have hnn : n = m := by omega
    refine TT.steps (cd := cd76) 3 (c' := ((if decide (((m : Nat) : Int) ≤ ((n : Nat) : Int)) = true then 34 else 26), [(2, 295), (0, ((m : Nat) : Int)), (0, (((mYrs σ b np nt L n).1 : Nat) : Int)), (0, ((n : Nat) : Int))], [], ((mYrs σ b np nt L n).2))) rfl rfl ?_
    refine TT.br (p := ((m : Nat) : Int) ≤ ((n : Nat) : Int)) (fun h1 => ?_) (fun h1 => absurd (show ((m : Nat) : Int) ≤ ((n : Nat) : Int) by omega) h1)
    refine TT.steps (cd := cd76) 1 (c' := (35, [(2, 295), (0, ((m : Nat) : Int)), (0, (((mYrs σ b np nt L n).1 : Nat) : Int)), (0, ((n : Nat) : Int))], [(0, (((mYrs σ b np nt L n).1 : Nat) : Int))], ((mYrs σ b np nt L n).2))) rfl rfl ?_
    exact TT.ret (cd := cd76) rfl rfl rfl rfl (⟨by rw [hnn], by rw [hnn]⟩)
  | succ d ih =>
    intro n hn
    refine TT.steps (cd := cd76) 3 (c' := ((if decide (((m : Nat) : Int) ≤ ((n : Nat) : Int)) = true then 34 else 26), [(2, 295), (0, ((m : Nat) : Int)), (0, (((mYrs σ b np nt L n).1 : Nat) : Int)), (0, ((n : Nat) : Int))], [], ((mYrs σ b np nt L n).2))) rfl rfl ?_
    refine TT.br (p := ((m : Nat) : Int) ≤ ((n : Nat) : Int)) (fun h1 => absurd h1 (show ¬ (((m : Nat) : Int) ≤ ((n : Nat) : Int)) by omega)) (fun h1 => ?_)
    refine TT.steps (cd := cd76) 3 (c' := (29, [(2, 295), (0, ((m : Nat) : Int)), (0, (((mYrs σ b np nt L n).1 : Nat) : Int)), (0, ((n : Nat) : Int))], [(0, 0), (2, 295), (0, (((mYrs σ b np nt L n).1 : Nat) : Int))], ((mYrs σ b np nt L n).2))) rfl rfl ?_
    refine TT.call (cd := cd76) rfl rfl rfl (by decide) rfl (t_yearOf X np nt L ((mYrs σ b np nt L n).2) (v := 0) ((mYrs_M _ _ _ _ _ _ (13) (by decide)).trans hb) hb2 (by decide) ((mYrs_fr _ _ _ _ _ _ 307 (b) (by decide)).trans hnp) hnp2 ((mYrs_fr _ _ _ _ _ _ 300 (b) (by decide)).trans hnt) hnt2 (fun t ht => ⟨(show ∀ j, ((mYrs σ b np nt L n).2) 304 j = σ 304 j from fun j => (mYrs_fr _ _ _ _ _ _ 304 (j) (by decide))) _ |>.trans (hL t ht).1, (hL t ht).2⟩)) (fun r2 σ2 hq => ?_)
    rw [hq.1, hq.2]
    refine TT.steps (cd := cd76) 1 (c' := (31, [(2, 295), (0, ((m : Nat) : Int)), (0, (((mYrs σ b np nt L n).1 : Nat) : Int)), (0, ((n : Nat) : Int))], [(0, (aAdd (((mYrs σ b np nt L n).1 : Nat) : Int) (((mYear ((mYrs σ b np nt L n).2) b 0 np nt L).1 : Nat) : Int)))], ((mYear ((mYrs σ b np nt L n).2) b 0 np nt L).2))) rfl rfl ?_
    refine TT.top0 (z := ((((mYrs σ b np nt L n).1) + ((mYear ((mYrs σ b np nt L n).2) b 0 np nt L).1) : Nat) : Int)) (aAdd_n (a := (mYrs σ b np nt L n).1) (b := (mYear ((mYrs σ b np nt L n).2) b 0 np nt L).1) (by (have h91 := mYrs_le σ b np nt L n; have h92 := mYear_le (mYrs σ b np nt L n).2 b 0 np nt L; have h93 := Nat.mul_le_mul hnp2 (show n ≤ 40 by omega); omega))) ?_
    refine TT.steps (cd := cd76) 1 (c' := (32, [(2, 295), (0, ((m : Nat) : Int)), (0, ((((mYrs σ b np nt L n).1) + ((mYear ((mYrs σ b np nt L n).2) b 0 np nt L).1) : Nat) : Int)), (0, ((n : Nat) : Int))], [], ((mYear ((mYrs σ b np nt L n).2) b 0 np nt L).2))) rfl rfl ?_
    refine TT.inc (cd := cd76) ((n + 1 : Nat) : Int) rfl rfl rfl rfl (fun h => absurd h.2 (show ¬ (0 = 1) by decide)) (aAdd_n (a := n) (b := 1) (by (have h91 := mYrs_le σ b np nt L n; have h92 := mYear_le (mYrs σ b np nt L n).2 b 0 np nt L; have h93 := Nat.mul_le_mul hnp2 (show n ≤ 40 by omega); omega))) (ls' := [(2, 295), (0, ((m : Nat) : Int)), (0, ((((mYrs σ b np nt L n).1) + ((mYear ((mYrs σ b np nt L n).2) b 0 np nt L).1) : Nat) : Int)), (0, ((n + 1 : Nat) : Int))]) rfl ?_
    refine TT.steps (cd := cd76) 1 (c' := (23, [(2, 295), (0, ((m : Nat) : Int)), (0, ((((mYrs σ b np nt L n).1) + ((mYear ((mYrs σ b np nt L n).2) b 0 np nt L).1) : Nat) : Int)), (0, ((n + 1 : Nat) : Int))], [], ((mYear ((mYrs σ b np nt L n).2) b 0 np nt L).2))) rfl rfl ?_
    exact ih (n + 1) (by omega)
theorem t_years0 (X : AX) (n : Int) (yr : Nat) (σ : AH) (hyr : σ 316 0 = (yr : Int)) (hyr2 : yr ≤ 9999) (hn : ¬ (1 ≤ n ∧ n ≤ 40) ∨ 9999 < (yr : Int) + n)  : TT X 76 (0, [(2, 295), (0, n), (9, 0), (9, 0)], [], σ) (fun r σ' => r = some (0, -1) ∧ σ' = up2 σ 315 3 (aAdd (σ 315 3) 1)) := by
  refine TT.steps (cd := cd76) 3 (c' := (3, [(2, 295), (0, n), (9, 0), (9, 0)], [(0, 40), (0, 1), (0, n)], σ)) rfl rfl ?_
  refine TT.call (cd := cd76) rfl rfl rfl (by decide) rfl (t_is X n 1 40 σ) (fun r1 σ1 hq => ?_)
  rw [hq.1, hq.2]
  refine TT.steps (cd := cd76) 1 (c' := ((if decide (((if 1 ≤ n ∧ n ≤ 40 then 1 else 0) : Int) = 0) = true then 13 else 5), [(2, 295), (0, n), (9, 0), (9, 0)], [], σ)) rfl rfl ?_
  refine TT.br (p := ((if 1 ≤ n ∧ n ≤ 40 then 1 else 0) : Int) = 0) (fun h2 => ?_) (fun h2 => ?_)
  · replace h2 := ite_f h2
    refine TT.steps (cd := cd76) 2 (c' := (15, [(2, 295), (0, n), (9, 0), (9, 0)], [(0, 3), (2, 295)], σ)) rfl rfl ?_
    refine TT.call (cd := cd76) rfl rfl rfl (by decide) rfl (t_refuses X 3 (by omega) σ) (fun r3 σ3 hq => ?_)
    rw [hq.1, hq.2]
    exact TT.ret (cd := cd76) rfl rfl rfl rfl (⟨rfl, rfl⟩)
  · replace h2 := ite_t h2
    refine TT.steps (cd := cd76) 3 (c' := (8, [(2, 295), (0, n), (9, 0), (9, 0)], [(0, 0), (2, 316)], σ)) rfl rfl ?_
    refine TT.aldN (cd := cd76) (316) (0) rfl rfl rfl rfl (show 0 < 22 by omega) ?_
    refine TT.top0 (z := ((yr : Nat) : Int)) hyr ?_
    refine TT.steps (cd := cd76) 2 (c' := (11, [(2, 295), (0, n), (9, 0), (9, 0)], [(0, (aAdd ((yr : Nat) : Int) n))], σ)) rfl rfl ?_
    refine TT.top0 (z := ((yr : Int) + n)) (aAdd_of (by omega) (by omega)) ?_
    refine TT.steps (cd := cd76) 2 (c' := ((if decide (((yr : Int) + n) ≤ 9999) = true then 17 else 13), [(2, 295), (0, n), (9, 0), (9, 0)], [], σ)) rfl rfl ?_
    refine TT.br (p := ((yr : Int) + n) ≤ 9999) (fun h4 => ?_) (fun h4 => ?_)
    · exfalso
      omega
    · refine TT.steps (cd := cd76) 2 (c' := (15, [(2, 295), (0, n), (9, 0), (9, 0)], [(0, 3), (2, 295)], σ)) rfl rfl ?_
      refine TT.call (cd := cd76) rfl rfl rfl (by decide) rfl (t_refuses X 3 (by omega) σ) (fun r5 σ5 hq => ?_)
      rw [hq.1, hq.2]
      exact TT.ret (cd := cd76) rfl rfl rfl rfl (⟨rfl, rfl⟩)
theorem t_years1 (X : AX) (m yr : Nat) (hm : m ≤ 40) (hm1 : 1 ≤ m) (u w : Nat) (np nt : Nat) (L : Nat → Nat) (σ : AH) {b : Nat} (hb : σ 295 13 = (b : Int)) (hb2 : b < 2) (hnp : σ 307 b = (np : Int)) (hnp2 : np ≤ 10) (hnt : σ 300 b = (nt : Int)) (hnt2 : nt ≤ 6) (hL : ∀ t, t < nt → σ 304 (6 * b + t) = (L t : Int) ∧ 2 ≤ L t ∧ L t ≤ 8) (hu : σ 295 41 = (u : Int)) (hu2 : u < 20) (hw : σ 295 42 = (w : Int)) (hw2 : w ≤ 20) (hyr : σ 316 0 = (yr : Int)) (hyr2 : yr + m ≤ 9999)  : TT X 76 (0, [(2, 295), (0, ((m : Nat) : Int)), (9, 0), (9, 0)], [], σ) (fun r σ' => r = some (0, (((mYrs (mKeep σ u w) b np nt L m).1 : Nat) : Int)) ∧ σ' = (mYrs (mKeep σ u w) b np nt L m).2) := by
  refine TT.steps (cd := cd76) 3 (c' := (3, [(2, 295), (0, ((m : Nat) : Int)), (9, 0), (9, 0)], [(0, 40), (0, 1), (0, ((m : Nat) : Int))], σ)) rfl rfl ?_
  refine TT.call (cd := cd76) rfl rfl rfl (by decide) rfl (t_is X ((m : Nat) : Int) 1 40 σ) (fun r1 σ1 hq => ?_)
  rw [hq.1, hq.2]
  refine TT.steps (cd := cd76) 1 (c' := ((if decide (((if 1 ≤ ((m : Nat) : Int) ∧ ((m : Nat) : Int) ≤ 40 then 1 else 0) : Int) = 0) = true then 13 else 5), [(2, 295), (0, ((m : Nat) : Int)), (9, 0), (9, 0)], [], σ)) rfl rfl ?_
  refine TT.br (p := ((if 1 ≤ ((m : Nat) : Int) ∧ ((m : Nat) : Int) ≤ 40 then 1 else 0) : Int) = 0) (fun h2 => absurd h2 (show ¬ (((if 1 ≤ ((m : Nat) : Int) ∧ ((m : Nat) : Int) ≤ 40 then 1 else 0) : Int) = 0) by (rw [if_pos ⟨by omega, by omega⟩]; decide))) (fun h2 => ?_)
  refine TT.steps (cd := cd76) 3 (c' := (8, [(2, 295), (0, ((m : Nat) : Int)), (9, 0), (9, 0)], [(0, 0), (2, 316)], σ)) rfl rfl ?_
  refine TT.aldN (cd := cd76) (316) (0) rfl rfl rfl rfl (show 0 < 22 by omega) ?_
  refine TT.top0 (z := ((yr : Nat) : Int)) hyr ?_
  refine TT.steps (cd := cd76) 2 (c' := (11, [(2, 295), (0, ((m : Nat) : Int)), (9, 0), (9, 0)], [(0, (aAdd ((yr : Nat) : Int) ((m : Nat) : Int)))], σ)) rfl rfl ?_
  refine TT.top0 (z := ((yr + m : Nat) : Int)) (aAdd_n (a := yr) (b := m) (by omega)) ?_
  refine TT.steps (cd := cd76) 2 (c' := ((if decide (((yr + m : Nat) : Int) ≤ 9999) = true then 17 else 13), [(2, 295), (0, ((m : Nat) : Int)), (9, 0), (9, 0)], [], σ)) rfl rfl ?_
  refine TT.br (p := ((yr + m : Nat) : Int) ≤ 9999) (fun h3 => ?_) (fun h3 => absurd (show ((yr + m : Nat) : Int) ≤ 9999 by omega) h3)
  refine TT.steps (cd := cd76) 1 (c' := (18, [(2, 295), (0, ((m : Nat) : Int)), (9, 0), (9, 0)], [(2, 295)], σ)) rfl rfl ?_
  refine TT.call (cd := cd76) rfl rfl rfl (by decide) rfl (t_keeps X u w σ hu hu2 hw hw2) (fun r4 σ4 hq => ?_)
  rw [hq.1, hq.2]
  refine TT.steps (cd := cd76) 4 (c' := (23, [(2, 295), (0, ((m : Nat) : Int)), (0, 0), (0, 0)], [], (mKeep σ u w))) rfl rfl ?_
  exact l_years X m hm np nt L (mKeep σ u w) ((mKeep_M _ _ _ (13) (by decide)).trans hb) hb2 ((mKeep_fr _ _ _ 307 (b) (by decide)).trans hnp) hnp2 ((mKeep_fr _ _ _ 300 (b) (by decide)).trans hnt) hnt2 (fun t ht => ⟨(show ∀ j, (mKeep σ u w) 304 j = σ 304 j from fun j => (mKeep_fr _ _ _ 304 (j) (by decide))) _ |>.trans (hL t ht).1, (hL t ht).2⟩) m 0 (by omega)
def mCoin (σ : AH) (b np : Nat) (z : Int) : Int := sumA (fun p => aMul (aAnd (aShr z ((p : Nat) : Int)) 1) (σ 314 (10 * b + p))) np
theorem l_coinOf (X : AX) (z : Int) (np : Nat) (σ : AH) {b : Nat} (hb : σ 295 13 = (b : Int)) (hb2 : b < 2) (hnp : σ 307 b = (np : Int)) (hnp2 : np ≤ 10)  : ∀ (d n : Nat), n + d = np → TT X 89 (4, [(2, 295), (0, z), (0, (sumA (fun p => aMul (aAnd (aShr z ((p : Nat) : Int)) 1) (σ 314 (10 * b + p))) n)), (0, ((n : Nat) : Int))], [], σ) (fun r σ' => r = some (0, sumA (fun p => aMul (aAnd (aShr z ((p : Nat) : Int)) 1) (σ 314 (10 * b + p))) np) ∧ σ' = σ) := by
  intro d
  induction d with
  | zero =>
    intro n hn
    have hnn : n = np := by omega
    refine TT.steps (cd := cd89) 5 (c' := (9, [(2, 295), (0, z), (0, (sumA (fun p => aMul (aAnd (aShr z ((p : Nat) : Int)) 1) (σ 314 (10 * b + p))) n)), (0, ((n : Nat) : Int))], [(0, (σ 295 13)), (2, 307), (0, ((n : Nat) : Int))], σ)) rfl rfl ?_
    refine TT.top0 (z := ((b : Nat) : Int)) hb ?_
    refine TT.aldN (cd := cd89) (307) (b) rfl rfl rfl rfl (show b < 2 by omega) ?_
    refine TT.top0 (z := ((np : Nat) : Int)) hnp ?_
    refine TT.steps (cd := cd89) 1 (c' := ((if decide (((np : Nat) : Int) ≤ ((n : Nat) : Int)) = true then 25 else 11), [(2, 295), (0, z), (0, (sumA (fun p => aMul (aAnd (aShr z ((p : Nat) : Int)) 1) (σ 314 (10 * b + p))) n)), (0, ((n : Nat) : Int))], [], σ)) rfl rfl ?_
    refine TT.br (p := ((np : Nat) : Int) ≤ ((n : Nat) : Int)) (fun h1 => ?_) (fun h1 => absurd (show ((np : Nat) : Int) ≤ ((n : Nat) : Int) by omega) h1)
    refine TT.steps (cd := cd89) 1 (c' := (26, [(2, 295), (0, z), (0, (sumA (fun p => aMul (aAnd (aShr z ((p : Nat) : Int)) 1) (σ 314 (10 * b + p))) n)), (0, ((n : Nat) : Int))], [(0, (sumA (fun p => aMul (aAnd (aShr z ((p : Nat) : Int)) 1) (σ 314 (10 * b + p))) n))], σ)) rfl rfl ?_
    exact TT.ret (cd := cd89) rfl rfl rfl rfl (⟨by rw [hnn], rfl⟩)
  | succ d ih =>
    intro n hn
    refine TT.steps (cd := cd89) 5 (c' := (9, [(2, 295), (0, z), (0, (sumA (fun p => aMul (aAnd (aShr z ((p : Nat) : Int)) 1) (σ 314 (10 * b + p))) n)), (0, ((n : Nat) : Int))], [(0, (σ 295 13)), (2, 307), (0, ((n : Nat) : Int))], σ)) rfl rfl ?_
    refine TT.top0 (z := ((b : Nat) : Int)) hb ?_
    refine TT.aldN (cd := cd89) (307) (b) rfl rfl rfl rfl (show b < 2 by omega) ?_
    refine TT.top0 (z := ((np : Nat) : Int)) hnp ?_
    refine TT.steps (cd := cd89) 1 (c' := ((if decide (((np : Nat) : Int) ≤ ((n : Nat) : Int)) = true then 25 else 11), [(2, 295), (0, z), (0, (sumA (fun p => aMul (aAnd (aShr z ((p : Nat) : Int)) 1) (σ 314 (10 * b + p))) n)), (0, ((n : Nat) : Int))], [], σ)) rfl rfl ?_
    refine TT.br (p := ((np : Nat) : Int) ≤ ((n : Nat) : Int)) (fun h1 => absurd h1 (show ¬ (((np : Nat) : Int) ≤ ((n : Nat) : Int)) by omega)) (fun h1 => ?_)
    refine TT.steps (cd := cd89) 8 (c' := (19, [(2, 295), (0, z), (0, (sumA (fun p => aMul (aAnd (aShr z ((p : Nat) : Int)) 1) (σ 314 (10 * b + p))) n)), (0, ((n : Nat) : Int))], [(0, ((n : Nat) : Int)), (2, 295), (0, (aAnd (aShr z ((n : Nat) : Int)) 1)), (0, (sumA (fun p => aMul (aAnd (aShr z ((p : Nat) : Int)) 1) (σ 314 (10 * b + p))) n))], σ)) rfl rfl ?_
    refine TT.call (cd := cd89) rfl rfl rfl (by decide) rfl (t_priceOf X n (by omega) σ hb hb2) (fun r2 σ2 hq => ?_)
    rw [hq.1, hq.2]
    refine TT.steps (cd := cd89) 1 (c' := (21, [(2, 295), (0, z), (0, (sumA (fun p => aMul (aAnd (aShr z ((p : Nat) : Int)) 1) (σ 314 (10 * b + p))) n)), (0, ((n : Nat) : Int))], [(0, (aMul (aAnd (aShr z ((n : Nat) : Int)) 1) (σ 314 (10 * b + n)))), (0, (sumA (fun p => aMul (aAnd (aShr z ((p : Nat) : Int)) 1) (σ 314 (10 * b + p))) n))], σ)) rfl rfl ?_
    refine TT.steps (cd := cd89) 1 (c' := (22, [(2, 295), (0, z), (0, (sumA (fun p => aMul (aAnd (aShr z ((p : Nat) : Int)) 1) (σ 314 (10 * b + p))) n)), (0, ((n : Nat) : Int))], [(0, (aAdd (sumA (fun p => aMul (aAnd (aShr z ((p : Nat) : Int)) 1) (σ 314 (10 * b + p))) n) (aMul (aAnd (aShr z ((n : Nat) : Int)) 1) (σ 314 (10 * b + n)))))], σ)) rfl rfl ?_
    refine TT.steps (cd := cd89) 1 (c' := (23, [(2, 295), (0, z), (0, (aAdd (sumA (fun p => aMul (aAnd (aShr z ((p : Nat) : Int)) 1) (σ 314 (10 * b + p))) n) (aMul (aAnd (aShr z ((n : Nat) : Int)) 1) (σ 314 (10 * b + n))))), (0, ((n : Nat) : Int))], [], σ)) rfl rfl ?_
    refine TT.inc (cd := cd89) ((n + 1 : Nat) : Int) rfl rfl rfl rfl (fun h => absurd h.2 (show ¬ (0 = 1) by decide)) (aAdd_n (a := n) (b := 1) (by omega)) (ls' := [(2, 295), (0, z), (0, (aAdd (sumA (fun p => aMul (aAnd (aShr z ((p : Nat) : Int)) 1) (σ 314 (10 * b + p))) n) (aMul (aAnd (aShr z ((n : Nat) : Int)) 1) (σ 314 (10 * b + n))))), (0, ((n + 1 : Nat) : Int))]) rfl ?_
    refine TT.steps (cd := cd89) 1 (c' := (4, [(2, 295), (0, z), (0, (aAdd (sumA (fun p => aMul (aAnd (aShr z ((p : Nat) : Int)) 1) (σ 314 (10 * b + p))) n) (aMul (aAnd (aShr z ((n : Nat) : Int)) 1) (σ 314 (10 * b + n))))), (0, ((n + 1 : Nat) : Int))], [], σ)) rfl rfl ?_
    have := ih (n + 1) (by omega)
    simp only [sumA] at this
    first | (rw [if_pos (by omega)] at this; exact this) | (rw [if_neg (by omega)] at this; exact this) | exact this
theorem t_coinOf (X : AX) (z : Int) (np : Nat) (σ : AH) {b : Nat} (hb : σ 295 13 = (b : Int)) (hb2 : b < 2) (hnp : σ 307 b = (np : Int)) (hnp2 : np ≤ 10)  : TT X 89 (0, [(2, 295), (0, z), (9, 0), (9, 0)], [], σ) (fun r σ' => r = some (0, mCoin σ b np z) ∧ σ' = σ) := by
  refine TT.steps (cd := cd89) 4 (c' := (4, [(2, 295), (0, z), (0, 0), (0, 0)], [], σ)) rfl rfl ?_
  exact l_coinOf X z np σ hb hb2 hnp hnp2 np 0 (by omega)
/-- whether a set may be hired -/
abbrev mCanC (σ : AH) (b np : Nat) (z : Int) : Prop := 0 ≤ z ∧ z < aShl 1 ((np : Nat) : Int) ∧ anyN (fun p => decide (aAnd (aShr z ((p : Nat) : Int)) 1 = 1 ∧ σ 314 (10 * b + p) = 0)) np = false
theorem l_canHire (X : AX) (z : Int) (np : Nat) (σ : AH) {b : Nat} (hb : σ 295 13 = (b : Int)) (hb2 : b < 2) (hnp : σ 307 b = (np : Int)) (hnp2 : np ≤ 10) (hz : 0 ≤ z ∧ z < aShl 1 ((np : Nat) : Int)) : ∀ (d n : Nat), n + d = np → (∀ p, p < n → (fun p => decide (aAnd (aShr z ((p : Nat) : Int)) 1 = 1 ∧ σ 314 (10 * b + p) = 0)) p = false) → TT X 90 (15, [(2, 295), (0, z), (0, ((n : Nat) : Int))], [], σ) (fun r σ' => r = some (0, if mCanC σ b np z then 1 else 0) ∧ σ' = σ) := by
  intro d
  induction d with
  | zero =>
    intro n hn ha
    have hnn : n = np := by omega
    refine TT.steps (cd := cd90) 5 (c' := (20, [(2, 295), (0, z), (0, ((n : Nat) : Int))], [(0, (σ 295 13)), (2, 307), (0, ((n : Nat) : Int))], σ)) rfl rfl ?_
    refine TT.top0 (z := ((b : Nat) : Int)) hb ?_
    refine TT.aldN (cd := cd90) (307) (b) rfl rfl rfl rfl (show b < 2 by omega) ?_
    refine TT.top0 (z := ((np : Nat) : Int)) hnp ?_
    refine TT.steps (cd := cd90) 1 (c' := ((if decide (((np : Nat) : Int) ≤ ((n : Nat) : Int)) = true then 37 else 22), [(2, 295), (0, z), (0, ((n : Nat) : Int))], [], σ)) rfl rfl ?_
    refine TT.br (p := ((np : Nat) : Int) ≤ ((n : Nat) : Int)) (fun h1 => ?_) (fun h1 => absurd (show ((np : Nat) : Int) ≤ ((n : Nat) : Int) by omega) h1)
    refine TT.steps (cd := cd90) 1 (c' := (38, [(2, 295), (0, z), (0, ((n : Nat) : Int))], [(0, 1)], σ)) rfl rfl ?_
    exact TT.ret (cd := cd90) rfl rfl rfl rfl (⟨by rw [if_pos ⟨hz.1, hz.2, anyN_f (fun p hp => ha p (by omega))⟩], rfl⟩)
  | succ d ih =>
    intro n hn ha
    refine TT.steps (cd := cd90) 5 (c' := (20, [(2, 295), (0, z), (0, ((n : Nat) : Int))], [(0, (σ 295 13)), (2, 307), (0, ((n : Nat) : Int))], σ)) rfl rfl ?_
    refine TT.top0 (z := ((b : Nat) : Int)) hb ?_
    refine TT.aldN (cd := cd90) (307) (b) rfl rfl rfl rfl (show b < 2 by omega) ?_
    refine TT.top0 (z := ((np : Nat) : Int)) hnp ?_
    refine TT.steps (cd := cd90) 1 (c' := ((if decide (((np : Nat) : Int) ≤ ((n : Nat) : Int)) = true then 37 else 22), [(2, 295), (0, z), (0, ((n : Nat) : Int))], [], σ)) rfl rfl ?_
    refine TT.br (p := ((np : Nat) : Int) ≤ ((n : Nat) : Int)) (fun h1 => absurd h1 (show ¬ (((np : Nat) : Int) ≤ ((n : Nat) : Int)) by omega)) (fun h1 => ?_)
    refine TT.steps (cd := cd90) 7 (c' := ((if decide (¬ (aAnd (aShr z ((n : Nat) : Int)) 1) = 1) = true then 35 else 29), [(2, 295), (0, z), (0, ((n : Nat) : Int))], [], σ)) rfl rfl ?_
    refine TT.br (p := ¬ (aAnd (aShr z ((n : Nat) : Int)) 1) = 1) (fun h2 => ?_) (fun h2 => ?_)
    · refine TT.inc (cd := cd90) ((n + 1 : Nat) : Int) rfl rfl rfl rfl (fun h => absurd h.2 (show ¬ (0 = 1) by decide)) (aAdd_n (a := n) (b := 1) (by omega)) (ls' := [(2, 295), (0, z), (0, ((n + 1 : Nat) : Int))]) rfl ?_
      refine TT.steps (cd := cd90) 1 (c' := (15, [(2, 295), (0, z), (0, ((n + 1 : Nat) : Int))], [], σ)) rfl rfl ?_
      exact ih (n + 1) (by omega) (fun p hp => by rcases (show p < n ∨ p = n by omega) with h | rfl; exact ha p h; exact decide_eq_false (by omega))
    · refine TT.steps (cd := cd90) 2 (c' := (31, [(2, 295), (0, z), (0, ((n : Nat) : Int))], [(0, ((n : Nat) : Int)), (2, 295)], σ)) rfl rfl ?_
      refine TT.call (cd := cd90) rfl rfl rfl (by decide) rfl (t_priceOf X n (by omega) σ hb hb2) (fun r3 σ3 hq => ?_)
      rw [hq.1, hq.2]
      refine TT.steps (cd := cd90) 1 (c' := ((if decide (¬ (σ 314 (10 * b + n)) = 0) = true then 35 else 33), [(2, 295), (0, z), (0, ((n : Nat) : Int))], [], σ)) rfl rfl ?_
      refine TT.br (p := ¬ (σ 314 (10 * b + n)) = 0) (fun h4 => ?_) (fun h4 => ?_)
      · refine TT.inc (cd := cd90) ((n + 1 : Nat) : Int) rfl rfl rfl rfl (fun h => absurd h.2 (show ¬ (0 = 1) by decide)) (aAdd_n (a := n) (b := 1) (by omega)) (ls' := [(2, 295), (0, z), (0, ((n + 1 : Nat) : Int))]) rfl ?_
        refine TT.steps (cd := cd90) 1 (c' := (15, [(2, 295), (0, z), (0, ((n + 1 : Nat) : Int))], [], σ)) rfl rfl ?_
        exact ih (n + 1) (by omega) (fun p hp => by rcases (show p < n ∨ p = n by omega) with h | rfl; exact ha p h; exact decide_eq_false (by omega))
      · refine TT.steps (cd := cd90) 1 (c' := (34, [(2, 295), (0, z), (0, ((n : Nat) : Int))], [(0, 0)], σ)) rfl rfl ?_
        exact TT.ret (cd := cd90) rfl rfl rfl rfl (⟨by rw [if_neg (fun hc => by have h9 := hc.2.2; rw [anyN_t (p := n) (by omega) (decide_eq_true (by omega))] at h9; exact absurd h9 (by decide))], rfl⟩)
theorem t_canHire (X : AX) (z : Int) (np : Nat) (σ : AH) {b : Nat} (hb : σ 295 13 = (b : Int)) (hb2 : b < 2) (hnp : σ 307 b = (np : Int)) (hnp2 : np ≤ 10)  : TT X 90 (0, [(2, 295), (0, z), (9, 0)], [], σ) (fun r σ' => r = some (0, if mCanC σ b np z then 1 else 0) ∧ σ' = σ) := by
  refine TT.steps (cd := cd90) 2 (c' := ((if decide (z < 0) = true then 11 else 2), [(2, 295), (0, z), (9, 0)], [], σ)) rfl rfl ?_
  refine TT.br (p := z < 0) (fun h1 => ?_) (fun h1 => ?_)
  · refine TT.steps (cd := cd90) 1 (c' := (12, [(2, 295), (0, z), (9, 0)], [(0, 0)], σ)) rfl rfl ?_
    exact TT.ret (cd := cd90) rfl rfl rfl rfl (⟨by rw [if_neg (by omega)], rfl⟩)
  · refine TT.steps (cd := cd90) 6 (c' := (8, [(2, 295), (0, z), (9, 0)], [(0, (σ 295 13)), (2, 307), (0, 1), (0, z)], σ)) rfl rfl ?_
    refine TT.top0 (z := ((b : Nat) : Int)) hb ?_
    refine TT.aldN (cd := cd90) (307) (b) rfl rfl rfl rfl (show b < 2 by omega) ?_
    refine TT.top0 (z := ((np : Nat) : Int)) hnp ?_
    refine TT.steps (cd := cd90) 2 (c' := ((if decide (z < (aShl 1 ((np : Nat) : Int))) = true then 13 else 11), [(2, 295), (0, z), (9, 0)], [], σ)) rfl rfl ?_
    refine TT.br (p := z < (aShl 1 ((np : Nat) : Int))) (fun h2 => ?_) (fun h2 => ?_)
    · refine TT.steps (cd := cd90) 2 (c' := (15, [(2, 295), (0, z), (0, 0)], [], σ)) rfl rfl ?_
      exact l_canHire X z np σ hb hb2 hnp hnp2 (by omega) np 0 (by omega) (fun p hp => by omega)
    · refine TT.steps (cd := cd90) 1 (c' := (12, [(2, 295), (0, z), (9, 0)], [(0, 0)], σ)) rfl rfl ?_
      exact TT.ret (cd := cd90) rfl rfl rfl rfl (⟨by rw [if_neg (by omega)], rfl⟩)
/-- just these are hired in what is tried -/
def mHW (σ : AH) (z : Int) : Nat → AH
  | 0 => σ
  | n + 1 => up2 (mHW σ z n) 322 (10 + n) (aAnd (aShr z ((n : Nat) : Int)) 1)
theorem mHW_fr (σ : AH) (z : Int) (n c j : Nat) (h : c ≠ 322) : mHW σ z n c j = σ c j := by
  induction n with
  | zero => rfl
  | succ n ih => rw [mHW, up2_far _ _ _ _ h, ih]
def mDW (σ : AH) (b np nt : Nat) (L : Nat → Nat) (z : Int) : AH := mDay (mHW (cpN σ 1 0 10) z np) b 1 np nt L
theorem l_dayWith (X : AX) (Q : Option AV → AH → Prop) (z : Int) (np : Nat) (σ : AH) {b : Nat} (hb : σ 295 13 = (b : Int)) (hb2 : b < 2) (hnp : σ 307 b = (np : Int)) (hnp2 : np ≤ 10) (kk : ∀ x : AV, TT X 91 (26, [(2, 295), (0, z), x], [], mHW σ z np) Q) : ∀ (d n : Nat), n + d = np → TT X 91 (6, [(2, 295), (0, z), (0, ((n : Nat) : Int))], [], mHW σ z n) Q := by
  intro d
  induction d with
  | zero =>
    intro n hn
    have hnn : n = np := by omega
    refine TT.steps (cd := cd91) 5 (c' := (11, [(2, 295), (0, z), (0, ((n : Nat) : Int))], [(0, ((mHW σ z n) 295 13)), (2, 307), (0, ((n : Nat) : Int))], (mHW σ z n))) rfl rfl ?_
    refine TT.top0 (z := ((b : Nat) : Int)) ((mHW_fr _ _ _ 295 (13) (by decide)).trans hb) ?_
    refine TT.aldN (cd := cd91) (307) (b) rfl rfl rfl rfl (show b < 2 by omega) ?_
    refine TT.top0 (z := ((np : Nat) : Int)) ((mHW_fr _ _ _ 307 (b) (by decide)).trans hnp) ?_
    refine TT.steps (cd := cd91) 1 (c' := ((if decide (((np : Nat) : Int) ≤ ((n : Nat) : Int)) = true then 26 else 13), [(2, 295), (0, z), (0, ((n : Nat) : Int))], [], (mHW σ z n))) rfl rfl ?_
    refine TT.br (p := ((np : Nat) : Int) ≤ ((n : Nat) : Int)) (fun h1 => ?_) (fun h1 => absurd (show ((np : Nat) : Int) ≤ ((n : Nat) : Int) by omega) h1)
    subst hnn
    exact kk _
  | succ d ih =>
    intro n hn
    refine TT.steps (cd := cd91) 5 (c' := (11, [(2, 295), (0, z), (0, ((n : Nat) : Int))], [(0, ((mHW σ z n) 295 13)), (2, 307), (0, ((n : Nat) : Int))], (mHW σ z n))) rfl rfl ?_
    refine TT.top0 (z := ((b : Nat) : Int)) ((mHW_fr _ _ _ 295 (13) (by decide)).trans hb) ?_
    refine TT.aldN (cd := cd91) (307) (b) rfl rfl rfl rfl (show b < 2 by omega) ?_
    refine TT.top0 (z := ((np : Nat) : Int)) ((mHW_fr _ _ _ 307 (b) (by decide)).trans hnp) ?_
    refine TT.steps (cd := cd91) 1 (c' := ((if decide (((np : Nat) : Int) ≤ ((n : Nat) : Int)) = true then 26 else 13), [(2, 295), (0, z), (0, ((n : Nat) : Int))], [], (mHW σ z n))) rfl rfl ?_
    refine TT.br (p := ((np : Nat) : Int) ≤ ((n : Nat) : Int)) (fun h1 => absurd h1 (show ¬ (((np : Nat) : Int) ≤ ((n : Nat) : Int)) by omega)) (fun h1 => ?_)
    refine TT.steps (cd := cd91) 5 (c' := (18, [(2, 295), (0, z), (0, ((n : Nat) : Int))], [(0, (aAdd 10 ((n : Nat) : Int))), (2, 322)], (mHW σ z n))) rfl rfl ?_
    refine TT.top0 (z := ((10 + n : Nat) : Int)) (aAdd_n (a := 10) (b := n) (by omega)) ?_
    refine TT.steps (cd := cd91) 5 (c' := (23, [(2, 295), (0, z), (0, ((n : Nat) : Int))], [(0, (aAnd (aShr z ((n : Nat) : Int)) 1)), (0, ((10 + n : Nat) : Int)), (2, 322)], (mHW σ z n))) rfl rfl ?_
    refine TT.astN (cd := cd91) (322) (10 + n) rfl rfl rfl rfl (show 10 + n < 220 by omega) ?_
    refine TT.inc (cd := cd91) ((n + 1 : Nat) : Int) rfl rfl rfl rfl (fun h => absurd h.2 (show ¬ (0 = 1) by decide)) (aAdd_n (a := n) (b := 1) (by omega)) (ls' := [(2, 295), (0, z), (0, ((n + 1 : Nat) : Int))]) rfl ?_
    refine TT.steps (cd := cd91) 1 (c' := (6, [(2, 295), (0, z), (0, ((n + 1 : Nat) : Int))], [], (up2 (mHW σ z n) 322 (10 + n) (aAnd (aShr z ((n : Nat) : Int)) 1)))) rfl rfl ?_
    exact ih (n + 1) (by omega)
theorem t_dayWith (X : AX) (z : Int) (np nt : Nat) (L : Nat → Nat) (σ : AH) {b : Nat} (hb : σ 295 13 = (b : Int)) (hb2 : b < 2) (hnp : σ 307 b = (np : Int)) (hnp2 : np ≤ 10) (hnt : σ 300 b = (nt : Int)) (hnt2 : nt ≤ 6) (hL : ∀ t, t < nt → σ 304 (6 * b + t) = (L t : Int) ∧ 2 ≤ L t ∧ L t ≤ 8)  : TT X 91 (0, [(2, 295), (0, z), (9, 0)], [], σ) (fun r σ' => r = none ∧ σ' = mDW σ b np nt L z) := by
  refine TT.steps (cd := cd91) 3 (c' := (3, [(2, 295), (0, z), (9, 0)], [(0, 0), (0, 1), (2, 295)], σ)) rfl rfl ?_
  refine TT.call (cd := cd91) rfl rfl rfl (by decide) rfl (t_copies X 1 0 (by omega) (by omega) σ) (fun r1 σ1 hq => ?_)
  rw [hq.1, hq.2]
  refine TT.steps (cd := cd91) 2 (c' := (6, [(2, 295), (0, z), (0, 0)], [], (cpN σ 1 0 10))) rfl rfl ?_
  refine l_dayWith X _ z np (cpN σ 1 0 10) ((cpN_fr _ _ _ _ 295 (13) (by decide)).trans hb) hb2 ((cpN_fr _ _ _ _ 307 (b) (by decide)).trans hnp) hnp2 (fun x => ?_) np 0 (by omega)
  refine TT.steps (cd := cd91) 2 (c' := (28, [(2, 295), (0, z), x], [(0, 1), (2, 295)], (mHW (cpN σ 1 0 10) z np))) rfl rfl ?_
  refine TT.call (cd := cd91) rfl rfl rfl (by decide) rfl (t_dayOf X np nt L (mHW (cpN σ 1 0 10) z np) (v := 1) (((mHW_fr _ _ _ 295 (13) (by decide)).trans (cpN_fr _ _ _ _ 295 (13) (by decide))).trans hb) hb2 (by omega) (((mHW_fr _ _ _ 307 (b) (by decide)).trans (cpN_fr _ _ _ _ 307 (b) (by decide))).trans hnp) hnp2 (((mHW_fr _ _ _ 300 (b) (by decide)).trans (cpN_fr _ _ _ _ 300 (b) (by decide))).trans hnt) hnt2 (fun t ht => ⟨(show ∀ j, (mHW (cpN σ 1 0 10) z np) 304 j = σ 304 j from fun j => ((mHW_fr _ _ _ 304 (j) (by decide)).trans (cpN_fr _ _ _ _ 304 (j) (by decide)))) _ |>.trans (hL t ht).1, (hL t ht).2⟩)) (fun r2 σ2 hq => ?_)
  rw [hq.1, hq.2]
  exact TT.ret (cd := cd91) rfl rfl rfl rfl (⟨rfl, rfl⟩)
theorem t_worth0 (X : AX) (p : Int) (np nt : Nat) (L : Nat → Nat) (σ : AH) {b : Nat} (hb : σ 295 13 = (b : Int)) (hb2 : b < 2) (hnp : σ 307 b = (np : Int)) (hnp2 : np ≤ 10) (hnt : σ 300 b = (nt : Int)) (hnt2 : nt ≤ 6) (hL : ∀ t, t < nt → σ 304 (6 * b + t) = (L t : Int) ∧ 2 ≤ L t ∧ L t ≤ 8) (hp : ¬ (0 ≤ p ∧ p < (np : Int)))  : TT X 98 (0, [(2, 295), (0, p), (9, 0), (9, 0)], [], σ) (fun r σ' => r = some (0, -1) ∧ σ' = σ) := by
  refine TT.steps (cd := cd98) 2 (c' := (2, [(2, 295), (0, p), (9, 0), (9, 0)], [(0, p), (2, 295)], σ)) rfl rfl ?_
  refine TT.call (cd := cd98) rfl rfl rfl (by decide) rfl (t_isPerson X p σ hb hb2) (fun r1 σ1 hq => ?_)
  rw [hq.1, hq.2, hnp]
  refine TT.steps (cd := cd98) 1 (c' := ((if decide (¬ ((if 0 ≤ p ∧ p < (np : Int) then 1 else 0) : Int) = 0) = true then 6 else 4), [(2, 295), (0, p), (9, 0), (9, 0)], [], σ)) rfl rfl ?_
  refine TT.br (p := ¬ ((if 0 ≤ p ∧ p < (np : Int) then 1 else 0) : Int) = 0) (fun h2 => ?_) (fun h2 => ?_)
  · replace h2 := ite_t h2
    exact absurd (by assumption) hp
  · replace h2 := ite_f (Decidable.not_not.mp h2)
    refine TT.steps (cd := cd98) 1 (c' := (5, [(2, 295), (0, p), (9, 0), (9, 0)], [(0, -1)], σ)) rfl rfl ?_
    exact TT.ret (cd := cd98) rfl rfl rfl rfl (⟨rfl, rfl⟩)
theorem t_worth1 (X : AX) (p : Nat) (np nt : Nat) (L : Nat → Nat) (σ : AH) {b : Nat} (hb : σ 295 13 = (b : Int)) (hb2 : b < 2) (hnp : σ 307 b = (np : Int)) (hnp2 : np ≤ 10) (hnt : σ 300 b = (nt : Int)) (hnt2 : nt ≤ 6) (hL : ∀ t, t < nt → σ 304 (6 * b + t) = (L t : Int) ∧ 2 ≤ L t ∧ L t ≤ 8) (hp : p < np)  : TT X 98 (0, [(2, 295), (0, ((p : Nat) : Int)), (9, 0), (9, 0)], [], σ) (fun r σ' => r = some (0, aSub (aAdd 100 (mGood (mDay σ b 0 np nt L) 0 np)) (mGood (mDay (up2 (mDay σ b 0 np nt L) 295 44 ((p : Nat) : Int)) b 0 np nt L) 0 np)) ∧ σ' = up2 (mDay (up2 (mDay σ b 0 np nt L) 295 44 ((p : Nat) : Int)) b 0 np nt L) 295 44 (-1)) := by
  refine TT.steps (cd := cd98) 2 (c' := (2, [(2, 295), (0, ((p : Nat) : Int)), (9, 0), (9, 0)], [(0, ((p : Nat) : Int)), (2, 295)], σ)) rfl rfl ?_
  refine TT.call (cd := cd98) rfl rfl rfl (by decide) rfl (t_isPerson X ((p : Nat) : Int) σ hb hb2) (fun r1 σ1 hq => ?_)
  rw [hq.1, hq.2, hnp]
  refine TT.steps (cd := cd98) 1 (c' := ((if decide (¬ ((if 0 ≤ ((p : Nat) : Int) ∧ ((p : Nat) : Int) < (np : Int) then 1 else 0) : Int) = 0) = true then 6 else 4), [(2, 295), (0, ((p : Nat) : Int)), (9, 0), (9, 0)], [], σ)) rfl rfl ?_
  refine TT.br (p := ¬ ((if 0 ≤ ((p : Nat) : Int) ∧ ((p : Nat) : Int) < (np : Int) then 1 else 0) : Int) = 0) (fun h2 => ?_) (fun h2 => absurd (show ¬ ((if 0 ≤ ((p : Nat) : Int) ∧ ((p : Nat) : Int) < (np : Int) then 1 else 0) : Int) = 0 by (rw [if_pos ⟨by omega, by omega⟩]; decide)) h2)
  refine TT.steps (cd := cd98) 2 (c' := (8, [(2, 295), (0, ((p : Nat) : Int)), (9, 0), (9, 0)], [(0, 0), (2, 295)], σ)) rfl rfl ?_
  refine TT.call (cd := cd98) rfl rfl rfl (by decide) rfl (t_goodOf X np nt L σ (v := 0) hb hb2 (by omega) hnp hnp2 hnt hnt2 hL) (fun r3 σ3 hq => ?_)
  rw [hq.1, hq.2]
  refine TT.steps (cd := cd98) 6 (c' := (15, [(2, 295), (0, ((p : Nat) : Int)), (0, (mGood (mDay σ b 0 np nt L) 0 np)), (9, 0)], [(0, 0), (2, 295)], (up2 (mDay σ b 0 np nt L) 295 44 ((p : Nat) : Int)))) rfl rfl ?_
  refine TT.call (cd := cd98) rfl rfl rfl (by decide) rfl (t_goodOf X np nt L (up2 (mDay σ b 0 np nt L) 295 44 ((p : Nat) : Int)) (v := 0) (((up2_by _ _ (j := 44) (j' := 13) _ (by decide)).trans (mDay_M _ _ _ _ _ _ (13) (by decide))).trans hb) hb2 (by omega) (((up2_far (k := 295) (k' := 307) _ _ _ _ (by decide)).trans (mDay_fr _ _ _ _ _ _ 307 (b) (by decide))).trans hnp) hnp2 (((up2_far (k := 295) (k' := 300) _ _ _ _ (by decide)).trans (mDay_fr _ _ _ _ _ _ 300 (b) (by decide))).trans hnt) hnt2 (fun t ht => ⟨(show ∀ j, (up2 (mDay σ b 0 np nt L) 295 44 ((p : Nat) : Int)) 304 j = σ 304 j from fun j => ((up2_far (k := 295) (k' := 304) _ _ _ _ (by decide)).trans (mDay_fr _ _ _ _ _ _ 304 (j) (by decide)))) _ |>.trans (hL t ht).1, (hL t ht).2⟩)) (fun r4 σ4 hq => ?_)
  rw [hq.1, hq.2]
  refine TT.steps (cd := cd98) 7 (c' := (23, [(2, 295), (0, ((p : Nat) : Int)), (0, (mGood (mDay σ b 0 np nt L) 0 np)), (0, (mGood (mDay (up2 (mDay σ b 0 np nt L) 295 44 ((p : Nat) : Int)) b 0 np nt L) 0 np))], [(0, (aAdd 100 (mGood (mDay σ b 0 np nt L) 0 np)))], (up2 (mDay (up2 (mDay σ b 0 np nt L) 295 44 ((p : Nat) : Int)) b 0 np nt L) 295 44 (-1)))) rfl rfl ?_
  refine TT.steps (cd := cd98) 2 (c' := (25, [(2, 295), (0, ((p : Nat) : Int)), (0, (mGood (mDay σ b 0 np nt L) 0 np)), (0, (mGood (mDay (up2 (mDay σ b 0 np nt L) 295 44 ((p : Nat) : Int)) b 0 np nt L) 0 np))], [(0, (aSub (aAdd 100 (mGood (mDay σ b 0 np nt L) 0 np)) (mGood (mDay (up2 (mDay σ b 0 np nt L) 295 44 ((p : Nat) : Int)) b 0 np nt L) 0 np)))], (up2 (mDay (up2 (mDay σ b 0 np nt L) 295 44 ((p : Nat) : Int)) b 0 np nt L) 295 44 (-1)))) rfl rfl ?_
  exact TT.ret (cd := cd98) rfl rfl rfl rfl (⟨rfl, rfl⟩)
theorem t_stay0 (X : AX) (p : Int) (np nt : Nat) (L : Nat → Nat) (σ : AH) {b : Nat} (hb : σ 295 13 = (b : Int)) (hb2 : b < 2) (hnp : σ 307 b = (np : Int)) (hnp2 : np ≤ 10) (hnt : σ 300 b = (nt : Int)) (hnt2 : nt ≤ 6) (hL : ∀ t, t < nt → σ 304 (6 * b + t) = (L t : Int) ∧ 2 ≤ L t ∧ L t ≤ 8) (hp : ¬ (0 ≤ p ∧ p < (np : Int)))  : TT X 100 (0, [(2, 295), (0, p), (9, 0)], [], σ) (fun r σ' => r = some (0, -1) ∧ σ' = σ) := by
  refine TT.steps (cd := cd100) 2 (c' := (2, [(2, 295), (0, p), (9, 0)], [(0, p), (2, 295)], σ)) rfl rfl ?_
  refine TT.call (cd := cd100) rfl rfl rfl (by decide) rfl (t_isPerson X p σ hb hb2) (fun r1 σ1 hq => ?_)
  rw [hq.1, hq.2, hnp]
  refine TT.steps (cd := cd100) 1 (c' := ((if decide (¬ ((if 0 ≤ p ∧ p < (np : Int) then 1 else 0) : Int) = 0) = true then 6 else 4), [(2, 295), (0, p), (9, 0)], [], σ)) rfl rfl ?_
  refine TT.br (p := ¬ ((if 0 ≤ p ∧ p < (np : Int) then 1 else 0) : Int) = 0) (fun h2 => ?_) (fun h2 => ?_)
  · replace h2 := ite_t h2
    exact absurd (by assumption) hp
  · replace h2 := ite_f (Decidable.not_not.mp h2)
    refine TT.steps (cd := cd100) 1 (c' := (5, [(2, 295), (0, p), (9, 0)], [(0, -1)], σ)) rfl rfl ?_
    exact TT.ret (cd := cd100) rfl rfl rfl rfl (⟨rfl, rfl⟩)
theorem t_stay1 (X : AX) (p : Nat) (np nt : Nat) (L : Nat → Nat) (σ : AH) {b : Nat} (hb : σ 295 13 = (b : Int)) (hb2 : b < 2) (hnp : σ 307 b = (np : Int)) (hnp2 : np ≤ 10) (hnt : σ 300 b = (nt : Int)) (hnt2 : nt ≤ 6) (hL : ∀ t, t < nt → σ 304 (6 * b + t) = (L t : Int) ∧ 2 ≤ L t ∧ L t ≤ 8) (hp : p < np)  : TT X 100 (0, [(2, 295), (0, ((p : Nat) : Int)), (9, 0)], [], σ) (fun r σ' => r = some (0, mGood (mDay (up2 σ 295 45 ((p : Nat) : Int)) b 0 np nt L) 0 np) ∧ σ' = up2 (mDay (up2 σ 295 45 ((p : Nat) : Int)) b 0 np nt L) 295 45 (-1)) := by
  refine TT.steps (cd := cd100) 2 (c' := (2, [(2, 295), (0, ((p : Nat) : Int)), (9, 0)], [(0, ((p : Nat) : Int)), (2, 295)], σ)) rfl rfl ?_
  refine TT.call (cd := cd100) rfl rfl rfl (by decide) rfl (t_isPerson X ((p : Nat) : Int) σ hb hb2) (fun r1 σ1 hq => ?_)
  rw [hq.1, hq.2, hnp]
  refine TT.steps (cd := cd100) 1 (c' := ((if decide (¬ ((if 0 ≤ ((p : Nat) : Int) ∧ ((p : Nat) : Int) < (np : Int) then 1 else 0) : Int) = 0) = true then 6 else 4), [(2, 295), (0, ((p : Nat) : Int)), (9, 0)], [], σ)) rfl rfl ?_
  refine TT.br (p := ¬ ((if 0 ≤ ((p : Nat) : Int) ∧ ((p : Nat) : Int) < (np : Int) then 1 else 0) : Int) = 0) (fun h2 => ?_) (fun h2 => absurd (show ¬ ((if 0 ≤ ((p : Nat) : Int) ∧ ((p : Nat) : Int) < (np : Int) then 1 else 0) : Int) = 0 by (rw [if_pos ⟨by omega, by omega⟩]; decide)) h2)
  refine TT.steps (cd := cd100) 5 (c' := (11, [(2, 295), (0, ((p : Nat) : Int)), (9, 0)], [(0, 0), (2, 295)], (up2 σ 295 45 ((p : Nat) : Int)))) rfl rfl ?_
  refine TT.call (cd := cd100) rfl rfl rfl (by decide) rfl (t_goodOf X np nt L (up2 σ 295 45 ((p : Nat) : Int)) (v := 0) ((up2_by _ _ (j := 45) (j' := 13) _ (by decide)).trans hb) hb2 (by omega) ((up2_far (k := 295) (k' := 307) _ _ _ _ (by decide)).trans hnp) hnp2 ((up2_far (k := 295) (k' := 300) _ _ _ _ (by decide)).trans hnt) hnt2 (fun t ht => ⟨(show ∀ j, (up2 σ 295 45 ((p : Nat) : Int)) 304 j = σ 304 j from fun j => (up2_far (k := 295) (k' := 304) _ _ _ _ (by decide))) _ |>.trans (hL t ht).1, (hL t ht).2⟩)) (fun r3 σ3 hq => ?_)
  rw [hq.1, hq.2]
  refine TT.steps (cd := cd100) 5 (c' := (17, [(2, 295), (0, ((p : Nat) : Int)), (0, (mGood (mDay (up2 σ 295 45 ((p : Nat) : Int)) b 0 np nt L) 0 np))], [(0, (mGood (mDay (up2 σ 295 45 ((p : Nat) : Int)) b 0 np nt L) 0 np))], (up2 (mDay (up2 σ 295 45 ((p : Nat) : Int)) b 0 np nt L) 295 45 (-1)))) rfl rfl ?_
  exact TT.ret (cd := cd100) rfl rfl rfl rfl (⟨rfl, rfl⟩)
