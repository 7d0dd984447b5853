def mBr (σ : AH) (b np nt : Nat) (L : Nat → Nat) (p : Nat) (s : Int) : AH := mDay (up2 (up2 (cpN σ 1 0 10) 318 (10 + p) s) 319 (10 + p) (-1)) b 1 np nt L
theorem mBr_fr (σ : AH) (b np nt : Nat) (L : Nat → Nat) (p : Nat) (s : Int) (c j : Nat) (h : c ≠ 295 ∧ (c < 316 ∨ 337 < c)) : mBr σ b np nt L p s c j = σ c j := by
  unfold mBr
  rw [mDay_fr _ _ _ _ _ _ _ _ (by omega), up2_far _ _ _ _ (by omega), up2_far _ _ _ _ (by omega), cpN_fr _ _ _ _ _ _ (by omega)]
theorem mBr_M (σ : AH) (b np nt : Nat) (L : Nat → Nat) (p : Nat) (s : Int) (j : Nat) (h : j ≠ 46) : mBr σ b np nt L p s 295 j = σ 295 j := by
  unfold mBr
  rw [mDay_M _ _ _ _ _ _ _ h, up2_far _ _ _ _ (by decide), up2_far _ _ _ _ (by decide), cpN_fr _ _ _ _ _ _ (by decide)]
def stBe (b np nt : Nat) (L : Nat → Nat) (p : Nat) (n : Nat) (S : Int × Int × AH) : Int × Int × AH :=
  if S.2.1 < mGood (mDay (up2 (up2 (cpN S.2.2 1 0 10) 318 (10 + p) ((n : Nat) : Int)) 319 (10 + p) (-1)) b 1 np nt L) 1 np then (((n : Nat) : Int), mGood (mDay (up2 (up2 (cpN S.2.2 1 0 10) 318 (10 + p) ((n : Nat) : Int)) 319 (10 + p) (-1)) b 1 np nt L) 1 np, mDay (up2 (up2 (cpN S.2.2 1 0 10) 318 (10 + p) ((n : Nat) : Int)) 319 (10 + p) (-1)) b 1 np nt L) else (S.1, S.2.1, mDay (up2 (up2 (cpN S.2.2 1 0 10) 318 (10 + p) ((n : Nat) : Int)) 319 (10 + p) (-1)) b 1 np nt L)
def mBe (σ : AH) (b np nt : Nat) (L : Nat → Nat) (p : Nat) : Nat → Int × Int × AH
  | 0 => (-1, -1, σ)
  | n + 1 => stBe b np nt L p n (mBe σ b np nt L p n)
theorem stBe_fr (b np nt : Nat) (L : Nat → Nat) (p : Nat) (n : Nat) (S : Int × Int × AH) (c j : Nat) (h : c ≠ 295 ∧ (c < 316 ∨ 337 < c)) : (stBe b np nt L p n S).2.2 c j = S.2.2 c j := by
    unfold stBe
    repeat' split
    all_goals first | rfl | exact mBr_fr _ _ _ _ _ p _ _ _ h
theorem stBe_M (b np nt : Nat) (L : Nat → Nat) (p : Nat) (n : Nat) (S : Int × Int × AH) (j : Nat) (h : j ≠ 46) : (stBe b np nt L p n S).2.2 295 j = S.2.2 295 j := by
    unfold stBe
    repeat' split
    all_goals first | rfl | exact mBr_M _ _ _ _ _ p _ _ h
theorem mBe_fr (σ : AH) (b np nt : Nat) (L : Nat → Nat) (p : Nat) (n c j : Nat) (h : c ≠ 295 ∧ (c < 316 ∨ 337 < c)) : (mBe σ b np nt L p n).2.2 c j = σ c j := by
  induction n with
  | zero => rfl
  | succ n ih => rw [mBe, stBe_fr _ _ _ _ _ _ _ _ _ h, ih]
theorem mBe_M (σ : AH) (b np nt : Nat) (L : Nat → Nat) (p : Nat) (n j : Nat) (h : j ≠ 46) : (mBe σ b np nt L p n).2.2 295 j = σ 295 j := by
  induction n with
  | zero => rfl
  | succ n ih => rw [mBe, stBe_M _ _ _ _ _ _ _ _ h, ih]
theorem l_Be (X : AX) (Q : Option AV → AH → Prop) (p : Nat) (np nt : Nat) (L : Nat → Nat) (σ : AH) {b : Nat} (hb : σ 295 13 = (b : Int)) (hb2 : b < 2) (hnp : σ 307 b = (np : Int)) (hnp2 : np ≤ 10) (hnt : σ 300 b = (nt : Int)) (hnt2 : nt ≤ 6) (hL : ∀ t, t < nt → σ 304 (6 * b + t) = (L t : Int) ∧ 2 ≤ L t ∧ L t ≤ 8) (ns : Nat) (hns : σ 297 b = (ns : Int)) (hns2 : ns ≤ 14) (w : Int) (hp : p < np) (x0 : AV) (kk : ∀ x y : AV, TT X 99 (56, [(2, 295), (0, ((p : Nat) : Int)), (0, w), (0, (mBe σ b np nt L p (ns)).1), (0, (mBe σ b np nt L p (ns)).2.1), x, y], [], (mBe σ b np nt L p (ns)).2.2) Q) : ∀ (d n : Nat), n + d = ns → ∀ y : AV, TT X 99 (17, [(2, 295), (0, ((p : Nat) : Int)), (0, w), (0, (mBe σ b np nt L p n).1), (0, (mBe σ b np nt L p n).2.1), (0, ((n : Nat) : Int)), y], [], (mBe σ b np nt L p n).2.2) Q := by
  intro d
  induction d with
  | zero =>
    intro n hn y
    have hnn : n = ns := by omega
    have hfr := fun c j h => mBe_fr σ b np nt L p n c j h
    have hfM := fun j h => mBe_M σ b np nt L p n j h
    rw [← hnn] at kk
    obtain ⟨⟨s0, s1, τ⟩, hS⟩ : ∃ S, mBe σ b np nt L p n = S := ⟨_, rfl⟩
    rw [hS] at hfr hfM ⊢
    rw [hS] at kk
    dsimp only at hfr hfM ⊢ kk
    refine TT.steps (cd := cd99) 5 (c' := (22, [(2, 295), (0, ((p : Nat) : Int)), (0, w), (0, s0), (0, s1), (0, ((n : Nat) : Int)), y], [(0, (τ 295 13)), (2, 297), (0, ((n : Nat) : Int))], τ)) rfl rfl ?_
    refine TT.top0 (z := ((b : Nat) : Int)) ((hfM (13) (by decide)).trans hb) ?_
    refine TT.aldN (cd := cd99) (297) (b) rfl rfl rfl rfl (show b < 2 by omega) ?_
    refine TT.top0 (z := ((ns : Nat) : Int)) ((hfr 297 (b) (by decide)).trans hns) ?_
    refine TT.steps (cd := cd99) 1 (c' := ((if decide (((ns : Nat) : Int) ≤ ((n : Nat) : Int)) = true then 56 else 24), [(2, 295), (0, ((p : Nat) : Int)), (0, w), (0, s0), (0, s1), (0, ((n : Nat) : Int)), y], [], τ)) rfl rfl ?_
    refine TT.br (p := ((ns : Nat) : Int) ≤ ((n : Nat) : Int)) (fun h1 => ?_) (fun h1 => absurd (show ((ns : Nat) : Int) ≤ ((n : Nat) : Int) by omega) h1)
    exact kk _ y
  | succ d ih =>
    intro n hn y
    have hfr := fun c j h => mBe_fr σ b np nt L p n c j h
    have hfM := fun j h => mBe_M σ b np nt L p n j h
    obtain ⟨⟨s0, s1, τ⟩, hS⟩ : ∃ S, mBe σ b np nt L p n = S := ⟨_, rfl⟩
    rw [hS] at hfr hfM ⊢
    dsimp only at hfr hfM ⊢
    refine TT.steps (cd := cd99) 5 (c' := (22, [(2, 295), (0, ((p : Nat) : Int)), (0, w), (0, s0), (0, s1), (0, ((n : Nat) : Int)), y], [(0, (τ 295 13)), (2, 297), (0, ((n : Nat) : Int))], τ)) rfl rfl ?_
    refine TT.top0 (z := ((b : Nat) : Int)) ((hfM (13) (by decide)).trans hb) ?_
    refine TT.aldN (cd := cd99) (297) (b) rfl rfl rfl rfl (show b < 2 by omega) ?_
    refine TT.top0 (z := ((ns : Nat) : Int)) ((hfr 297 (b) (by decide)).trans hns) ?_
    refine TT.steps (cd := cd99) 1 (c' := ((if decide (((ns : Nat) : Int) ≤ ((n : Nat) : Int)) = true then 56 else 24), [(2, 295), (0, ((p : Nat) : Int)), (0, w), (0, s0), (0, s1), (0, ((n : Nat) : Int)), y], [], τ)) rfl rfl ?_
    refine TT.br (p := ((ns : Nat) : Int) ≤ ((n : Nat) : Int)) (fun h1 => absurd h1 (show ¬ (((ns : Nat) : Int) ≤ ((n : Nat) : Int)) by omega)) (fun h1 => ?_)
    refine TT.steps (cd := cd99) 3 (c' := (27, [(2, 295), (0, ((p : Nat) : Int)), (0, w), (0, s0), (0, s1), (0, ((n : Nat) : Int)), y], [(0, 0), (0, 1), (2, 295)], τ)) rfl rfl ?_
    refine TT.call (cd := cd99) rfl rfl rfl (by decide) rfl (t_copies X 1 0 (by omega) (by omega) τ) (fun r2 σ2 hq => ?_)
    rw [hq.1, hq.2]
    refine TT.steps (cd := cd99) 5 (c' := (33, [(2, 295), (0, ((p : Nat) : Int)), (0, w), (0, s0), (0, s1), (0, ((n : Nat) : Int)), y], [(0, (aAdd 10 ((p : Nat) : Int))), (2, 318)], (cpN τ 1 0 10))) rfl rfl ?_
    refine TT.top0 (z := ((10 + p : Nat) : Int)) (aAdd_n (a := 10) (b := p) (by omega)) ?_
    refine TT.steps (cd := cd99) 1 (c' := (34, [(2, 295), (0, ((p : Nat) : Int)), (0, w), (0, s0), (0, s1), (0, ((n : Nat) : Int)), y], [(0, ((n : Nat) : Int)), (0, ((10 + p : Nat) : Int)), (2, 318)], (cpN τ 1 0 10))) rfl rfl ?_
    refine TT.astN (cd := cd99) (318) (10 + p) rfl rfl rfl rfl (show 10 + p < 220 by omega) ?_
    refine TT.steps (cd := cd99) 5 (c' := (40, [(2, 295), (0, ((p : Nat) : Int)), (0, w), (0, s0), (0, s1), (0, ((n : Nat) : Int)), y], [(0, (aAdd 10 ((p : Nat) : Int))), (2, 319)], (up2 (cpN τ 1 0 10) 318 (10 + p) ((n : Nat) : Int)))) rfl rfl ?_
    refine TT.top0 (z := ((10 + p : Nat) : Int)) (aAdd_n (a := 10) (b := p) (by omega)) ?_
    refine TT.steps (cd := cd99) 1 (c' := (41, [(2, 295), (0, ((p : Nat) : Int)), (0, w), (0, s0), (0, s1), (0, ((n : Nat) : Int)), y], [(0, -1), (0, ((10 + p : Nat) : Int)), (2, 319)], (up2 (cpN τ 1 0 10) 318 (10 + p) ((n : Nat) : Int)))) rfl rfl ?_
    refine TT.astN (cd := cd99) (319) (10 + p) rfl rfl rfl rfl (show 10 + p < 220 by omega) ?_
    refine TT.steps (cd := cd99) 2 (c' := (44, [(2, 295), (0, ((p : Nat) : Int)), (0, w), (0, s0), (0, s1), (0, ((n : Nat) : Int)), y], [(0, 1), (2, 295)], (up2 (up2 (cpN τ 1 0 10) 318 (10 + p) ((n : Nat) : Int)) 319 (10 + p) (-1)))) rfl rfl ?_
    refine TT.call (cd := cd99) rfl rfl rfl (by decide) rfl (t_goodOf X np nt L (up2 (up2 (cpN τ 1 0 10) 318 (10 + p) ((n : Nat) : Int)) 319 (10 + p) (-1)) (v := 1) (((((up2_far (k := 319) (k' := 295) _ _ _ _ (by decide)).trans (up2_far (k := 318) (k' := 295) _ _ _ _ (by decide))).trans (cpN_fr _ _ _ _ 295 (13) (by decide))).trans (hfM (13) (by decide))).trans hb) hb2 (by omega) (((((up2_far (k := 319) (k' := 307) _ _ _ _ (by decide)).trans (up2_far (k := 318) (k' := 307) _ _ _ _ (by decide))).trans (cpN_fr _ _ _ _ 307 (b) (by decide))).trans (hfr 307 (b) (by decide))).trans hnp) hnp2 (((((up2_far (k := 319) (k' := 300) _ _ _ _ (by decide)).trans (up2_far (k := 318) (k' := 300) _ _ _ _ (by decide))).trans (cpN_fr _ _ _ _ 300 (b) (by decide))).trans (hfr 300 (b) (by decide))).trans hnt) hnt2 (fun t ht => ⟨(show ∀ j, (up2 (up2 (cpN τ 1 0 10) 318 (10 + p) ((n : Nat) : Int)) 319 (10 + p) (-1)) 304 j = σ 304 j from fun j => ((((up2_far (k := 319) (k' := 304) _ _ _ _ (by decide)).trans (up2_far (k := 318) (k' := 304) _ _ _ _ (by decide))).trans (cpN_fr _ _ _ _ 304 (j) (by decide))).trans (hfr 304 (j) (by decide)))) _ |>.trans (hL t ht).1, (hL t ht).2⟩)) (fun r3 σ3 hq => ?_)
    rw [hq.1, hq.2]
    refine TT.steps (cd := cd99) 4 (c' := ((if decide (s1 < (mGood (mDay (up2 (up2 (cpN τ 1 0 10) 318 (10 + p) ((n : Nat) : Int)) 319 (10 + p) (-1)) b 1 np nt L) 1 np)) = true then 50 else 49), [(2, 295), (0, ((p : Nat) : Int)), (0, w), (0, s0), (0, s1), (0, ((n : Nat) : Int)), (0, (mGood (mDay (up2 (up2 (cpN τ 1 0 10) 318 (10 + p) ((n : Nat) : Int)) 319 (10 + p) (-1)) b 1 np nt L) 1 np))], [], (mDay (up2 (up2 (cpN τ 1 0 10) 318 (10 + p) ((n : Nat) : Int)) 319 (10 + p) (-1)) b 1 np nt L))) rfl rfl ?_
    refine TT.br (p := s1 < (mGood (mDay (up2 (up2 (cpN τ 1 0 10) 318 (10 + p) ((n : Nat) : Int)) 319 (10 + p) (-1)) b 1 np nt L) 1 np)) (fun h4 => ?_) (fun h4 => ?_)
    · refine TT.steps (cd := cd99) 4 (c' := (54, [(2, 295), (0, ((p : Nat) : Int)), (0, w), (0, ((n : Nat) : Int)), (0, (mGood (mDay (up2 (up2 (cpN τ 1 0 10) 318 (10 + p) ((n : Nat) : Int)) 319 (10 + p) (-1)) b 1 np nt L) 1 np)), (0, ((n : Nat) : Int)), (0, (mGood (mDay (up2 (up2 (cpN τ 1 0 10) 318 (10 + p) ((n : Nat) : Int)) 319 (10 + p) (-1)) b 1 np nt L) 1 np))], [], (mDay (up2 (up2 (cpN τ 1 0 10) 318 (10 + p) ((n : Nat) : Int)) 319 (10 + p) (-1)) b 1 np nt L))) rfl rfl ?_
      refine TT.inc (cd := cd99) ((n + 1 : Nat) : Int) rfl rfl rfl rfl (fun h => absurd h.2 (show ¬ (0 = 1) by decide)) (aAdd_n (a := n) (b := 1) (by omega)) (ls' := [(2, 295), (0, ((p : Nat) : Int)), (0, w), (0, ((n : Nat) : Int)), (0, (mGood (mDay (up2 (up2 (cpN τ 1 0 10) 318 (10 + p) ((n : Nat) : Int)) 319 (10 + p) (-1)) b 1 np nt L) 1 np)), (0, ((n + 1 : Nat) : Int)), (0, (mGood (mDay (up2 (up2 (cpN τ 1 0 10) 318 (10 + p) ((n : Nat) : Int)) 319 (10 + p) (-1)) b 1 np nt L) 1 np))]) rfl ?_
      refine TT.steps (cd := cd99) 1 (c' := (17, [(2, 295), (0, ((p : Nat) : Int)), (0, w), (0, ((n : Nat) : Int)), (0, (mGood (mDay (up2 (up2 (cpN τ 1 0 10) 318 (10 + p) ((n : Nat) : Int)) 319 (10 + p) (-1)) b 1 np nt L) 1 np)), (0, ((n + 1 : Nat) : Int)), (0, (mGood (mDay (up2 (up2 (cpN τ 1 0 10) 318 (10 + p) ((n : Nat) : Int)) 319 (10 + p) (-1)) b 1 np nt L) 1 np))], [], (mDay (up2 (up2 (cpN τ 1 0 10) 318 (10 + p) ((n : Nat) : Int)) 319 (10 + p) (-1)) b 1 np nt L))) rfl rfl ?_
      have e1 : mBe σ b np nt L p (n + 1) = (((n : Nat) : Int), (mGood (mDay (up2 (up2 (cpN τ 1 0 10) 318 (10 + p) ((n : Nat) : Int)) 319 (10 + p) (-1)) b 1 np nt L) 1 np), (mDay (up2 (up2 (cpN τ 1 0 10) 318 (10 + p) ((n : Nat) : Int)) 319 (10 + p) (-1)) b 1 np nt L)) := by
        rw [mBe, hS]
        unfold stBe
        dsimp only
        first | (rw [if_pos (by first | assumption | omega)]; done) | (rw [if_neg (by first | assumption | omega)]; done)
      have := ih (n + 1) (by omega) (0, (mGood (mDay (up2 (up2 (cpN τ 1 0 10) 318 (10 + p) ((n : Nat) : Int)) 319 (10 + p) (-1)) b 1 np nt L) 1 np))
      rw [e1] at this
      exact this
    · refine TT.steps (cd := cd99) 1 (c' := (54, [(2, 295), (0, ((p : Nat) : Int)), (0, w), (0, s0), (0, s1), (0, ((n : Nat) : Int)), (0, (mGood (mDay (up2 (up2 (cpN τ 1 0 10) 318 (10 + p) ((n : Nat) : Int)) 319 (10 + p) (-1)) b 1 np nt L) 1 np))], [], (mDay (up2 (up2 (cpN τ 1 0 10) 318 (10 + p) ((n : Nat) : Int)) 319 (10 + p) (-1)) b 1 np nt L))) rfl rfl ?_
      refine TT.inc (cd := cd99) ((n + 1 : Nat) : Int) rfl rfl rfl rfl (fun h => absurd h.2 (show ¬ (0 = 1) by decide)) (aAdd_n (a := n) (b := 1) (by omega)) (ls' := [(2, 295), (0, ((p : Nat) : Int)), (0, w), (0, s0), (0, s1), (0, ((n + 1 : Nat) : Int)), (0, (mGood (mDay (up2 (up2 (cpN τ 1 0 10) 318 (10 + p) ((n : Nat) : Int)) 319 (10 + p) (-1)) b 1 np nt L) 1 np))]) rfl ?_
      refine TT.steps (cd := cd99) 1 (c' := (17, [(2, 295), (0, ((p : Nat) : Int)), (0, w), (0, s0), (0, s1), (0, ((n + 1 : Nat) : Int)), (0, (mGood (mDay (up2 (up2 (cpN τ 1 0 10) 318 (10 + p) ((n : Nat) : Int)) 319 (10 + p) (-1)) b 1 np nt L) 1 np))], [], (mDay (up2 (up2 (cpN τ 1 0 10) 318 (10 + p) ((n : Nat) : Int)) 319 (10 + p) (-1)) b 1 np nt L))) rfl rfl ?_
      have e1 : mBe σ b np nt L p (n + 1) = (s0, s1, (mDay (up2 (up2 (cpN τ 1 0 10) 318 (10 + p) ((n : Nat) : Int)) 319 (10 + p) (-1)) b 1 np nt L)) := by
        rw [mBe, hS]
        unfold stBe
        dsimp only
        first | (rw [if_pos (by first | assumption | omega)]; done) | (rw [if_neg (by first | assumption | omega)]; done)
      have := ih (n + 1) (by omega) (0, (mGood (mDay (up2 (up2 (cpN τ 1 0 10) 318 (10 + p) ((n : Nat) : Int)) 319 (10 + p) (-1)) b 1 np nt L) 1 np))
      rw [e1] at this
      exact this
theorem t_bear1 (X : AX) (p : Nat) (w : Int) (hw : 0 ≤ w ∧ w ≤ 1) (np nt : Nat) (L : Nat → Nat) (σ : AH) {b : Nat} (hb : σ 295 13 = (b : Int)) (hb2 : b < 2) (hnp : σ 307 b = (np : Int)) (hnp2 : np ≤ 10) (hnt : σ 300 b = (nt : Int)) (hnt2 : nt ≤ 6) (hL : ∀ t, t < nt → σ 304 (6 * b + t) = (L t : Int) ∧ 2 ≤ L t ∧ L t ≤ 8) (ns : Nat) (hns : σ 297 b = (ns : Int)) (hns2 : ns ≤ 14) (hp : p < np)  : TT X 99 (0, [(2, 295), (0, ((p : Nat) : Int)), (0, w), (9, 0), (9, 0), (9, 0), (9, 0)], [], σ) (fun r σ' => r = some (0, if w = 0 then (mBe σ b np nt L p (ns)).1 else (mBe σ b np nt L p (ns)).2.1) ∧ σ' = (mBe σ b np nt L p (ns)).2.2) := by
  refine TT.steps (cd := cd99) 2 (c' := (2, [(2, 295), (0, ((p : Nat) : Int)), (0, w), (9, 0), (9, 0), (9, 0), (9, 0)], [(0, ((p : Nat) : Int)), (2, 295)], σ)) rfl rfl ?_
  refine TT.call (cd := cd99) rfl rfl rfl (by decide) rfl (t_isPerson X ((p : Nat) : Int) σ hb hb2) (fun r1 σ1 hq => ?_)
  rw [hq.1, hq.2, hnp]
  refine TT.steps (cd := cd99) 1 (c' := ((if decide (((if 0 ≤ ((p : Nat) : Int) ∧ ((p : Nat) : Int) < (np : Int) then 1 else 0) : Int) = 0) = true then 9 else 4), [(2, 295), (0, ((p : Nat) : Int)), (0, w), (9, 0), (9, 0), (9, 0), (9, 0)], [], σ)) rfl rfl ?_
  refine TT.br (p := ((if 0 ≤ ((p : Nat) : Int) ∧ ((p : Nat) : Int) < (np : Int) then 1 else 0) : Int) = 0) (fun h2 => absurd h2 (show ¬ (((if 0 ≤ ((p : Nat) : Int) ∧ ((p : Nat) : Int) < (np : Int) then 1 else 0) : Int) = 0) by (rw [if_pos (by first | assumption | omega)]; decide))) (fun h2 => ?_)
  refine TT.steps (cd := cd99) 3 (c' := (7, [(2, 295), (0, ((p : Nat) : Int)), (0, w), (9, 0), (9, 0), (9, 0), (9, 0)], [(0, 1), (0, 0), (0, w)], σ)) rfl rfl ?_
  refine TT.call (cd := cd99) rfl rfl rfl (by decide) rfl (t_is X w 0 1 σ) (fun r3 σ3 hq => ?_)
  rw [hq.1, hq.2]
  refine TT.steps (cd := cd99) 1 (c' := ((if decide (¬ ((if 0 ≤ w ∧ w ≤ 1 then 1 else 0) : Int) = 0) = true then 11 else 9), [(2, 295), (0, ((p : Nat) : Int)), (0, w), (9, 0), (9, 0), (9, 0), (9, 0)], [], σ)) rfl rfl ?_
  refine TT.br (p := ¬ ((if 0 ≤ w ∧ w ≤ 1 then 1 else 0) : Int) = 0) (fun h4 => ?_) (fun h4 => absurd (show ¬ ((if 0 ≤ w ∧ w ≤ 1 then 1 else 0) : Int) = 0 by (rw [if_pos (by first | assumption | omega)]; decide)) h4)
  refine TT.steps (cd := cd99) 6 (c' := (17, [(2, 295), (0, ((p : Nat) : Int)), (0, w), (0, -1), (0, -1), (0, 0), (9, 0)], [], σ)) rfl rfl ?_
  refine l_Be X _ p np nt L σ hb hb2 hnp hnp2 hnt hnt2 hL ns hns hns2 w hp (0, 0) (fun x y => ?_) (ns) 0 (by omega) (9, 0)
  refine TT.steps (cd := cd99) 2 (c' := ((if decide (¬ w = 0) = true then 60 else 58), [(2, 295), (0, ((p : Nat) : Int)), (0, w), (0, (mBe σ b np nt L p (ns)).1), (0, (mBe σ b np nt L p (ns)).2.1), x, y], [], ((mBe σ b np nt L p (ns)).2.2))) rfl rfl ?_
  refine TT.br (p := ¬ w = 0) (fun h5 => ?_) (fun h5 => ?_)
  · refine TT.steps (cd := cd99) 1 (c' := (61, [(2, 295), (0, ((p : Nat) : Int)), (0, w), (0, (mBe σ b np nt L p (ns)).1), (0, (mBe σ b np nt L p (ns)).2.1), x, y], [(0, (mBe σ b np nt L p (ns)).2.1)], ((mBe σ b np nt L p (ns)).2.2))) rfl rfl ?_
    exact TT.ret (cd := cd99) rfl rfl rfl rfl (⟨by first | rfl | (rw [if_pos (by omega)]; done) | (rw [if_neg (by omega), if_pos (by omega)]; done) | (rw [if_neg (by omega), if_neg (by omega)]; done) | (rw [if_neg (by omega)]; done) | (rw [if_neg (by omega), if_neg (by omega), if_pos (by omega)]; done) | (rw [if_neg (by omega), if_neg (by omega), if_neg (by omega)]; done), rfl⟩)
  · refine TT.steps (cd := cd99) 2 (c' := (61, [(2, 295), (0, ((p : Nat) : Int)), (0, w), (0, (mBe σ b np nt L p (ns)).1), (0, (mBe σ b np nt L p (ns)).2.1), x, y], [(0, (mBe σ b np nt L p (ns)).1)], ((mBe σ b np nt L p (ns)).2.2))) rfl rfl ?_
    exact TT.ret (cd := cd99) rfl rfl rfl rfl (⟨by first | rfl | (rw [if_pos (by omega)]; done) | (rw [if_neg (by omega), if_pos (by omega)]; done) | (rw [if_neg (by omega), if_neg (by omega)]; done) | (rw [if_neg (by omega)]; done) | (rw [if_neg (by omega), if_neg (by omega), if_pos (by omega)]; done) | (rw [if_neg (by omega), if_neg (by omega), if_neg (by omega)]; done), rfl⟩)
theorem t_bear0 (X : AX) (p w : Int) (np nt : Nat) (L : Nat → Nat) (σ : AH) {b : Nat} (hb : σ 295 13 = (b : Int)) (hb2 : b < 2) (hnp : σ 307 b = (np : Int)) (hnp2 : np ≤ 10) (hnt : σ 300 b = (nt : Int)) (hnt2 : nt ≤ 6) (hL : ∀ t, t < nt → σ 304 (6 * b + t) = (L t : Int) ∧ 2 ≤ L t ∧ L t ≤ 8) (ns : Nat) (hns : σ 297 b = (ns : Int)) (hns2 : ns ≤ 14) (hp : ¬ (0 ≤ p ∧ p < (np : Int)) ∨ ¬ (0 ≤ w ∧ w ≤ 1))  : TT X 99 (0, [(2, 295), (0, p), (0, w), (9, 0), (9, 0), (9, 0), (9, 0)], [], σ) (fun r σ' => r = some (0, -1) ∧ σ' = σ) := by
  refine TT.steps (cd := cd99) 2 (c' := (2, [(2, 295), (0, p), (0, w), (9, 0), (9, 0), (9, 0), (9, 0)], [(0, p), (2, 295)], σ)) rfl rfl ?_
  refine TT.call (cd := cd99) rfl rfl rfl (by decide) rfl (t_isPerson X p σ hb hb2) (fun r1 σ1 hq => ?_)
  rw [hq.1, hq.2, hnp]
  refine TT.steps (cd := cd99) 1 (c' := ((if decide (((if 0 ≤ p ∧ p < (np : Int) then 1 else 0) : Int) = 0) = true then 9 else 4), [(2, 295), (0, p), (0, w), (9, 0), (9, 0), (9, 0), (9, 0)], [], σ)) rfl rfl ?_
  refine TT.br (p := ((if 0 ≤ p ∧ p < (np : Int) then 1 else 0) : Int) = 0) (fun h2 => ?_) (fun h2 => ?_)
  · replace h2 := ite_f h2
    refine TT.steps (cd := cd99) 1 (c' := (10, [(2, 295), (0, p), (0, w), (9, 0), (9, 0), (9, 0), (9, 0)], [(0, -1)], σ)) rfl rfl ?_
    exact TT.ret (cd := cd99) rfl rfl rfl rfl (⟨rfl, rfl⟩)
  · replace h2 := ite_t h2
    refine TT.steps (cd := cd99) 3 (c' := (7, [(2, 295), (0, p), (0, w), (9, 0), (9, 0), (9, 0), (9, 0)], [(0, 1), (0, 0), (0, w)], σ)) rfl rfl ?_
    refine TT.call (cd := cd99) rfl rfl rfl (by decide) rfl (t_is X w 0 1 σ) (fun r3 σ3 hq => ?_)
    rw [hq.1, hq.2]
    refine TT.steps (cd := cd99) 1 (c' := ((if decide (¬ ((if 0 ≤ w ∧ w ≤ 1 then 1 else 0) : Int) = 0) = true then 11 else 9), [(2, 295), (0, p), (0, w), (9, 0), (9, 0), (9, 0), (9, 0)], [], σ)) rfl rfl ?_
    refine TT.br (p := ¬ ((if 0 ≤ w ∧ w ≤ 1 then 1 else 0) : Int) = 0) (fun h4 => ?_) (fun h4 => ?_)
    · replace h4 := ite_t h4
      exfalso
      omega
    · replace h4 := ite_f (Decidable.not_not.mp h4)
      refine TT.steps (cd := cd99) 1 (c' := (10, [(2, 295), (0, p), (0, w), (9, 0), (9, 0), (9, 0), (9, 0)], [(0, -1)], σ)) rfl rfl ?_
      exact TT.ret (cd := cd99) rfl rfl rfl rfl (⟨rfl, rfl⟩)
theorem ite01 {p : Prop} [Decidable p] (h : (if p then (0 : Int) else 1) = 0) : p := by
  by_cases hp : p
  · exact hp
  · rw [if_neg hp] at h; exact absurd h (by decide)
theorem ite01n {p : Prop} [Decidable p] (h : ¬ (if p then (0 : Int) else 1) = 0) : ¬ p := by
  intro hp
  rw [if_pos hp] at h; exact h rfl
/-- the k-th dead station from n on -/
def mDd (σ : AH) (np : Nat) (k : Int) : Nat → Nat → Nat → Int
  | 0, _, _ => -1
  | d + 1, n, a => if mAnyB σ 0 np ((n : Nat) : Int) = true then mDd σ np k d (n + 1) a else if ((a : Nat) : Int) = k then ((n : Nat) : Int) else mDd σ np k d (n + 1) (a + 1)
theorem l_dead (X : AX) (k : Int) (np ns : Nat) (σ : AH) {b : Nat} (hb : σ 295 13 = (b : Int)) (hb2 : b < 2) (hnp : σ 307 b = (np : Int)) (hnp2 : np ≤ 10) (hns : σ 297 b = (ns : Int)) (hns2 : ns ≤ 14) : ∀ (d n : Nat), n + d = ns → ∀ a : Nat, a ≤ n → TT X 103 (4, [(2, 295), (0, k), (0, ((a : Nat) : Int)), (0, ((n : Nat) : Int))], [], (mL0 σ n)) (fun r σ' => r = some (0, mDd σ np k d n a) ∧ σ' = mL0 σ ns) := by
  intro d
  induction d with
  | zero =>
    intro n hn a ha
    have hnn : n = ns := by omega
    refine TT.steps (cd := cd103) 5 (c' := (9, [(2, 295), (0, k), (0, ((a : Nat) : Int)), (0, ((n : Nat) : Int))], [(0, ((mL0 σ n) 295 13)), (2, 297), (0, ((n : Nat) : Int))], (mL0 σ n))) rfl rfl ?_
    refine TT.top0 (z := ((b : Nat) : Int)) ((mL0_fr _ _ _ (13) (Or.inr (by decide))).trans hb) ?_
    refine TT.aldN (cd := cd103) (297) (b) rfl rfl rfl rfl (show b < 2 by omega) ?_
    refine TT.top0 (z := ((ns : Nat) : Int)) ((mL0_fr _ _ 297 (b) (Or.inl (by decide))).trans hns) ?_
    refine TT.steps (cd := cd103) 1 (c' := ((if decide (((ns : Nat) : Int) ≤ ((n : Nat) : Int)) = true then 25 else 11), [(2, 295), (0, k), (0, ((a : Nat) : Int)), (0, ((n : Nat) : Int))], [], (mL0 σ n))) rfl rfl ?_
    refine TT.br (p := ((ns : Nat) : Int) ≤ ((n : Nat) : Int)) (fun h1 => ?_) (fun h1 => absurd (show ((ns : Nat) : Int) ≤ ((n : Nat) : Int) by omega) h1)
    refine TT.steps (cd := cd103) 1 (c' := (26, [(2, 295), (0, k), (0, ((a : Nat) : Int)), (0, ((n : Nat) : Int))], [(0, -1)], (mL0 σ n))) rfl rfl ?_
    exact TT.ret (cd := cd103) rfl rfl rfl rfl (⟨rfl, by rw [hnn]⟩)
  | succ d ih =>
    intro n hn a ha
    refine TT.steps (cd := cd103) 5 (c' := (9, [(2, 295), (0, k), (0, ((a : Nat) : Int)), (0, ((n : Nat) : Int))], [(0, ((mL0 σ n) 295 13)), (2, 297), (0, ((n : Nat) : Int))], (mL0 σ n))) rfl rfl ?_
    refine TT.top0 (z := ((b : Nat) : Int)) ((mL0_fr _ _ _ (13) (Or.inr (by decide))).trans hb) ?_
    refine TT.aldN (cd := cd103) (297) (b) rfl rfl rfl rfl (show b < 2 by omega) ?_
    refine TT.top0 (z := ((ns : Nat) : Int)) ((mL0_fr _ _ 297 (b) (Or.inl (by decide))).trans hns) ?_
    refine TT.steps (cd := cd103) 1 (c' := ((if decide (((ns : Nat) : Int) ≤ ((n : Nat) : Int)) = true then 25 else 11), [(2, 295), (0, k), (0, ((a : Nat) : Int)), (0, ((n : Nat) : Int))], [], (mL0 σ n))) rfl rfl ?_
    refine TT.br (p := ((ns : Nat) : Int) ≤ ((n : Nat) : Int)) (fun h1 => absurd h1 (show ¬ (((ns : Nat) : Int) ≤ ((n : Nat) : Int)) by omega)) (fun h1 => ?_)
    refine TT.steps (cd := cd103) 3 (c' := (14, [(2, 295), (0, k), (0, ((a : Nat) : Int)), (0, ((n : Nat) : Int))], [(0, ((n : Nat) : Int)), (0, 0), (2, 295)], (mL0 σ n))) rfl rfl ?_
    refine TT.call (cd := cd103) rfl rfl rfl (by decide) rfl (t_isDead X np 0 ((n : Nat) : Int) (by decide) (mL0 σ n) ((mL0_fr _ _ _ (13) (Or.inr (by decide))).trans hb) hb2 ((mL0_fr _ _ 307 (b) (Or.inl (by decide))).trans hnp) hnp2) (fun r2 σ2 hq => ?_)
    rw [hq.1, hq.2, mAnyB_c (σ := σ) _ _ _ (fun j => mL0_fr _ _ _ _ (Or.inl (by decide))) (fun j => mL0_fr _ _ _ _ (Or.inl (by decide)))]
    refine TT.steps (cd := cd103) 1 (c' := ((if decide (¬ ((if mAnyB σ 0 np ((n : Nat) : Int) = true then 0 else 1) : Int) = 0) = true then 17 else 16), [(2, 295), (0, k), (0, ((a : Nat) : Int)), (0, ((n : Nat) : Int))], [], (up2 (mL0 σ n) 295 46 0))) rfl rfl ?_
    refine TT.br (p := ¬ ((if mAnyB σ 0 np ((n : Nat) : Int) = true then 0 else 1) : Int) = 0) (fun h3 => ?_) (fun h3 => ?_)
    · refine TT.steps (cd := cd103) 3 (c' := ((if decide (¬ ((a : Nat) : Int) = k) = true then 22 else 20), [(2, 295), (0, k), (0, ((a : Nat) : Int)), (0, ((n : Nat) : Int))], [], (up2 (mL0 σ n) 295 46 0))) rfl rfl ?_
      refine TT.br (p := ¬ ((a : Nat) : Int) = k) (fun h4 => ?_) (fun h4 => ?_)
      · refine TT.inc (cd := cd103) ((a + 1 : Nat) : Int) rfl rfl rfl rfl (fun h => absurd h.2 (show ¬ (0 = 1) by decide)) (aAdd_n (a := a) (b := 1) (by omega)) (ls' := [(2, 295), (0, k), (0, ((a + 1 : Nat) : Int)), (0, ((n : Nat) : Int))]) rfl ?_
        refine TT.inc (cd := cd103) ((n + 1 : Nat) : Int) rfl rfl rfl rfl (fun h => absurd h.2 (show ¬ (0 = 1) by decide)) (aAdd_n (a := n) (b := 1) (by omega)) (ls' := [(2, 295), (0, k), (0, ((a + 1 : Nat) : Int)), (0, ((n + 1 : Nat) : Int))]) rfl ?_
        refine TT.steps (cd := cd103) 1 (c' := (4, [(2, 295), (0, k), (0, ((a + 1 : Nat) : Int)), (0, ((n + 1 : Nat) : Int))], [], (up2 (mL0 σ n) 295 46 0))) rfl rfl ?_
        refine TT.sg (σ' := mL0 σ (n + 1)) (mL0_s _ _) ?_
        refine TT.mono (ih (n + 1) (by omega) (a + 1) (by omega)) (fun r τ hq => ⟨?_, hq.2⟩)
        rw [hq.1, mDd]
        first | (rw [if_pos (ite01 (Decidable.not_not.mp h3))]; done) | (rw [if_neg (ite01n h3), if_neg (by assumption)]; done)
      · refine TT.steps (cd := cd103) 1 (c' := (21, [(2, 295), (0, k), (0, ((a : Nat) : Int)), (0, ((n : Nat) : Int))], [(0, ((n : Nat) : Int))], (up2 (mL0 σ n) 295 46 0))) rfl rfl ?_
        exact TT.ret (cd := cd103) rfl rfl rfl rfl (⟨by rw [mDd, if_neg (ite01n h3), if_pos (by omega)], by rw [mL0_s]; obtain ⟨m, rfl⟩ : ∃ m, ns = m + 1 := ⟨ns - 1, by omega⟩; rfl⟩)
    · refine TT.steps (cd := cd103) 1 (c' := (23, [(2, 295), (0, k), (0, ((a : Nat) : Int)), (0, ((n : Nat) : Int))], [], (up2 (mL0 σ n) 295 46 0))) rfl rfl ?_
      refine TT.inc (cd := cd103) ((n + 1 : Nat) : Int) rfl rfl rfl rfl (fun h => absurd h.2 (show ¬ (0 = 1) by decide)) (aAdd_n (a := n) (b := 1) (by omega)) (ls' := [(2, 295), (0, k), (0, ((a : Nat) : Int)), (0, ((n + 1 : Nat) : Int))]) rfl ?_
      refine TT.steps (cd := cd103) 1 (c' := (4, [(2, 295), (0, k), (0, ((a : Nat) : Int)), (0, ((n + 1 : Nat) : Int))], [], (up2 (mL0 σ n) 295 46 0))) rfl rfl ?_
      refine TT.sg (σ' := mL0 σ (n + 1)) (mL0_s _ _) ?_
      refine TT.mono (ih (n + 1) (by omega) a (by omega)) (fun r τ hq => ⟨?_, hq.2⟩)
      rw [hq.1, mDd]
      first | (rw [if_pos (ite01 (Decidable.not_not.mp h3))]; done) | (rw [if_neg (ite01n h3), if_neg (by assumption)]; done)
theorem t_dead (X : AX) (k : Int) (np ns : Nat) (σ : AH) {b : Nat} (hb : σ 295 13 = (b : Int)) (hb2 : b < 2) (hnp : σ 307 b = (np : Int)) (hnp2 : np ≤ 10) (hns : σ 297 b = (ns : Int)) (hns2 : ns ≤ 14)  : TT X 103 (0, [(2, 295), (0, k), (9, 0), (9, 0)], [], σ) (fun r σ' => r = some (0, mDd σ np k ns 0 0) ∧ σ' = mL0 σ ns) := by
  refine TT.steps (cd := cd103) 4 (c' := (4, [(2, 295), (0, k), (0, 0), (0, 0)], [], σ)) rfl rfl ?_
  exact l_dead X k np ns σ hb hb2 hnp hnp2 hns hns2 ns 0 (by omega) 0 (by omega)
def bitsN : Nat → Nat → Nat → Nat
  | 0, _, a => a
  | f + 1, z, a => if z = 0 then a else bitsN f (z / 2) (a + z % 2)
theorem bitsN_0 (f a : Nat) : bitsN f 0 a = a := by
  cases f with
  | zero => rfl
  | succ f => rw [bitsN, if_pos rfl]
theorem shr1n (z : Nat) (h : z < 1024) : aShr ((z : Nat) : Int) 1 = ((z / 2 : Nat) : Int) := by
  have : ∀ k : Fin 1024, aShr ((k.val : Nat) : Int) 1 = ((k.val / 2 : Nat) : Int) := by decide +kernel
  exact this ⟨z, h⟩
theorem and1n (z : Nat) (h : z < 1024) : aAnd ((z : Nat) : Int) 1 = ((z % 2 : Nat) : Int) := by
  have : ∀ k : Fin 1024, aAnd ((k.val : Nat) : Int) 1 = ((k.val % 2 : Nat) : Int) := by decide +kernel
  exact this ⟨z, h⟩
theorem l_bits (X : AX) (z0 : Nat) (σ : AH) : ∀ (f z a : Nat), z < 2 ^ f → f ≤ 10 → a + f ≤ 100 → TT X 88 (4, [(0, ((z0 : Nat) : Int)), (0, ((a : Nat) : Int)), (0, ((z : Nat) : Int))], [], σ) (fun r σ' => r = some (0, ((bitsN f z a : Nat) : Int)) ∧ σ' = σ) := by
  intro f
  induction f with
  | zero =>
    intro z a hz hf ha
    have hz0 : z = 0 := by simpa using hz
    refine TT.steps (cd := cd88) 2 (c' := ((if decide (((z : Nat) : Int) = 0) = true then 17 else 6), [(0, ((z0 : Nat) : Int)), (0, ((a : Nat) : Int)), (0, ((z : Nat) : Int))], [], σ)) rfl rfl ?_
    refine TT.br (p := ((z : Nat) : Int) = 0) (fun h1 => ?_) (fun h1 => absurd (show ((z : Nat) : Int) = 0 by omega) h1)
    refine TT.steps (cd := cd88) 1 (c' := (18, [(0, ((z0 : Nat) : Int)), (0, ((a : Nat) : Int)), (0, ((z : Nat) : Int))], [(0, ((a : Nat) : Int))], σ)) rfl rfl ?_
    exact TT.ret (cd := cd88) rfl rfl rfl rfl (⟨rfl, rfl⟩)
  | succ f ih =>
    intro z a hz hf ha
    have hz1 : z < 1024 := Nat.lt_of_lt_of_le hz (pw10 (f + 1) hf)
    have hz2 : z / 2 < 2 ^ f := by rw [Nat.pow_succ] at hz; omega
    refine TT.steps (cd := cd88) 2 (c' := ((if decide (((z : Nat) : Int) = 0) = true then 17 else 6), [(0, ((z0 : Nat) : Int)), (0, ((a : Nat) : Int)), (0, ((z : Nat) : Int))], [], σ)) rfl rfl ?_
    refine TT.br (p := ((z : Nat) : Int) = 0) (fun h1 => ?_) (fun h1 => ?_)
    · refine TT.steps (cd := cd88) 1 (c' := (18, [(0, ((z0 : Nat) : Int)), (0, ((a : Nat) : Int)), (0, ((z : Nat) : Int))], [(0, ((a : Nat) : Int))], σ)) rfl rfl ?_
      exact TT.ret (cd := cd88) rfl rfl rfl rfl (⟨by rw [show z = 0 by omega, bitsN_0], rfl⟩)
    · refine TT.steps (cd := cd88) 4 (c' := (10, [(0, ((z0 : Nat) : Int)), (0, ((a : Nat) : Int)), (0, ((z : Nat) : Int))], [(0, (aAnd ((z : Nat) : Int) 1)), (0, ((a : Nat) : Int))], σ)) rfl rfl ?_
      refine TT.top0 (z := ((z % 2 : Nat) : Int)) (and1n z hz1) ?_
      refine TT.steps (cd := cd88) 1 (c' := (11, [(0, ((z0 : Nat) : Int)), (0, ((a : Nat) : Int)), (0, ((z : Nat) : Int))], [(0, (aAdd ((a : Nat) : Int) ((z % 2 : Nat) : Int)))], σ)) rfl rfl ?_
      refine TT.top0 (z := ((a + (z % 2) : Nat) : Int)) (aAdd_n (a := a) (b := z % 2) (by omega)) ?_
      refine TT.steps (cd := cd88) 4 (c' := (15, [(0, ((z0 : Nat) : Int)), (0, ((a + (z % 2) : Nat) : Int)), (0, ((z : Nat) : Int))], [(0, (aShr ((z : Nat) : Int) 1))], σ)) rfl rfl ?_
      refine TT.top0 (z := ((z / 2 : Nat) : Int)) (shr1n z hz1) ?_
      refine TT.steps (cd := cd88) 2 (c' := (4, [(0, ((z0 : Nat) : Int)), (0, ((a + (z % 2) : Nat) : Int)), (0, ((z / 2 : Nat) : Int))], [], σ)) rfl rfl ?_
      refine TT.mono (ih (z / 2) (a + z % 2) hz2 (by omega) (by omega)) (fun r τ hq => ⟨?_, hq.2⟩)
      rw [hq.1, bitsN, if_neg (by omega)]
theorem t_bits (X : AX) (z : Nat) (hz : z < 1024) (σ : AH)  : TT X 88 (0, [(0, ((z : Nat) : Int)), (9, 0), (9, 0)], [], σ) (fun r σ' => r = some (0, ((bitsN 10 z 0 : Nat) : Int)) ∧ σ' = σ) := by
  refine TT.steps (cd := cd88) 4 (c' := (4, [(0, ((z : Nat) : Int)), (0, 0), (0, ((z : Nat) : Int))], [], σ)) rfl rfl ?_
  exact l_bits X _ σ 10 z 0 (by simpa using hz) (by omega) (by omega)
