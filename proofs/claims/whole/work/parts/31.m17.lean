theorem mDW_fr (σ : AH) (b np nt : Nat) (L : Nat → Nat) (z : Int) (c j : Nat) (h : c ≠ 295 ∧ (c < 316 ∨ 337 < c)) : mDW σ b np nt L z c j = σ c j := by
  unfold mDW
  rw [mDay_fr _ _ _ _ _ _ _ _ (by omega), mHW_fr _ _ _ _ _ (by omega), cpN_fr _ _ _ _ _ _ (by omega)]
theorem mDW_M (σ : AH) (b np nt : Nat) (L : Nat → Nat) (z : Int) (j : Nat) (h : j ≠ 46) : mDW σ b np nt L z 295 j = σ 295 j := by
  unfold mDW
  rw [mDay_M _ _ _ _ _ _ _ h, mHW_fr _ _ _ _ _ (by decide), cpN_fr _ _ _ _ _ _ (by decide)]
theorem mDW_l (σ : AH) (b np nt : Nat) (L : Nat → Nat) (z : Int) : mDW σ b np nt L z 295 46 = ((1 : Nat) : Int) := mDay_l _ _ _ _ _ _
theorem shl1 (np : Nat) (h : np ≤ 10) : aShl 1 ((np : Nat) : Int) = ((2 ^ np : Nat) : Int) := by
  have : ∀ k : Fin 11, aShl 1 ((k.val : Nat) : Int) = ((2 ^ k.val : Nat) : Int) := by decide
  exact this ⟨np, by omega⟩
theorem pw10 (np : Nat) (h : np ≤ 10) : 2 ^ np ≤ 1024 := Nat.pow_le_pow_right (by decide) h
def stLs (b np nt : Nat) (L : Nat → Nat) (p : Nat) (n : Nat) (S : Int × Int × AH) : Int × Int × AH :=
  if aAnd (aShr ((n : Nat) : Int) ((p : Nat) : Int)) 1 = 1 then S else if mCanC S.2.2 b np ((n : Nat) : Int) then (if mCoin S.2.2 b np ((n : Nat) : Int) < S.2.1 then (if mDW S.2.2 b np nt L ((n : Nat) : Int) 334 p = mDW S.2.2 b np nt L ((n : Nat) : Int) 321 (10 * 1 + p) then (((n : Nat) : Int), mCoin (mDW S.2.2 b np nt L ((n : Nat) : Int)) b np ((n : Nat) : Int), mDW S.2.2 b np nt L ((n : Nat) : Int)) else (S.1, S.2.1, mDW S.2.2 b np nt L ((n : Nat) : Int))) else S) else S
def mLs (σ : AH) (b np nt : Nat) (L : Nat → Nat) (p : Nat) : Nat → Int × Int × AH
  | 0 => (-1, 1000000, σ)
  | n + 1 => stLs b np nt L p n (mLs σ b np nt L p n)
theorem stLs_fr (b np nt : Nat) (L : Nat → Nat) (p : Nat) (n : Nat) (S : Int × Int × AH) (c j : Nat) (h : c ≠ 295 ∧ (c < 316 ∨ 337 < c)) : (stLs b np nt L p n S).2.2 c j = S.2.2 c j := by
    unfold stLs
    repeat' split
    all_goals first | rfl | exact mDW_fr _ _ _ _ _ _ _ _ h
theorem stLs_M (b np nt : Nat) (L : Nat → Nat) (p : Nat) (n : Nat) (S : Int × Int × AH) (j : Nat) (h : j ≠ 46) : (stLs b np nt L p n S).2.2 295 j = S.2.2 295 j := by
    unfold stLs
    repeat' split
    all_goals first | rfl | exact mDW_M _ _ _ _ _ _ _ h
theorem mLs_fr (σ : AH) (b np nt : Nat) (L : Nat → Nat) (p : Nat) (n c j : Nat) (h : c ≠ 295 ∧ (c < 316 ∨ 337 < c)) : (mLs σ b np nt L p n).2.2 c j = σ c j := by
  induction n with
  | zero => rfl
  | succ n ih => rw [mLs, stLs_fr _ _ _ _ _ _ _ _ _ h, ih]
theorem mLs_M (σ : AH) (b np nt : Nat) (L : Nat → Nat) (p : Nat) (n j : Nat) (h : j ≠ 46) : (mLs σ b np nt L p n).2.2 295 j = σ 295 j := by
  induction n with
  | zero => rfl
  | succ n ih => rw [mLs, stLs_M _ _ _ _ _ _ _ _ h, ih]
theorem l_Ls (X : AX) (Q : Option AV → AH → Prop) (p : Nat) (np nt : Nat) (L : Nat → Nat) (σ : AH) {b : Nat} (hb : σ 295 13 = (b : Int)) (hb2 : b < 2) (hnp : σ 307 b = (np : Int)) (hnp2 : np ≤ 10) (hnt : σ 300 b = (nt : Int)) (hnt2 : nt ≤ 6) (hL : ∀ t, t < nt → σ 304 (6 * b + t) = (L t : Int) ∧ 2 ≤ L t ∧ L t ≤ 8) (w : Int) (hp : p < np) (x0 : AV) (kk : ∀ x y : AV, TT X 92 (63, [(2, 295), (0, ((p : Nat) : Int)), (0, w), (0, (mLs σ b np nt L p (2 ^ np)).1), (0, (mLs σ b np nt L p (2 ^ np)).2.1), x], [], (mLs σ b np nt L p (2 ^ np)).2.2) Q) : ∀ (d n : Nat), n + d = 2 ^ np → ∀ y : AV, TT X 92 (17, [(2, 295), (0, ((p : Nat) : Int)), (0, w), (0, (mLs σ b np nt L p n).1), (0, (mLs σ b np nt L p n).2.1), (0, ((n : Nat) : Int))], [], (mLs σ b np nt L p n).2.2) Q := by
  intro d
  have hN : 2 ^ np ≤ 1024 := pw10 np hnp2
  induction d with
  | zero =>
    intro n hn y
    have hnn : n = 2 ^ np := by omega
    have hfr := fun c j h => mLs_fr σ b np nt L p n c j h
    have hfM := fun j h => mLs_M σ b np nt L p n j h
    subst hnn
    obtain ⟨⟨s0, s1, τ⟩, hS⟩ : ∃ S, mLs σ b np nt L p (2 ^ np) = S := ⟨_, rfl⟩
    rw [hS] at hfr hfM ⊢
    rw [hS] at kk
    dsimp only at hfr hfM ⊢ kk
    refine TT.steps (cd := cd92) 6 (c' := (23, [(2, 295), (0, ((p : Nat) : Int)), (0, w), (0, s0), (0, s1), (0, (((2 ^ np) : Nat) : Int))], [(0, (τ 295 13)), (2, 307), (0, 1), (0, (((2 ^ np) : Nat) : Int))], τ)) rfl rfl ?_
    refine TT.top0 (z := ((b : Nat) : Int)) ((hfM (13) (by decide)).trans hb) ?_
    refine TT.aldN (cd := cd92) (307) (b) rfl rfl rfl rfl (show b < 2 by omega) ?_
    refine TT.top0 (z := ((np : Nat) : Int)) ((hfr 307 (b) (by decide)).trans hnp) ?_
    refine TT.steps (cd := cd92) 1 (c' := (25, [(2, 295), (0, ((p : Nat) : Int)), (0, w), (0, s0), (0, s1), (0, (((2 ^ np) : Nat) : Int))], [(0, (aShl 1 ((np : Nat) : Int))), (0, (((2 ^ np) : Nat) : Int))], τ)) rfl rfl ?_
    refine TT.top0 (z := (((2 ^ np) : Nat) : Int)) (shl1 np hnp2) ?_
    refine TT.steps (cd := cd92) 1 (c' := ((if decide ((((2 ^ np) : Nat) : Int) ≤ (((2 ^ np) : Nat) : Int)) = true then 63 else 26), [(2, 295), (0, ((p : Nat) : Int)), (0, w), (0, s0), (0, s1), (0, (((2 ^ np) : Nat) : Int))], [], τ)) rfl rfl ?_
    refine TT.br (p := (((2 ^ np) : Nat) : Int) ≤ (((2 ^ np) : Nat) : Int)) (fun h1 => ?_) (fun h1 => absurd (show (((2 ^ np) : Nat) : Int) ≤ (((2 ^ np) : Nat) : Int) by omega) h1)
    exact kk _ (0, 0)
  | succ d ih =>
    intro n hn y
    have hfr := fun c j h => mLs_fr σ b np nt L p n c j h
    have hfM := fun j h => mLs_M σ b np nt L p n j h
    obtain ⟨⟨s0, s1, τ⟩, hS⟩ : ∃ S, mLs σ b np nt L p n = S := ⟨_, rfl⟩
    rw [hS] at hfr hfM ⊢
    dsimp only at hfr hfM ⊢
    refine TT.steps (cd := cd92) 6 (c' := (23, [(2, 295), (0, ((p : Nat) : Int)), (0, w), (0, s0), (0, s1), (0, ((n : Nat) : Int))], [(0, (τ 295 13)), (2, 307), (0, 1), (0, ((n : Nat) : Int))], τ)) rfl rfl ?_
    refine TT.top0 (z := ((b : Nat) : Int)) ((hfM (13) (by decide)).trans hb) ?_
    refine TT.aldN (cd := cd92) (307) (b) rfl rfl rfl rfl (show b < 2 by omega) ?_
    refine TT.top0 (z := ((np : Nat) : Int)) ((hfr 307 (b) (by decide)).trans hnp) ?_
    refine TT.steps (cd := cd92) 1 (c' := (25, [(2, 295), (0, ((p : Nat) : Int)), (0, w), (0, s0), (0, s1), (0, ((n : Nat) : Int))], [(0, (aShl 1 ((np : Nat) : Int))), (0, ((n : Nat) : Int))], τ)) rfl rfl ?_
    refine TT.top0 (z := (((2 ^ np) : Nat) : Int)) (shl1 np hnp2) ?_
    refine TT.steps (cd := cd92) 1 (c' := ((if decide ((((2 ^ np) : Nat) : Int) ≤ ((n : Nat) : Int)) = true then 63 else 26), [(2, 295), (0, ((p : Nat) : Int)), (0, w), (0, s0), (0, s1), (0, ((n : Nat) : Int))], [], τ)) rfl rfl ?_
    refine TT.br (p := (((2 ^ np) : Nat) : Int) ≤ ((n : Nat) : Int)) (fun h1 => absurd h1 (show ¬ ((((2 ^ np) : Nat) : Int) ≤ ((n : Nat) : Int)) by omega)) (fun h1 => ?_)
    refine TT.steps (cd := cd92) 7 (c' := ((if decide ((aAnd (aShr ((n : Nat) : Int) ((p : Nat) : Int)) 1) = 1) = true then 61 else 33), [(2, 295), (0, ((p : Nat) : Int)), (0, w), (0, s0), (0, s1), (0, ((n : Nat) : Int))], [], τ)) rfl rfl ?_
    refine TT.br (p := (aAnd (aShr ((n : Nat) : Int) ((p : Nat) : Int)) 1) = 1) (fun h2 => ?_) (fun h2 => ?_)
    · refine TT.inc (cd := cd92) ((n + 1 : Nat) : Int) rfl rfl rfl rfl (fun h => absurd h.2 (show ¬ (0 = 1) by decide)) (aAdd_n (a := n) (b := 1) (by omega)) (ls' := [(2, 295), (0, ((p : Nat) : Int)), (0, w), (0, s0), (0, s1), (0, ((n + 1 : Nat) : Int))]) rfl ?_
      refine TT.steps (cd := cd92) 1 (c' := (17, [(2, 295), (0, ((p : Nat) : Int)), (0, w), (0, s0), (0, s1), (0, ((n + 1 : Nat) : Int))], [], τ)) rfl rfl ?_
      have e1 : mLs σ b np nt L p (n + 1) = (s0, s1, τ) := by
        rw [mLs, hS]
        unfold stLs
        dsimp only
        first | (rw [if_pos (by first | assumption | omega)]; done) | (rw [if_neg (by first | assumption | omega), if_neg (by first | assumption | omega)]; done) | (rw [if_neg (by first | assumption | omega), if_pos (by first | assumption | omega), if_neg (by first | assumption | omega)]; done) | (rw [if_neg (by first | assumption | omega), if_pos (by first | assumption | omega), if_pos (by first | assumption | omega), if_neg (by first | assumption | omega)]; done) | (rw [if_neg (by first | assumption | omega), if_pos (by first | assumption | omega), if_pos (by first | assumption | omega), if_pos (by first | assumption | omega)]; done)
      have := ih (n + 1) (by omega) (0, 0)
      rw [e1] at this
      exact this
    · refine TT.steps (cd := cd92) 2 (c' := (35, [(2, 295), (0, ((p : Nat) : Int)), (0, w), (0, s0), (0, s1), (0, ((n : Nat) : Int))], [(0, ((n : Nat) : Int)), (2, 295)], τ)) rfl rfl ?_
      refine TT.call (cd := cd92) rfl rfl rfl (by decide) rfl (t_canHire X ((n : Nat) : Int) np τ ((hfM (13) (by decide)).trans hb) hb2 ((hfr 307 (b) (by decide)).trans hnp) hnp2) (fun r3 σ3 hq => ?_)
      rw [hq.1, hq.2]
      refine TT.steps (cd := cd92) 1 (c' := ((if decide (((if mCanC τ b np ((n : Nat) : Int) then 1 else 0) : Int) = 0) = true then 61 else 37), [(2, 295), (0, ((p : Nat) : Int)), (0, w), (0, s0), (0, s1), (0, ((n : Nat) : Int))], [], τ)) rfl rfl ?_
      refine TT.br (p := ((if mCanC τ b np ((n : Nat) : Int) then 1 else 0) : Int) = 0) (fun h4 => ?_) (fun h4 => ?_)
      · replace h4 := ite_f h4
        refine TT.inc (cd := cd92) ((n + 1 : Nat) : Int) rfl rfl rfl rfl (fun h => absurd h.2 (show ¬ (0 = 1) by decide)) (aAdd_n (a := n) (b := 1) (by omega)) (ls' := [(2, 295), (0, ((p : Nat) : Int)), (0, w), (0, s0), (0, s1), (0, ((n + 1 : Nat) : Int))]) rfl ?_
        refine TT.steps (cd := cd92) 1 (c' := (17, [(2, 295), (0, ((p : Nat) : Int)), (0, w), (0, s0), (0, s1), (0, ((n + 1 : Nat) : Int))], [], τ)) rfl rfl ?_
        have e1 : mLs σ b np nt L p (n + 1) = (s0, s1, τ) := by
          rw [mLs, hS]
          unfold stLs
          dsimp only
          first | (rw [if_pos (by first | assumption | omega)]; done) | (rw [if_neg (by first | assumption | omega), if_neg (by first | assumption | omega)]; done) | (rw [if_neg (by first | assumption | omega), if_pos (by first | assumption | omega), if_neg (by first | assumption | omega)]; done) | (rw [if_neg (by first | assumption | omega), if_pos (by first | assumption | omega), if_pos (by first | assumption | omega), if_neg (by first | assumption | omega)]; done) | (rw [if_neg (by first | assumption | omega), if_pos (by first | assumption | omega), if_pos (by first | assumption | omega), if_pos (by first | assumption | omega)]; done)
        have := ih (n + 1) (by omega) (0, 0)
        rw [e1] at this
        exact this
      · replace h4 := ite_t h4
        refine TT.steps (cd := cd92) 2 (c' := (39, [(2, 295), (0, ((p : Nat) : Int)), (0, w), (0, s0), (0, s1), (0, ((n : Nat) : Int))], [(0, ((n : Nat) : Int)), (2, 295)], τ)) rfl rfl ?_
        refine TT.call (cd := cd92) rfl rfl rfl (by decide) rfl (t_coinOf X ((n : Nat) : Int) np τ ((hfM (13) (by decide)).trans hb) hb2 ((hfr 307 (b) (by decide)).trans hnp) hnp2) (fun r5 σ5 hq => ?_)
        rw [hq.1, hq.2]
        refine TT.steps (cd := cd92) 2 (c' := ((if decide ((mCoin τ b np ((n : Nat) : Int)) < s1) = true then 43 else 42), [(2, 295), (0, ((p : Nat) : Int)), (0, w), (0, s0), (0, s1), (0, ((n : Nat) : Int))], [], τ)) rfl rfl ?_
        refine TT.br (p := (mCoin τ b np ((n : Nat) : Int)) < s1) (fun h6 => ?_) (fun h6 => ?_)
        · refine TT.steps (cd := cd92) 2 (c' := (45, [(2, 295), (0, ((p : Nat) : Int)), (0, w), (0, s0), (0, s1), (0, ((n : Nat) : Int))], [(0, ((n : Nat) : Int)), (2, 295)], τ)) rfl rfl ?_
          refine TT.call (cd := cd92) rfl rfl rfl (by decide) rfl (t_dayWith X ((n : Nat) : Int) np nt L τ ((hfM (13) (by decide)).trans hb) hb2 ((hfr 307 (b) (by decide)).trans hnp) hnp2 ((hfr 300 (b) (by decide)).trans hnt) hnt2 (fun t ht => ⟨(show ∀ j, τ 304 j = σ 304 j from fun j => (hfr 304 (j) (by decide))) _ |>.trans (hL t ht).1, (hL t ht).2⟩)) (fun r7 σ7 hq => ?_)
          rw [hq.1, hq.2]
          refine TT.steps (cd := cd92) 3 (c' := (49, [(2, 295), (0, ((p : Nat) : Int)), (0, w), (0, s0), (0, s1), (0, ((n : Nat) : Int))], [(0, ((p : Nat) : Int)), (2, 334)], (mDW τ b np nt L ((n : Nat) : Int)))) rfl rfl ?_
          refine TT.aldN (cd := cd92) (334) (p) rfl rfl rfl rfl (show p < 10 by omega) ?_
          refine TT.steps (cd := cd92) 2 (c' := (52, [(2, 295), (0, ((p : Nat) : Int)), (0, w), (0, s0), (0, s1), (0, ((n : Nat) : Int))], [(0, ((p : Nat) : Int)), (2, 295), (0, ((mDW τ b np nt L ((n : Nat) : Int)) 334 p))], (mDW τ b np nt L ((n : Nat) : Int)))) rfl rfl ?_
          refine TT.call (cd := cd92) rfl rfl rfl (by decide) rfl (t_wishOf X p (by omega) (mDW τ b np nt L ((n : Nat) : Int)) (mDW_l _ _ _ _ _ _) (by decide)) (fun r8 σ8 hq => ?_)
          rw [hq.1, hq.2]
          refine TT.steps (cd := cd92) 1 (c' := ((if decide (((mDW τ b np nt L ((n : Nat) : Int)) 334 p) = ((mDW τ b np nt L ((n : Nat) : Int)) 321 (10 * 1 + p))) = true then 55 else 54), [(2, 295), (0, ((p : Nat) : Int)), (0, w), (0, s0), (0, s1), (0, ((n : Nat) : Int))], [], (mDW τ b np nt L ((n : Nat) : Int)))) rfl rfl ?_
          refine TT.br (p := ((mDW τ b np nt L ((n : Nat) : Int)) 334 p) = ((mDW τ b np nt L ((n : Nat) : Int)) 321 (10 * 1 + p))) (fun h9 => ?_) (fun h9 => ?_)
          · refine TT.steps (cd := cd92) 4 (c' := (59, [(2, 295), (0, ((p : Nat) : Int)), (0, w), (0, ((n : Nat) : Int)), (0, s1), (0, ((n : Nat) : Int))], [(0, ((n : Nat) : Int)), (2, 295)], (mDW τ b np nt L ((n : Nat) : Int)))) rfl rfl ?_
            refine TT.call (cd := cd92) rfl rfl rfl (by decide) rfl (t_coinOf X ((n : Nat) : Int) np (mDW τ b np nt L ((n : Nat) : Int)) (((mDW_M _ _ _ _ _ _ (13) (by decide)).trans (hfM (13) (by decide))).trans hb) hb2 (((mDW_fr _ _ _ _ _ _ 307 (b) (by decide)).trans (hfr 307 (b) (by decide))).trans hnp) hnp2) (fun r10 σ10 hq => ?_)
            rw [hq.1, hq.2]
            refine TT.steps (cd := cd92) 1 (c' := (61, [(2, 295), (0, ((p : Nat) : Int)), (0, w), (0, ((n : Nat) : Int)), (0, (mCoin (mDW τ b np nt L ((n : Nat) : Int)) b np ((n : Nat) : Int))), (0, ((n : Nat) : Int))], [], (mDW τ b np nt L ((n : Nat) : Int)))) rfl rfl ?_
            refine TT.inc (cd := cd92) ((n + 1 : Nat) : Int) rfl rfl rfl rfl (fun h => absurd h.2 (show ¬ (0 = 1) by decide)) (aAdd_n (a := n) (b := 1) (by omega)) (ls' := [(2, 295), (0, ((p : Nat) : Int)), (0, w), (0, ((n : Nat) : Int)), (0, (mCoin (mDW τ b np nt L ((n : Nat) : Int)) b np ((n : Nat) : Int))), (0, ((n + 1 : Nat) : Int))]) rfl ?_
            refine TT.steps (cd := cd92) 1 (c' := (17, [(2, 295), (0, ((p : Nat) : Int)), (0, w), (0, ((n : Nat) : Int)), (0, (mCoin (mDW τ b np nt L ((n : Nat) : Int)) b np ((n : Nat) : Int))), (0, ((n + 1 : Nat) : Int))], [], (mDW τ b np nt L ((n : Nat) : Int)))) rfl rfl ?_
            have e1 : mLs σ b np nt L p (n + 1) = (((n : Nat) : Int), (mCoin (mDW τ b np nt L ((n : Nat) : Int)) b np ((n : Nat) : Int)), (mDW τ b np nt L ((n : Nat) : Int))) := by
              rw [mLs, hS]
              unfold stLs
              dsimp only
              first | (rw [if_pos (by first | assumption | omega)]; done) | (rw [if_neg (by first | assumption | omega), if_neg (by first | assumption | omega)]; done) | (rw [if_neg (by first | assumption | omega), if_pos (by first | assumption | omega), if_neg (by first | assumption | omega)]; done) | (rw [if_neg (by first | assumption | omega), if_pos (by first | assumption | omega), if_pos (by first | assumption | omega), if_neg (by first | assumption | omega)]; done) | (rw [if_neg (by first | assumption | omega), if_pos (by first | assumption | omega), if_pos (by first | assumption | omega), if_pos (by first | assumption | omega)]; done)
            have := ih (n + 1) (by omega) (0, 0)
            rw [e1] at this
            exact this
          · refine TT.steps (cd := cd92) 1 (c' := (61, [(2, 295), (0, ((p : Nat) : Int)), (0, w), (0, s0), (0, s1), (0, ((n : Nat) : Int))], [], (mDW τ b np nt L ((n : Nat) : Int)))) rfl rfl ?_
            refine TT.inc (cd := cd92) ((n + 1 : Nat) : Int) rfl rfl rfl rfl (fun h => absurd h.2 (show ¬ (0 = 1) by decide)) (aAdd_n (a := n) (b := 1) (by omega)) (ls' := [(2, 295), (0, ((p : Nat) : Int)), (0, w), (0, s0), (0, s1), (0, ((n + 1 : Nat) : Int))]) rfl ?_
            refine TT.steps (cd := cd92) 1 (c' := (17, [(2, 295), (0, ((p : Nat) : Int)), (0, w), (0, s0), (0, s1), (0, ((n + 1 : Nat) : Int))], [], (mDW τ b np nt L ((n : Nat) : Int)))) rfl rfl ?_
            have e1 : mLs σ b np nt L p (n + 1) = (s0, s1, (mDW τ b np nt L ((n : Nat) : Int))) := by
              rw [mLs, hS]
              unfold stLs
              dsimp only
              first | (rw [if_pos (by first | assumption | omega)]; done) | (rw [if_neg (by first | assumption | omega), if_neg (by first | assumption | omega)]; done) | (rw [if_neg (by first | assumption | omega), if_pos (by first | assumption | omega), if_neg (by first | assumption | omega)]; done) | (rw [if_neg (by first | assumption | omega), if_pos (by first | assumption | omega), if_pos (by first | assumption | omega), if_neg (by first | assumption | omega)]; done) | (rw [if_neg (by first | assumption | omega), if_pos (by first | assumption | omega), if_pos (by first | assumption | omega), if_pos (by first | assumption | omega)]; done)
            have := ih (n + 1) (by omega) (0, 0)
            rw [e1] at this
            exact this
        · refine TT.steps (cd := cd92) 1 (c' := (61, [(2, 295), (0, ((p : Nat) : Int)), (0, w), (0, s0), (0, s1), (0, ((n : Nat) : Int))], [], τ)) rfl rfl ?_
          refine TT.inc (cd := cd92) ((n + 1 : Nat) : Int) rfl rfl rfl rfl (fun h => absurd h.2 (show ¬ (0 = 1) by decide)) (aAdd_n (a := n) (b := 1) (by omega)) (ls' := [(2, 295), (0, ((p : Nat) : Int)), (0, w), (0, s0), (0, s1), (0, ((n + 1 : Nat) : Int))]) rfl ?_
          refine TT.steps (cd := cd92) 1 (c' := (17, [(2, 295), (0, ((p : Nat) : Int)), (0, w), (0, s0), (0, s1), (0, ((n + 1 : Nat) : Int))], [], τ)) rfl rfl ?_
          have e1 : mLs σ b np nt L p (n + 1) = (s0, s1, τ) := by
            rw [mLs, hS]
            unfold stLs
            dsimp only
            first | (rw [if_pos (by first | assumption | omega)]; done) | (rw [if_neg (by first | assumption | omega), if_neg (by first | assumption | omega)]; done) | (rw [if_neg (by first | assumption | omega), if_pos (by first | assumption | omega), if_neg (by first | assumption | omega)]; done) | (rw [if_neg (by first | assumption | omega), if_pos (by first | assumption | omega), if_pos (by first | assumption | omega), if_neg (by first | assumption | omega)]; done) | (rw [if_neg (by first | assumption | omega), if_pos (by first | assumption | omega), if_pos (by first | assumption | omega), if_pos (by first | assumption | omega)]; done)
          have := ih (n + 1) (by omega) (0, 0)
          rw [e1] at this
          exact this
theorem t_least1 (X : AX) (p : Nat) (w : Int) (hw : 0 ≤ w ∧ w ≤ 1) (np nt : Nat) (L : Nat → Nat) (σ : AH) {b : Nat} (hb : σ 295 13 = (b : Int)) (hb2 : b < 2) (hnp : σ 307 b = (np : Int)) (hnp2 : np ≤ 10) (hnt : σ 300 b = (nt : Int)) (hnt2 : nt ≤ 6) (hL : ∀ t, t < nt → σ 304 (6 * b + t) = (L t : Int) ∧ 2 ≤ L t ∧ L t ≤ 8) (hp : p < np)  : TT X 92 (0, [(2, 295), (0, ((p : Nat) : Int)), (0, w), (9, 0), (9, 0), (9, 0)], [], σ) (fun r σ' => r = some (0, if (mLs σ b np nt L p (2 ^ np)).1 = -1 then -1 else if w = 0 then (mLs σ b np nt L p (2 ^ np)).2.1 else (mLs σ b np nt L p (2 ^ np)).1) ∧ σ' = (mLs σ b np nt L p (2 ^ np)).2.2) := by
  refine TT.steps (cd := cd92) 2 (c' := (2, [(2, 295), (0, ((p : Nat) : Int)), (0, w), (9, 0), (9, 0), (9, 0)], [(0, ((p : Nat) : Int)), (2, 295)], σ)) rfl rfl ?_
  refine TT.call (cd := cd92) rfl rfl rfl (by decide) rfl (t_isPerson X ((p : Nat) : Int) σ hb hb2) (fun r1 σ1 hq => ?_)
  rw [hq.1, hq.2, hnp]
  refine TT.steps (cd := cd92) 1 (c' := ((if decide (((if 0 ≤ ((p : Nat) : Int) ∧ ((p : Nat) : Int) < (np : Int) then 1 else 0) : Int) = 0) = true then 9 else 4), [(2, 295), (0, ((p : Nat) : Int)), (0, w), (9, 0), (9, 0), (9, 0)], [], σ)) rfl rfl ?_
  refine TT.br (p := ((if 0 ≤ ((p : Nat) : Int) ∧ ((p : Nat) : Int) < (np : Int) then 1 else 0) : Int) = 0) (fun h2 => absurd h2 (show ¬ (((if 0 ≤ ((p : Nat) : Int) ∧ ((p : Nat) : Int) < (np : Int) then 1 else 0) : Int) = 0) by (rw [if_pos (by first | assumption | omega)]; decide))) (fun h2 => ?_)
  refine TT.steps (cd := cd92) 3 (c' := (7, [(2, 295), (0, ((p : Nat) : Int)), (0, w), (9, 0), (9, 0), (9, 0)], [(0, 1), (0, 0), (0, w)], σ)) rfl rfl ?_
  refine TT.call (cd := cd92) rfl rfl rfl (by decide) rfl (t_is X w 0 1 σ) (fun r3 σ3 hq => ?_)
  rw [hq.1, hq.2]
  refine TT.steps (cd := cd92) 1 (c' := ((if decide (¬ ((if 0 ≤ w ∧ w ≤ 1 then 1 else 0) : Int) = 0) = true then 11 else 9), [(2, 295), (0, ((p : Nat) : Int)), (0, w), (9, 0), (9, 0), (9, 0)], [], σ)) rfl rfl ?_
  refine TT.br (p := ¬ ((if 0 ≤ w ∧ w ≤ 1 then 1 else 0) : Int) = 0) (fun h4 => ?_) (fun h4 => absurd (show ¬ ((if 0 ≤ w ∧ w ≤ 1 then 1 else 0) : Int) = 0 by (rw [if_pos (by first | assumption | omega)]; decide)) h4)
  refine TT.steps (cd := cd92) 6 (c' := (17, [(2, 295), (0, ((p : Nat) : Int)), (0, w), (0, -1), (0, 1000000), (0, 0)], [], σ)) rfl rfl ?_
  refine l_Ls X _ p np nt L σ hb hb2 hnp hnp2 hnt hnt2 hL w hp (0, 0) (fun x y => ?_) (2 ^ np) 0 (by omega) (0, 0)
  refine TT.steps (cd := cd92) 3 (c' := ((if decide (¬ (mLs σ b np nt L p (2 ^ np)).1 = (-1)) = true then 68 else 66), [(2, 295), (0, ((p : Nat) : Int)), (0, w), (0, (mLs σ b np nt L p (2 ^ np)).1), (0, (mLs σ b np nt L p (2 ^ np)).2.1), x], [], ((mLs σ b np nt L p (2 ^ np)).2.2))) rfl rfl ?_
  refine TT.br (p := ¬ (mLs σ b np nt L p (2 ^ np)).1 = (-1)) (fun h5 => ?_) (fun h5 => ?_)
  · refine TT.steps (cd := cd92) 2 (c' := ((if decide (¬ w = 0) = true then 72 else 70), [(2, 295), (0, ((p : Nat) : Int)), (0, w), (0, (mLs σ b np nt L p (2 ^ np)).1), (0, (mLs σ b np nt L p (2 ^ np)).2.1), x], [], ((mLs σ b np nt L p (2 ^ np)).2.2))) rfl rfl ?_
    refine TT.br (p := ¬ w = 0) (fun h6 => ?_) (fun h6 => ?_)
    · refine TT.steps (cd := cd92) 1 (c' := (73, [(2, 295), (0, ((p : Nat) : Int)), (0, w), (0, (mLs σ b np nt L p (2 ^ np)).1), (0, (mLs σ b np nt L p (2 ^ np)).2.1), x], [(0, (mLs σ b np nt L p (2 ^ np)).1)], ((mLs σ b np nt L p (2 ^ np)).2.2))) rfl rfl ?_
      exact TT.ret (cd := cd92) rfl rfl rfl rfl (⟨by first | rfl | (rw [if_pos (by omega)]; done) | (rw [if_neg (by omega), if_pos (by omega)]; done) | (rw [if_neg (by omega), if_neg (by omega)]; done) | (rw [if_neg (by omega)]; done) | (rw [if_neg (by omega), if_neg (by omega), if_pos (by omega)]; done) | (rw [if_neg (by omega), if_neg (by omega), if_neg (by omega)]; done), rfl⟩)
    · refine TT.steps (cd := cd92) 2 (c' := (73, [(2, 295), (0, ((p : Nat) : Int)), (0, w), (0, (mLs σ b np nt L p (2 ^ np)).1), (0, (mLs σ b np nt L p (2 ^ np)).2.1), x], [(0, (mLs σ b np nt L p (2 ^ np)).2.1)], ((mLs σ b np nt L p (2 ^ np)).2.2))) rfl rfl ?_
      exact TT.ret (cd := cd92) rfl rfl rfl rfl (⟨by first | rfl | (rw [if_pos (by omega)]; done) | (rw [if_neg (by omega), if_pos (by omega)]; done) | (rw [if_neg (by omega), if_neg (by omega)]; done) | (rw [if_neg (by omega)]; done) | (rw [if_neg (by omega), if_neg (by omega), if_pos (by omega)]; done) | (rw [if_neg (by omega), if_neg (by omega), if_neg (by omega)]; done), rfl⟩)
  · refine TT.steps (cd := cd92) 2 (c' := (73, [(2, 295), (0, ((p : Nat) : Int)), (0, w), (0, (mLs σ b np nt L p (2 ^ np)).1), (0, (mLs σ b np nt L p (2 ^ np)).2.1), x], [(0, -1)], ((mLs σ b np nt L p (2 ^ np)).2.2))) rfl rfl ?_
    exact TT.ret (cd := cd92) rfl rfl rfl rfl (⟨by first | rfl | (rw [if_pos (by omega)]; done) | (rw [if_neg (by omega), if_pos (by omega)]; done) | (rw [if_neg (by omega), if_neg (by omega)]; done) | (rw [if_neg (by omega)]; done) | (rw [if_neg (by omega), if_neg (by omega), if_pos (by omega)]; done) | (rw [if_neg (by omega), if_neg (by omega), if_neg (by omega)]; done), rfl⟩)
theorem t_least0 (X : AX) (p w : Int) (np nt : Nat) (L : Nat → Nat) (σ : AH) {b : Nat} (hb : σ 295 13 = (b : Int)) (hb2 : b < 2) (hnp : σ 307 b = (np : Int)) (hnp2 : np ≤ 10) (hnt : σ 300 b = (nt : Int)) (hnt2 : nt ≤ 6) (hL : ∀ t, t < nt → σ 304 (6 * b + t) = (L t : Int) ∧ 2 ≤ L t ∧ L t ≤ 8) (hp : ¬ (0 ≤ p ∧ p < (np : Int)) ∨ ¬ (0 ≤ w ∧ w ≤ 1))  : TT X 92 (0, [(2, 295), (0, p), (0, w), (9, 0), (9, 0), (9, 0)], [], σ) (fun r σ' => r = some (0, -1) ∧ σ' = σ) := by
  refine TT.steps (cd := cd92) 2 (c' := (2, [(2, 295), (0, p), (0, w), (9, 0), (9, 0), (9, 0)], [(0, p), (2, 295)], σ)) rfl rfl ?_
  refine TT.call (cd := cd92) rfl rfl rfl (by decide) rfl (t_isPerson X p σ hb hb2) (fun r1 σ1 hq => ?_)
  rw [hq.1, hq.2, hnp]
  refine TT.steps (cd := cd92) 1 (c' := ((if decide (((if 0 ≤ p ∧ p < (np : Int) then 1 else 0) : Int) = 0) = true then 9 else 4), [(2, 295), (0, p), (0, w), (9, 0), (9, 0), (9, 0)], [], σ)) rfl rfl ?_
  refine TT.br (p := ((if 0 ≤ p ∧ p < (np : Int) then 1 else 0) : Int) = 0) (fun h2 => ?_) (fun h2 => ?_)
  · replace h2 := ite_f h2
    refine TT.steps (cd := cd92) 1 (c' := (10, [(2, 295), (0, p), (0, w), (9, 0), (9, 0), (9, 0)], [(0, -1)], σ)) rfl rfl ?_
    exact TT.ret (cd := cd92) rfl rfl rfl rfl (⟨rfl, rfl⟩)
  · replace h2 := ite_t h2
    refine TT.steps (cd := cd92) 3 (c' := (7, [(2, 295), (0, p), (0, w), (9, 0), (9, 0), (9, 0)], [(0, 1), (0, 0), (0, w)], σ)) rfl rfl ?_
    refine TT.call (cd := cd92) rfl rfl rfl (by decide) rfl (t_is X w 0 1 σ) (fun r3 σ3 hq => ?_)
    rw [hq.1, hq.2]
    refine TT.steps (cd := cd92) 1 (c' := ((if decide (¬ ((if 0 ≤ w ∧ w ≤ 1 then 1 else 0) : Int) = 0) = true then 11 else 9), [(2, 295), (0, p), (0, w), (9, 0), (9, 0), (9, 0)], [], σ)) rfl rfl ?_
    refine TT.br (p := ¬ ((if 0 ≤ w ∧ w ≤ 1 then 1 else 0) : Int) = 0) (fun h4 => ?_) (fun h4 => ?_)
    · replace h4 := ite_t h4
      exfalso
      omega
    · replace h4 := ite_f (Decidable.not_not.mp h4)
      refine TT.steps (cd := cd92) 1 (c' := (10, [(2, 295), (0, p), (0, w), (9, 0), (9, 0), (9, 0)], [(0, -1)], σ)) rfl rfl ?_
      exact TT.ret (cd := cd92) rfl rfl rfl rfl (⟨rfl, rfl⟩)
def stBo (b np nt : Nat) (L : Nat → Nat) (p q : Nat) (n : Nat) (S : Int × Int × AH) : Int × Int × AH :=
  if aAnd (aShr ((n : Nat) : Int) ((p : Nat) : Int)) 1 = 1 then S else if aAnd (aShr ((n : Nat) : Int) ((q : Nat) : Int)) 1 = 1 then S else if mCanC S.2.2 b np ((n : Nat) : Int) then (if mCoin S.2.2 b np ((n : Nat) : Int) < S.2.1 then (if mDW S.2.2 b np nt L ((n : Nat) : Int) 334 p = mDW S.2.2 b np nt L ((n : Nat) : Int) 321 (10 * 1 + p) then (if mDW S.2.2 b np nt L ((n : Nat) : Int) 334 q = mDW S.2.2 b np nt L ((n : Nat) : Int) 321 (10 * 1 + q) then (((n : Nat) : Int), mCoin (mDW S.2.2 b np nt L ((n : Nat) : Int)) b np ((n : Nat) : Int), mDW S.2.2 b np nt L ((n : Nat) : Int)) else (S.1, S.2.1, mDW S.2.2 b np nt L ((n : Nat) : Int))) else (S.1, S.2.1, mDW S.2.2 b np nt L ((n : Nat) : Int))) else S) else S
def mBo (σ : AH) (b np nt : Nat) (L : Nat → Nat) (p q : Nat) : Nat → Int × Int × AH
  | 0 => (-1, 1000000, σ)
  | n + 1 => stBo b np nt L p q n (mBo σ b np nt L p q n)
theorem stBo_fr (b np nt : Nat) (L : Nat → Nat) (p q : Nat) (n : Nat) (S : Int × Int × AH) (c j : Nat) (h : c ≠ 295 ∧ (c < 316 ∨ 337 < c)) : (stBo b np nt L p q n S).2.2 c j = S.2.2 c j := by
    unfold stBo
    repeat' split
    all_goals first | rfl | exact mDW_fr _ _ _ _ _ _ _ _ h
theorem stBo_M (b np nt : Nat) (L : Nat → Nat) (p q : Nat) (n : Nat) (S : Int × Int × AH) (j : Nat) (h : j ≠ 46) : (stBo b np nt L p q n S).2.2 295 j = S.2.2 295 j := by
    unfold stBo
    repeat' split
    all_goals first | rfl | exact mDW_M _ _ _ _ _ _ _ h
theorem mBo_fr (σ : AH) (b np nt : Nat) (L : Nat → Nat) (p q : Nat) (n c j : Nat) (h : c ≠ 295 ∧ (c < 316 ∨ 337 < c)) : (mBo σ b np nt L p q n).2.2 c j = σ c j := by
  induction n with
  | zero => rfl
  | succ n ih => rw [mBo, stBo_fr _ _ _ _ _ _ _ _ _ _ h, ih]
theorem mBo_M (σ : AH) (b np nt : Nat) (L : Nat → Nat) (p q : Nat) (n j : Nat) (h : j ≠ 46) : (mBo σ b np nt L p q n).2.2 295 j = σ 295 j := by
  induction n with
  | zero => rfl
  | succ n ih => rw [mBo, stBo_M _ _ _ _ _ _ _ _ _ h, ih]
theorem l_Bo (X : AX) (Q : Option AV → AH → Prop) (p q : Nat) (np nt : Nat) (L : Nat → Nat) (σ : AH) {b : Nat} (hb : σ 295 13 = (b : Int)) (hb2 : b < 2) (hnp : σ 307 b = (np : Int)) (hnp2 : np ≤ 10) (hnt : σ 300 b = (nt : Int)) (hnt2 : nt ≤ 6) (hL : ∀ t, t < nt → σ 304 (6 * b + t) = (L t : Int) ∧ 2 ≤ L t ∧ L t ≤ 8) (w : Int) (hp : p < np) (hqq : q < np) (x0 : AV) (kk : ∀ x y : AV, TT X 93 (85, [(2, 295), (0, ((p : Nat) : Int)), (0, ((q : Nat) : Int)), (0, w), (0, (mBo σ b np nt L p q (2 ^ np)).1), (0, (mBo σ b np nt L p q (2 ^ np)).2.1), x], [], (mBo σ b np nt L p q (2 ^ np)).2.2) Q) : ∀ (d n : Nat), n + d = 2 ^ np → ∀ y : AV, TT X 93 (24, [(2, 295), (0, ((p : Nat) : Int)), (0, ((q : Nat) : Int)), (0, w), (0, (mBo σ b np nt L p q n).1), (0, (mBo σ b np nt L p q n).2.1), (0, ((n : Nat) : Int))], [], (mBo σ b np nt L p q n).2.2) Q := by
  intro d
  have hN : 2 ^ np ≤ 1024 := pw10 np hnp2
  induction d with
  | zero =>
    intro n hn y
    have hnn : n = 2 ^ np := by omega
    have hfr := fun c j h => mBo_fr σ b np nt L p q n c j h
    have hfM := fun j h => mBo_M σ b np nt L p q n j h
    subst hnn
    obtain ⟨⟨s0, s1, τ⟩, hS⟩ : ∃ S, mBo σ b np nt L p q (2 ^ np) = S := ⟨_, rfl⟩
    rw [hS] at hfr hfM ⊢
    rw [hS] at kk
    dsimp only at hfr hfM ⊢ kk
    refine TT.steps (cd := cd93) 6 (c' := (30, [(2, 295), (0, ((p : Nat) : Int)), (0, ((q : Nat) : Int)), (0, w), (0, s0), (0, s1), (0, (((2 ^ np) : Nat) : Int))], [(0, (τ 295 13)), (2, 307), (0, 1), (0, (((2 ^ np) : Nat) : Int))], τ)) rfl rfl ?_
    refine TT.top0 (z := ((b : Nat) : Int)) ((hfM (13) (by decide)).trans hb) ?_
    refine TT.aldN (cd := cd93) (307) (b) rfl rfl rfl rfl (show b < 2 by omega) ?_
    refine TT.top0 (z := ((np : Nat) : Int)) ((hfr 307 (b) (by decide)).trans hnp) ?_
    refine TT.steps (cd := cd93) 1 (c' := (32, [(2, 295), (0, ((p : Nat) : Int)), (0, ((q : Nat) : Int)), (0, w), (0, s0), (0, s1), (0, (((2 ^ np) : Nat) : Int))], [(0, (aShl 1 ((np : Nat) : Int))), (0, (((2 ^ np) : Nat) : Int))], τ)) rfl rfl ?_
    refine TT.top0 (z := (((2 ^ np) : Nat) : Int)) (shl1 np hnp2) ?_
    refine TT.steps (cd := cd93) 1 (c' := ((if decide ((((2 ^ np) : Nat) : Int) ≤ (((2 ^ np) : Nat) : Int)) = true then 85 else 33), [(2, 295), (0, ((p : Nat) : Int)), (0, ((q : Nat) : Int)), (0, w), (0, s0), (0, s1), (0, (((2 ^ np) : Nat) : Int))], [], τ)) rfl rfl ?_
    refine TT.br (p := (((2 ^ np) : Nat) : Int) ≤ (((2 ^ np) : Nat) : Int)) (fun h1 => ?_) (fun h1 => absurd (show (((2 ^ np) : Nat) : Int) ≤ (((2 ^ np) : Nat) : Int) by omega) h1)
    exact kk _ (0, 0)
  | succ d ih =>
    intro n hn y
    have hfr := fun c j h => mBo_fr σ b np nt L p q n c j h
    have hfM := fun j h => mBo_M σ b np nt L p q n j h
    obtain ⟨⟨s0, s1, τ⟩, hS⟩ : ∃ S, mBo σ b np nt L p q n = S := ⟨_, rfl⟩
    rw [hS] at hfr hfM ⊢
    dsimp only at hfr hfM ⊢
    refine TT.steps (cd := cd93) 6 (c' := (30, [(2, 295), (0, ((p : Nat) : Int)), (0, ((q : Nat) : Int)), (0, w), (0, s0), (0, s1), (0, ((n : Nat) : Int))], [(0, (τ 295 13)), (2, 307), (0, 1), (0, ((n : Nat) : Int))], τ)) rfl rfl ?_
    refine TT.top0 (z := ((b : Nat) : Int)) ((hfM (13) (by decide)).trans hb) ?_
    refine TT.aldN (cd := cd93) (307) (b) rfl rfl rfl rfl (show b < 2 by omega) ?_
    refine TT.top0 (z := ((np : Nat) : Int)) ((hfr 307 (b) (by decide)).trans hnp) ?_
    refine TT.steps (cd := cd93) 1 (c' := (32, [(2, 295), (0, ((p : Nat) : Int)), (0, ((q : Nat) : Int)), (0, w), (0, s0), (0, s1), (0, ((n : Nat) : Int))], [(0, (aShl 1 ((np : Nat) : Int))), (0, ((n : Nat) : Int))], τ)) rfl rfl ?_
    refine TT.top0 (z := (((2 ^ np) : Nat) : Int)) (shl1 np hnp2) ?_
    refine TT.steps (cd := cd93) 1 (c' := ((if decide ((((2 ^ np) : Nat) : Int) ≤ ((n : Nat) : Int)) = true then 85 else 33), [(2, 295), (0, ((p : Nat) : Int)), (0, ((q : Nat) : Int)), (0, w), (0, s0), (0, s1), (0, ((n : Nat) : Int))], [], τ)) rfl rfl ?_
    refine TT.br (p := (((2 ^ np) : Nat) : Int) ≤ ((n : Nat) : Int)) (fun h1 => absurd h1 (show ¬ ((((2 ^ np) : Nat) : Int) ≤ ((n : Nat) : Int)) by omega)) (fun h1 => ?_)
    refine TT.steps (cd := cd93) 7 (c' := ((if decide ((aAnd (aShr ((n : Nat) : Int) ((p : Nat) : Int)) 1) = 1) = true then 83 else 40), [(2, 295), (0, ((p : Nat) : Int)), (0, ((q : Nat) : Int)), (0, w), (0, s0), (0, s1), (0, ((n : Nat) : Int))], [], τ)) rfl rfl ?_
    refine TT.br (p := (aAnd (aShr ((n : Nat) : Int) ((p : Nat) : Int)) 1) = 1) (fun h2 => ?_) (fun h2 => ?_)
    · refine TT.inc (cd := cd93) ((n + 1 : Nat) : Int) rfl rfl rfl rfl (fun h => absurd h.2 (show ¬ (0 = 1) by decide)) (aAdd_n (a := n) (b := 1) (by omega)) (ls' := [(2, 295), (0, ((p : Nat) : Int)), (0, ((q : Nat) : Int)), (0, w), (0, s0), (0, s1), (0, ((n + 1 : Nat) : Int))]) rfl ?_
      refine TT.steps (cd := cd93) 1 (c' := (24, [(2, 295), (0, ((p : Nat) : Int)), (0, ((q : Nat) : Int)), (0, w), (0, s0), (0, s1), (0, ((n + 1 : Nat) : Int))], [], τ)) rfl rfl ?_
      have e1 : mBo σ b np nt L p q (n + 1) = (s0, s1, τ) := by
        rw [mBo, hS]
        unfold stBo
        dsimp only
        first | (rw [if_pos (by first | assumption | omega)]; done) | (rw [if_neg (by first | assumption | omega), if_pos (by first | assumption | omega)]; done) | (rw [if_neg (by first | assumption | omega), if_neg (by first | assumption | omega), if_neg (by first | assumption | omega)]; done) | (rw [if_neg (by first | assumption | omega), if_neg (by first | assumption | omega), if_pos (by first | assumption | omega), if_neg (by first | assumption | omega)]; done) | (rw [if_neg (by first | assumption | omega), if_neg (by first | assumption | omega), if_pos (by first | assumption | omega), if_pos (by first | assumption | omega), if_neg (by first | assumption | omega)]; done) | (rw [if_neg (by first | assumption | omega), if_neg (by first | assumption | omega), if_pos (by first | assumption | omega), if_pos (by first | assumption | omega), if_pos (by first | assumption | omega), if_neg (by first | assumption | omega)]; done) | (rw [if_neg (by first | assumption | omega), if_neg (by first | assumption | omega), if_pos (by first | assumption | omega), if_pos (by first | assumption | omega), if_pos (by first | assumption | omega), if_pos (by first | assumption | omega)]; done)
      have := ih (n + 1) (by omega) (0, 0)
      rw [e1] at this
      exact this
    · refine TT.steps (cd := cd93) 7 (c' := ((if decide ((aAnd (aShr ((n : Nat) : Int) ((q : Nat) : Int)) 1) = 1) = true then 83 else 47), [(2, 295), (0, ((p : Nat) : Int)), (0, ((q : Nat) : Int)), (0, w), (0, s0), (0, s1), (0, ((n : Nat) : Int))], [], τ)) rfl rfl ?_
      refine TT.br (p := (aAnd (aShr ((n : Nat) : Int) ((q : Nat) : Int)) 1) = 1) (fun h3 => ?_) (fun h3 => ?_)
      · refine TT.inc (cd := cd93) ((n + 1 : Nat) : Int) rfl rfl rfl rfl (fun h => absurd h.2 (show ¬ (0 = 1) by decide)) (aAdd_n (a := n) (b := 1) (by omega)) (ls' := [(2, 295), (0, ((p : Nat) : Int)), (0, ((q : Nat) : Int)), (0, w), (0, s0), (0, s1), (0, ((n + 1 : Nat) : Int))]) rfl ?_
        refine TT.steps (cd := cd93) 1 (c' := (24, [(2, 295), (0, ((p : Nat) : Int)), (0, ((q : Nat) : Int)), (0, w), (0, s0), (0, s1), (0, ((n + 1 : Nat) : Int))], [], τ)) rfl rfl ?_
        have e1 : mBo σ b np nt L p q (n + 1) = (s0, s1, τ) := by
          rw [mBo, hS]
          unfold stBo
          dsimp only
          first | (rw [if_pos (by first | assumption | omega)]; done) | (rw [if_neg (by first | assumption | omega), if_pos (by first | assumption | omega)]; done) | (rw [if_neg (by first | assumption | omega), if_neg (by first | assumption | omega), if_neg (by first | assumption | omega)]; done) | (rw [if_neg (by first | assumption | omega), if_neg (by first | assumption | omega), if_pos (by first | assumption | omega), if_neg (by first | assumption | omega)]; done) | (rw [if_neg (by first | assumption | omega), if_neg (by first | assumption | omega), if_pos (by first | assumption | omega), if_pos (by first | assumption | omega), if_neg (by first | assumption | omega)]; done) | (rw [if_neg (by first | assumption | omega), if_neg (by first | assumption | omega), if_pos (by first | assumption | omega), if_pos (by first | assumption | omega), if_pos (by first | assumption | omega), if_neg (by first | assumption | omega)]; done) | (rw [if_neg (by first | assumption | omega), if_neg (by first | assumption | omega), if_pos (by first | assumption | omega), if_pos (by first | assumption | omega), if_pos (by first | assumption | omega), if_pos (by first | assumption | omega)]; done)
        have := ih (n + 1) (by omega) (0, 0)
        rw [e1] at this
        exact this
      · refine TT.steps (cd := cd93) 2 (c' := (49, [(2, 295), (0, ((p : Nat) : Int)), (0, ((q : Nat) : Int)), (0, w), (0, s0), (0, s1), (0, ((n : Nat) : Int))], [(0, ((n : Nat) : Int)), (2, 295)], τ)) rfl rfl ?_
        refine TT.call (cd := cd93) rfl rfl rfl (by decide) rfl (t_canHire X ((n : Nat) : Int) np τ ((hfM (13) (by decide)).trans hb) hb2 ((hfr 307 (b) (by decide)).trans hnp) hnp2) (fun r4 σ4 hq => ?_)
        rw [hq.1, hq.2]
        refine TT.steps (cd := cd93) 1 (c' := ((if decide (((if mCanC τ b np ((n : Nat) : Int) then 1 else 0) : Int) = 0) = true then 83 else 51), [(2, 295), (0, ((p : Nat) : Int)), (0, ((q : Nat) : Int)), (0, w), (0, s0), (0, s1), (0, ((n : Nat) : Int))], [], τ)) rfl rfl ?_
        refine TT.br (p := ((if mCanC τ b np ((n : Nat) : Int) then 1 else 0) : Int) = 0) (fun h5 => ?_) (fun h5 => ?_)
        · replace h5 := ite_f h5
          refine TT.inc (cd := cd93) ((n + 1 : Nat) : Int) rfl rfl rfl rfl (fun h => absurd h.2 (show ¬ (0 = 1) by decide)) (aAdd_n (a := n) (b := 1) (by omega)) (ls' := [(2, 295), (0, ((p : Nat) : Int)), (0, ((q : Nat) : Int)), (0, w), (0, s0), (0, s1), (0, ((n + 1 : Nat) : Int))]) rfl ?_
          refine TT.steps (cd := cd93) 1 (c' := (24, [(2, 295), (0, ((p : Nat) : Int)), (0, ((q : Nat) : Int)), (0, w), (0, s0), (0, s1), (0, ((n + 1 : Nat) : Int))], [], τ)) rfl rfl ?_
          have e1 : mBo σ b np nt L p q (n + 1) = (s0, s1, τ) := by
            rw [mBo, hS]
            unfold stBo
            dsimp only
            first | (rw [if_pos (by first | assumption | omega)]; done) | (rw [if_neg (by first | assumption | omega), if_pos (by first | assumption | omega)]; done) | (rw [if_neg (by first | assumption | omega), if_neg (by first | assumption | omega), if_neg (by first | assumption | omega)]; done) | (rw [if_neg (by first | assumption | omega), if_neg (by first | assumption | omega), if_pos (by first | assumption | omega), if_neg (by first | assumption | omega)]; done) | (rw [if_neg (by first | assumption | omega), if_neg (by first | assumption | omega), if_pos (by first | assumption | omega), if_pos (by first | assumption | omega), if_neg (by first | assumption | omega)]; done) | (rw [if_neg (by first | assumption | omega), if_neg (by first | assumption | omega), if_pos (by first | assumption | omega), if_pos (by first | assumption | omega), if_pos (by first | assumption | omega), if_neg (by first | assumption | omega)]; done) | (rw [if_neg (by first | assumption | omega), if_neg (by first | assumption | omega), if_pos (by first | assumption | omega), if_pos (by first | assumption | omega), if_pos (by first | assumption | omega), if_pos (by first | assumption | omega)]; done)
          have := ih (n + 1) (by omega) (0, 0)
          rw [e1] at this
          exact this
        · replace h5 := ite_t h5
          refine TT.steps (cd := cd93) 2 (c' := (53, [(2, 295), (0, ((p : Nat) : Int)), (0, ((q : Nat) : Int)), (0, w), (0, s0), (0, s1), (0, ((n : Nat) : Int))], [(0, ((n : Nat) : Int)), (2, 295)], τ)) rfl rfl ?_
          refine TT.call (cd := cd93) rfl rfl rfl (by decide) rfl (t_coinOf X ((n : Nat) : Int) np τ ((hfM (13) (by decide)).trans hb) hb2 ((hfr 307 (b) (by decide)).trans hnp) hnp2) (fun r6 σ6 hq => ?_)
          rw [hq.1, hq.2]
          refine TT.steps (cd := cd93) 2 (c' := ((if decide ((mCoin τ b np ((n : Nat) : Int)) < s1) = true then 57 else 56), [(2, 295), (0, ((p : Nat) : Int)), (0, ((q : Nat) : Int)), (0, w), (0, s0), (0, s1), (0, ((n : Nat) : Int))], [], τ)) rfl rfl ?_
          refine TT.br (p := (mCoin τ b np ((n : Nat) : Int)) < s1) (fun h7 => ?_) (fun h7 => ?_)
          · refine TT.steps (cd := cd93) 2 (c' := (59, [(2, 295), (0, ((p : Nat) : Int)), (0, ((q : Nat) : Int)), (0, w), (0, s0), (0, s1), (0, ((n : Nat) : Int))], [(0, ((n : Nat) : Int)), (2, 295)], τ)) rfl rfl ?_
            refine TT.call (cd := cd93) rfl rfl rfl (by decide) rfl (t_dayWith X ((n : Nat) : Int) np nt L τ ((hfM (13) (by decide)).trans hb) hb2 ((hfr 307 (b) (by decide)).trans hnp) hnp2 ((hfr 300 (b) (by decide)).trans hnt) hnt2 (fun t ht => ⟨(show ∀ j, τ 304 j = σ 304 j from fun j => (hfr 304 (j) (by decide))) _ |>.trans (hL t ht).1, (hL t ht).2⟩)) (fun r8 σ8 hq => ?_)
            rw [hq.1, hq.2]
            refine TT.steps (cd := cd93) 3 (c' := (63, [(2, 295), (0, ((p : Nat) : Int)), (0, ((q : Nat) : Int)), (0, w), (0, s0), (0, s1), (0, ((n : Nat) : Int))], [(0, ((p : Nat) : Int)), (2, 334)], (mDW τ b np nt L ((n : Nat) : Int)))) rfl rfl ?_
            refine TT.aldN (cd := cd93) (334) (p) rfl rfl rfl rfl (show p < 10 by omega) ?_
            refine TT.steps (cd := cd93) 2 (c' := (66, [(2, 295), (0, ((p : Nat) : Int)), (0, ((q : Nat) : Int)), (0, w), (0, s0), (0, s1), (0, ((n : Nat) : Int))], [(0, ((p : Nat) : Int)), (2, 295), (0, ((mDW τ b np nt L ((n : Nat) : Int)) 334 p))], (mDW τ b np nt L ((n : Nat) : Int)))) rfl rfl ?_
            refine TT.call (cd := cd93) rfl rfl rfl (by decide) rfl (t_wishOf X p (by omega) (mDW τ b np nt L ((n : Nat) : Int)) (mDW_l _ _ _ _ _ _) (by decide)) (fun r9 σ9 hq => ?_)
            rw [hq.1, hq.2]
            refine TT.steps (cd := cd93) 1 (c' := ((if decide (¬ ((mDW τ b np nt L ((n : Nat) : Int)) 334 p) = ((mDW τ b np nt L ((n : Nat) : Int)) 321 (10 * 1 + p))) = true then 83 else 68), [(2, 295), (0, ((p : Nat) : Int)), (0, ((q : Nat) : Int)), (0, w), (0, s0), (0, s1), (0, ((n : Nat) : Int))], [], (mDW τ b np nt L ((n : Nat) : Int)))) rfl rfl ?_
            refine TT.br (p := ¬ ((mDW τ b np nt L ((n : Nat) : Int)) 334 p) = ((mDW τ b np nt L ((n : Nat) : Int)) 321 (10 * 1 + p))) (fun h10 => ?_) (fun h10 => ?_)
            · refine TT.inc (cd := cd93) ((n + 1 : Nat) : Int) rfl rfl rfl rfl (fun h => absurd h.2 (show ¬ (0 = 1) by decide)) (aAdd_n (a := n) (b := 1) (by omega)) (ls' := [(2, 295), (0, ((p : Nat) : Int)), (0, ((q : Nat) : Int)), (0, w), (0, s0), (0, s1), (0, ((n + 1 : Nat) : Int))]) rfl ?_
              refine TT.steps (cd := cd93) 1 (c' := (24, [(2, 295), (0, ((p : Nat) : Int)), (0, ((q : Nat) : Int)), (0, w), (0, s0), (0, s1), (0, ((n + 1 : Nat) : Int))], [], (mDW τ b np nt L ((n : Nat) : Int)))) rfl rfl ?_
              have e1 : mBo σ b np nt L p q (n + 1) = (s0, s1, (mDW τ b np nt L ((n : Nat) : Int))) := by
                rw [mBo, hS]
                unfold stBo
                dsimp only
                first | (rw [if_pos (by first | assumption | omega)]; done) | (rw [if_neg (by first | assumption | omega), if_pos (by first | assumption | omega)]; done) | (rw [if_neg (by first | assumption | omega), if_neg (by first | assumption | omega), if_neg (by first | assumption | omega)]; done) | (rw [if_neg (by first | assumption | omega), if_neg (by first | assumption | omega), if_pos (by first | assumption | omega), if_neg (by first | assumption | omega)]; done) | (rw [if_neg (by first | assumption | omega), if_neg (by first | assumption | omega), if_pos (by first | assumption | omega), if_pos (by first | assumption | omega), if_neg (by first | assumption | omega)]; done) | (rw [if_neg (by first | assumption | omega), if_neg (by first | assumption | omega), if_pos (by first | assumption | omega), if_pos (by first | assumption | omega), if_pos (by first | assumption | omega), if_neg (by first | assumption | omega)]; done) | (rw [if_neg (by first | assumption | omega), if_neg (by first | assumption | omega), if_pos (by first | assumption | omega), if_pos (by first | assumption | omega), if_pos (by first | assumption | omega), if_pos (by first | assumption | omega)]; done)
              have := ih (n + 1) (by omega) (0, 0)
              rw [e1] at this
              exact this
            · refine TT.steps (cd := cd93) 3 (c' := (71, [(2, 295), (0, ((p : Nat) : Int)), (0, ((q : Nat) : Int)), (0, w), (0, s0), (0, s1), (0, ((n : Nat) : Int))], [(0, ((q : Nat) : Int)), (2, 334)], (mDW τ b np nt L ((n : Nat) : Int)))) rfl rfl ?_
              refine TT.aldN (cd := cd93) (334) (q) rfl rfl rfl rfl (show q < 10 by omega) ?_
              refine TT.steps (cd := cd93) 2 (c' := (74, [(2, 295), (0, ((p : Nat) : Int)), (0, ((q : Nat) : Int)), (0, w), (0, s0), (0, s1), (0, ((n : Nat) : Int))], [(0, ((q : Nat) : Int)), (2, 295), (0, ((mDW τ b np nt L ((n : Nat) : Int)) 334 q))], (mDW τ b np nt L ((n : Nat) : Int)))) rfl rfl ?_
              refine TT.call (cd := cd93) rfl rfl rfl (by decide) rfl (t_wishOf X q (by omega) (mDW τ b np nt L ((n : Nat) : Int)) (mDW_l _ _ _ _ _ _) (by decide)) (fun r11 σ11 hq => ?_)
              rw [hq.1, hq.2]
              refine TT.steps (cd := cd93) 1 (c' := ((if decide (((mDW τ b np nt L ((n : Nat) : Int)) 334 q) = ((mDW τ b np nt L ((n : Nat) : Int)) 321 (10 * 1 + q))) = true then 77 else 76), [(2, 295), (0, ((p : Nat) : Int)), (0, ((q : Nat) : Int)), (0, w), (0, s0), (0, s1), (0, ((n : Nat) : Int))], [], (mDW τ b np nt L ((n : Nat) : Int)))) rfl rfl ?_
              refine TT.br (p := ((mDW τ b np nt L ((n : Nat) : Int)) 334 q) = ((mDW τ b np nt L ((n : Nat) : Int)) 321 (10 * 1 + q))) (fun h12 => ?_) (fun h12 => ?_)
              · refine TT.steps (cd := cd93) 4 (c' := (81, [(2, 295), (0, ((p : Nat) : Int)), (0, ((q : Nat) : Int)), (0, w), (0, ((n : Nat) : Int)), (0, s1), (0, ((n : Nat) : Int))], [(0, ((n : Nat) : Int)), (2, 295)], (mDW τ b np nt L ((n : Nat) : Int)))) rfl rfl ?_
                refine TT.call (cd := cd93) rfl rfl rfl (by decide) rfl (t_coinOf X ((n : Nat) : Int) np (mDW τ b np nt L ((n : Nat) : Int)) (((mDW_M _ _ _ _ _ _ (13) (by decide)).trans (hfM (13) (by decide))).trans hb) hb2 (((mDW_fr _ _ _ _ _ _ 307 (b) (by decide)).trans (hfr 307 (b) (by decide))).trans hnp) hnp2) (fun r13 σ13 hq => ?_)
                rw [hq.1, hq.2]
                refine TT.steps (cd := cd93) 1 (c' := (83, [(2, 295), (0, ((p : Nat) : Int)), (0, ((q : Nat) : Int)), (0, w), (0, ((n : Nat) : Int)), (0, (mCoin (mDW τ b np nt L ((n : Nat) : Int)) b np ((n : Nat) : Int))), (0, ((n : Nat) : Int))], [], (mDW τ b np nt L ((n : Nat) : Int)))) rfl rfl ?_
                refine TT.inc (cd := cd93) ((n + 1 : Nat) : Int) rfl rfl rfl rfl (fun h => absurd h.2 (show ¬ (0 = 1) by decide)) (aAdd_n (a := n) (b := 1) (by omega)) (ls' := [(2, 295), (0, ((p : Nat) : Int)), (0, ((q : Nat) : Int)), (0, w), (0, ((n : Nat) : Int)), (0, (mCoin (mDW τ b np nt L ((n : Nat) : Int)) b np ((n : Nat) : Int))), (0, ((n + 1 : Nat) : Int))]) rfl ?_
                refine TT.steps (cd := cd93) 1 (c' := (24, [(2, 295), (0, ((p : Nat) : Int)), (0, ((q : Nat) : Int)), (0, w), (0, ((n : Nat) : Int)), (0, (mCoin (mDW τ b np nt L ((n : Nat) : Int)) b np ((n : Nat) : Int))), (0, ((n + 1 : Nat) : Int))], [], (mDW τ b np nt L ((n : Nat) : Int)))) rfl rfl ?_
                have e1 : mBo σ b np nt L p q (n + 1) = (((n : Nat) : Int), (mCoin (mDW τ b np nt L ((n : Nat) : Int)) b np ((n : Nat) : Int)), (mDW τ b np nt L ((n : Nat) : Int))) := by
                  rw [mBo, hS]
                  unfold stBo
                  dsimp only
                  first | (rw [if_pos (by first | assumption | omega)]; done) | (rw [if_neg (by first | assumption | omega), if_pos (by first | assumption | omega)]; done) | (rw [if_neg (by first | assumption | omega), if_neg (by first | assumption | omega), if_neg (by first | assumption | omega)]; done) | (rw [if_neg (by first | assumption | omega), if_neg (by first | assumption | omega), if_pos (by first | assumption | omega), if_neg (by first | assumption | omega)]; done) | (rw [if_neg (by first | assumption | omega), if_neg (by first | assumption | omega), if_pos (by first | assumption | omega), if_pos (by first | assumption | omega), if_neg (by first | assumption | omega)]; done) | (rw [if_neg (by first | assumption | omega), if_neg (by first | assumption | omega), if_pos (by first | assumption | omega), if_pos (by first | assumption | omega), if_pos (by first | assumption | omega), if_neg (by first | assumption | omega)]; done) | (rw [if_neg (by first | assumption | omega), if_neg (by first | assumption | omega), if_pos (by first | assumption | omega), if_pos (by first | assumption | omega), if_pos (by first | assumption | omega), if_pos (by first | assumption | omega)]; done)
                have := ih (n + 1) (by omega) (0, 0)
                rw [e1] at this
                exact this
              · refine TT.steps (cd := cd93) 1 (c' := (83, [(2, 295), (0, ((p : Nat) : Int)), (0, ((q : Nat) : Int)), (0, w), (0, s0), (0, s1), (0, ((n : Nat) : Int))], [], (mDW τ b np nt L ((n : Nat) : Int)))) rfl rfl ?_
                refine TT.inc (cd := cd93) ((n + 1 : Nat) : Int) rfl rfl rfl rfl (fun h => absurd h.2 (show ¬ (0 = 1) by decide)) (aAdd_n (a := n) (b := 1) (by omega)) (ls' := [(2, 295), (0, ((p : Nat) : Int)), (0, ((q : Nat) : Int)), (0, w), (0, s0), (0, s1), (0, ((n + 1 : Nat) : Int))]) rfl ?_
                refine TT.steps (cd := cd93) 1 (c' := (24, [(2, 295), (0, ((p : Nat) : Int)), (0, ((q : Nat) : Int)), (0, w), (0, s0), (0, s1), (0, ((n + 1 : Nat) : Int))], [], (mDW τ b np nt L ((n : Nat) : Int)))) rfl rfl ?_
                have e1 : mBo σ b np nt L p q (n + 1) = (s0, s1, (mDW τ b np nt L ((n : Nat) : Int))) := by
                  rw [mBo, hS]
                  unfold stBo
                  dsimp only
                  first | (rw [if_pos (by first | assumption | omega)]; done) | (rw [if_neg (by first | assumption | omega), if_pos (by first | assumption | omega)]; done) | (rw [if_neg (by first | assumption | omega), if_neg (by first | assumption | omega), if_neg (by first | assumption | omega)]; done) | (rw [if_neg (by first | assumption | omega), if_neg (by first | assumption | omega), if_pos (by first | assumption | omega), if_neg (by first | assumption | omega)]; done) | (rw [if_neg (by first | assumption | omega), if_neg (by first | assumption | omega), if_pos (by first | assumption | omega), if_pos (by first | assumption | omega), if_neg (by first | assumption | omega)]; done) | (rw [if_neg (by first | assumption | omega), if_neg (by first | assumption | omega), if_pos (by first | assumption | omega), if_pos (by first | assumption | omega), if_pos (by first | assumption | omega), if_neg (by first | assumption | omega)]; done) | (rw [if_neg (by first | assumption | omega), if_neg (by first | assumption | omega), if_pos (by first | assumption | omega), if_pos (by first | assumption | omega), if_pos (by first | assumption | omega), if_pos (by first | assumption | omega)]; done)
                have := ih (n + 1) (by omega) (0, 0)
                rw [e1] at this
                exact this
          · refine TT.steps (cd := cd93) 1 (c' := (83, [(2, 295), (0, ((p : Nat) : Int)), (0, ((q : Nat) : Int)), (0, w), (0, s0), (0, s1), (0, ((n : Nat) : Int))], [], τ)) rfl rfl ?_
            refine TT.inc (cd := cd93) ((n + 1 : Nat) : Int) rfl rfl rfl rfl (fun h => absurd h.2 (show ¬ (0 = 1) by decide)) (aAdd_n (a := n) (b := 1) (by omega)) (ls' := [(2, 295), (0, ((p : Nat) : Int)), (0, ((q : Nat) : Int)), (0, w), (0, s0), (0, s1), (0, ((n + 1 : Nat) : Int))]) rfl ?_
            refine TT.steps (cd := cd93) 1 (c' := (24, [(2, 295), (0, ((p : Nat) : Int)), (0, ((q : Nat) : Int)), (0, w), (0, s0), (0, s1), (0, ((n + 1 : Nat) : Int))], [], τ)) rfl rfl ?_
            have e1 : mBo σ b np nt L p q (n + 1) = (s0, s1, τ) := by
              rw [mBo, hS]
              unfold stBo
              dsimp only
              first | (rw [if_pos (by first | assumption | omega)]; done) | (rw [if_neg (by first | assumption | omega), if_pos (by first | assumption | omega)]; done) | (rw [if_neg (by first | assumption | omega), if_neg (by first | assumption | omega), if_neg (by first | assumption | omega)]; done) | (rw [if_neg (by first | assumption | omega), if_neg (by first | assumption | omega), if_pos (by first | assumption | omega), if_neg (by first | assumption | omega)]; done) | (rw [if_neg (by first | assumption | omega), if_neg (by first | assumption | omega), if_pos (by first | assumption | omega), if_pos (by first | assumption | omega), if_neg (by first | assumption | omega)]; done) | (rw [if_neg (by first | assumption | omega), if_neg (by first | assumption | omega), if_pos (by first | assumption | omega), if_pos (by first | assumption | omega), if_pos (by first | assumption | omega), if_neg (by first | assumption | omega)]; done) | (rw [if_neg (by first | assumption | omega), if_neg (by first | assumption | omega), if_pos (by first | assumption | omega), if_pos (by first | assumption | omega), if_pos (by first | assumption | omega), if_pos (by first | assumption | omega)]; done)
            have := ih (n + 1) (by omega) (0, 0)
            rw [e1] at this
            exact this
theorem t_both1 (X : AX) (p q : Nat) (hpq : ¬ p = q) (w : Int) (hw : 0 ≤ w ∧ w ≤ 1) (np nt : Nat) (L : Nat → Nat) (σ : AH) {b : Nat} (hb : σ 295 13 = (b : Int)) (hb2 : b < 2) (hnp : σ 307 b = (np : Int)) (hnp2 : np ≤ 10) (hnt : σ 300 b = (nt : Int)) (hnt2 : nt ≤ 6) (hL : ∀ t, t < nt → σ 304 (6 * b + t) = (L t : Int) ∧ 2 ≤ L t ∧ L t ≤ 8) (hp : p < np) (hqq : q < np)  : TT X 93 (0, [(2, 295), (0, ((p : Nat) : Int)), (0, ((q : Nat) : Int)), (0, w), (9, 0), (9, 0), (9, 0)], [], σ) (fun r σ' => r = some (0, if (mBo σ b np nt L p q (2 ^ np)).1 = -1 then -1 else if w = 0 then (mBo σ b np nt L p q (2 ^ np)).2.1 else (mBo σ b np nt L p q (2 ^ np)).1) ∧ σ' = (mBo σ b np nt L p q (2 ^ np)).2.2) := by
  refine TT.steps (cd := cd93) 2 (c' := (2, [(2, 295), (0, ((p : Nat) : Int)), (0, ((q : Nat) : Int)), (0, w), (9, 0), (9, 0), (9, 0)], [(0, ((p : Nat) : Int)), (2, 295)], σ)) rfl rfl ?_
  refine TT.call (cd := cd93) rfl rfl rfl (by decide) rfl (t_isPerson X ((p : Nat) : Int) σ hb hb2) (fun r1 σ1 hq => ?_)
  rw [hq.1, hq.2, hnp]
  refine TT.steps (cd := cd93) 1 (c' := ((if decide (((if 0 ≤ ((p : Nat) : Int) ∧ ((p : Nat) : Int) < (np : Int) then 1 else 0) : Int) = 0) = true then 16 else 4), [(2, 295), (0, ((p : Nat) : Int)), (0, ((q : Nat) : Int)), (0, w), (9, 0), (9, 0), (9, 0)], [], σ)) rfl rfl ?_
  refine TT.br (p := ((if 0 ≤ ((p : Nat) : Int) ∧ ((p : Nat) : Int) < (np : Int) then 1 else 0) : Int) = 0) (fun h2 => absurd h2 (show ¬ (((if 0 ≤ ((p : Nat) : Int) ∧ ((p : Nat) : Int) < (np : Int) then 1 else 0) : Int) = 0) by (rw [if_pos (by first | assumption | omega)]; decide))) (fun h2 => ?_)
  refine TT.steps (cd := cd93) 2 (c' := (6, [(2, 295), (0, ((p : Nat) : Int)), (0, ((q : Nat) : Int)), (0, w), (9, 0), (9, 0), (9, 0)], [(0, ((q : Nat) : Int)), (2, 295)], σ)) rfl rfl ?_
  refine TT.call (cd := cd93) rfl rfl rfl (by decide) rfl (t_isPerson X ((q : Nat) : Int) σ hb hb2) (fun r3 σ3 hq => ?_)
  rw [hq.1, hq.2, hnp]
  refine TT.steps (cd := cd93) 1 (c' := ((if decide (((if 0 ≤ ((q : Nat) : Int) ∧ ((q : Nat) : Int) < (np : Int) then 1 else 0) : Int) = 0) = true then 16 else 8), [(2, 295), (0, ((p : Nat) : Int)), (0, ((q : Nat) : Int)), (0, w), (9, 0), (9, 0), (9, 0)], [], σ)) rfl rfl ?_
  refine TT.br (p := ((if 0 ≤ ((q : Nat) : Int) ∧ ((q : Nat) : Int) < (np : Int) then 1 else 0) : Int) = 0) (fun h4 => absurd h4 (show ¬ (((if 0 ≤ ((q : Nat) : Int) ∧ ((q : Nat) : Int) < (np : Int) then 1 else 0) : Int) = 0) by (rw [if_pos (by first | assumption | omega)]; decide))) (fun h4 => ?_)
  refine TT.steps (cd := cd93) 3 (c' := ((if decide (((p : Nat) : Int) = ((q : Nat) : Int)) = true then 16 else 11), [(2, 295), (0, ((p : Nat) : Int)), (0, ((q : Nat) : Int)), (0, w), (9, 0), (9, 0), (9, 0)], [], σ)) rfl rfl ?_
  refine TT.br (p := ((p : Nat) : Int) = ((q : Nat) : Int)) (fun h5 => absurd h5 (show ¬ (((p : Nat) : Int) = ((q : Nat) : Int)) by omega)) (fun h5 => ?_)
  refine TT.steps (cd := cd93) 3 (c' := (14, [(2, 295), (0, ((p : Nat) : Int)), (0, ((q : Nat) : Int)), (0, w), (9, 0), (9, 0), (9, 0)], [(0, 1), (0, 0), (0, w)], σ)) rfl rfl ?_
  refine TT.call (cd := cd93) rfl rfl rfl (by decide) rfl (t_is X w 0 1 σ) (fun r6 σ6 hq => ?_)
  rw [hq.1, hq.2]
  refine TT.steps (cd := cd93) 1 (c' := ((if decide (¬ ((if 0 ≤ w ∧ w ≤ 1 then 1 else 0) : Int) = 0) = true then 18 else 16), [(2, 295), (0, ((p : Nat) : Int)), (0, ((q : Nat) : Int)), (0, w), (9, 0), (9, 0), (9, 0)], [], σ)) rfl rfl ?_
  refine TT.br (p := ¬ ((if 0 ≤ w ∧ w ≤ 1 then 1 else 0) : Int) = 0) (fun h7 => ?_) (fun h7 => absurd (show ¬ ((if 0 ≤ w ∧ w ≤ 1 then 1 else 0) : Int) = 0 by (rw [if_pos (by first | assumption | omega)]; decide)) h7)
  refine TT.steps (cd := cd93) 6 (c' := (24, [(2, 295), (0, ((p : Nat) : Int)), (0, ((q : Nat) : Int)), (0, w), (0, -1), (0, 1000000), (0, 0)], [], σ)) rfl rfl ?_
  refine l_Bo X _ p q np nt L σ hb hb2 hnp hnp2 hnt hnt2 hL w hp hqq (0, 0) (fun x y => ?_) (2 ^ np) 0 (by omega) (0, 0)
  refine TT.steps (cd := cd93) 3 (c' := ((if decide (¬ (mBo σ b np nt L p q (2 ^ np)).1 = (-1)) = true then 90 else 88), [(2, 295), (0, ((p : Nat) : Int)), (0, ((q : Nat) : Int)), (0, w), (0, (mBo σ b np nt L p q (2 ^ np)).1), (0, (mBo σ b np nt L p q (2 ^ np)).2.1), x], [], ((mBo σ b np nt L p q (2 ^ np)).2.2))) rfl rfl ?_
  refine TT.br (p := ¬ (mBo σ b np nt L p q (2 ^ np)).1 = (-1)) (fun h8 => ?_) (fun h8 => ?_)
  · refine TT.steps (cd := cd93) 2 (c' := ((if decide (¬ w = 0) = true then 94 else 92), [(2, 295), (0, ((p : Nat) : Int)), (0, ((q : Nat) : Int)), (0, w), (0, (mBo σ b np nt L p q (2 ^ np)).1), (0, (mBo σ b np nt L p q (2 ^ np)).2.1), x], [], ((mBo σ b np nt L p q (2 ^ np)).2.2))) rfl rfl ?_
    refine TT.br (p := ¬ w = 0) (fun h9 => ?_) (fun h9 => ?_)
    · refine TT.steps (cd := cd93) 1 (c' := (95, [(2, 295), (0, ((p : Nat) : Int)), (0, ((q : Nat) : Int)), (0, w), (0, (mBo σ b np nt L p q (2 ^ np)).1), (0, (mBo σ b np nt L p q (2 ^ np)).2.1), x], [(0, (mBo σ b np nt L p q (2 ^ np)).1)], ((mBo σ b np nt L p q (2 ^ np)).2.2))) rfl rfl ?_
      exact TT.ret (cd := cd93) rfl rfl rfl rfl (⟨by first | rfl | (rw [if_pos (by omega)]; done) | (rw [if_neg (by omega), if_pos (by omega)]; done) | (rw [if_neg (by omega), if_neg (by omega)]; done) | (rw [if_neg (by omega)]; done) | (rw [if_neg (by omega), if_neg (by omega), if_pos (by omega)]; done) | (rw [if_neg (by omega), if_neg (by omega), if_neg (by omega)]; done), rfl⟩)
    · refine TT.steps (cd := cd93) 2 (c' := (95, [(2, 295), (0, ((p : Nat) : Int)), (0, ((q : Nat) : Int)), (0, w), (0, (mBo σ b np nt L p q (2 ^ np)).1), (0, (mBo σ b np nt L p q (2 ^ np)).2.1), x], [(0, (mBo σ b np nt L p q (2 ^ np)).2.1)], ((mBo σ b np nt L p q (2 ^ np)).2.2))) rfl rfl ?_
      exact TT.ret (cd := cd93) rfl rfl rfl rfl (⟨by first | rfl | (rw [if_pos (by omega)]; done) | (rw [if_neg (by omega), if_pos (by omega)]; done) | (rw [if_neg (by omega), if_neg (by omega)]; done) | (rw [if_neg (by omega)]; done) | (rw [if_neg (by omega), if_neg (by omega), if_pos (by omega)]; done) | (rw [if_neg (by omega), if_neg (by omega), if_neg (by omega)]; done), rfl⟩)
  · refine TT.steps (cd := cd93) 2 (c' := (95, [(2, 295), (0, ((p : Nat) : Int)), (0, ((q : Nat) : Int)), (0, w), (0, (mBo σ b np nt L p q (2 ^ np)).1), (0, (mBo σ b np nt L p q (2 ^ np)).2.1), x], [(0, -1)], ((mBo σ b np nt L p q (2 ^ np)).2.2))) rfl rfl ?_
    exact TT.ret (cd := cd93) rfl rfl rfl rfl (⟨by first | rfl | (rw [if_pos (by omega)]; done) | (rw [if_neg (by omega), if_pos (by omega)]; done) | (rw [if_neg (by omega), if_neg (by omega)]; done) | (rw [if_neg (by omega)]; done) | (rw [if_neg (by omega), if_neg (by omega), if_pos (by omega)]; done) | (rw [if_neg (by omega), if_neg (by omega), if_neg (by omega)]; done), rfl⟩)
theorem t_both0 (X : AX) (p q w : Int) (np nt : Nat) (L : Nat → Nat) (σ : AH) {b : Nat} (hb : σ 295 13 = (b : Int)) (hb2 : b < 2) (hnp : σ 307 b = (np : Int)) (hnp2 : np ≤ 10) (hnt : σ 300 b = (nt : Int)) (hnt2 : nt ≤ 6) (hL : ∀ t, t < nt → σ 304 (6 * b + t) = (L t : Int) ∧ 2 ≤ L t ∧ L t ≤ 8) (hp : ¬ (0 ≤ p ∧ p < (np : Int)) ∨ ¬ (0 ≤ q ∧ q < (np : Int)) ∨ p = q ∨ ¬ (0 ≤ w ∧ w ≤ 1))  : TT X 93 (0, [(2, 295), (0, p), (0, q), (0, w), (9, 0), (9, 0), (9, 0)], [], σ) (fun r σ' => r = some (0, -1) ∧ σ' = σ) := by
  refine TT.steps (cd := cd93) 2 (c' := (2, [(2, 295), (0, p), (0, q), (0, w), (9, 0), (9, 0), (9, 0)], [(0, p), (2, 295)], σ)) rfl rfl ?_
  refine TT.call (cd := cd93) rfl rfl rfl (by decide) rfl (t_isPerson X p σ hb hb2) (fun r1 σ1 hq => ?_)
  rw [hq.1, hq.2, hnp]
  refine TT.steps (cd := cd93) 1 (c' := ((if decide (((if 0 ≤ p ∧ p < (np : Int) then 1 else 0) : Int) = 0) = true then 16 else 4), [(2, 295), (0, p), (0, q), (0, w), (9, 0), (9, 0), (9, 0)], [], σ)) rfl rfl ?_
  refine TT.br (p := ((if 0 ≤ p ∧ p < (np : Int) then 1 else 0) : Int) = 0) (fun h2 => ?_) (fun h2 => ?_)
  · replace h2 := ite_f h2
    refine TT.steps (cd := cd93) 1 (c' := (17, [(2, 295), (0, p), (0, q), (0, w), (9, 0), (9, 0), (9, 0)], [(0, -1)], σ)) rfl rfl ?_
    exact TT.ret (cd := cd93) rfl rfl rfl rfl (⟨rfl, rfl⟩)
  · replace h2 := ite_t h2
    refine TT.steps (cd := cd93) 2 (c' := (6, [(2, 295), (0, p), (0, q), (0, w), (9, 0), (9, 0), (9, 0)], [(0, q), (2, 295)], σ)) rfl rfl ?_
    refine TT.call (cd := cd93) rfl rfl rfl (by decide) rfl (t_isPerson X q σ hb hb2) (fun r3 σ3 hq => ?_)
    rw [hq.1, hq.2, hnp]
    refine TT.steps (cd := cd93) 1 (c' := ((if decide (((if 0 ≤ q ∧ q < (np : Int) then 1 else 0) : Int) = 0) = true then 16 else 8), [(2, 295), (0, p), (0, q), (0, w), (9, 0), (9, 0), (9, 0)], [], σ)) rfl rfl ?_
    refine TT.br (p := ((if 0 ≤ q ∧ q < (np : Int) then 1 else 0) : Int) = 0) (fun h4 => ?_) (fun h4 => ?_)
    · replace h4 := ite_f h4
      refine TT.steps (cd := cd93) 1 (c' := (17, [(2, 295), (0, p), (0, q), (0, w), (9, 0), (9, 0), (9, 0)], [(0, -1)], σ)) rfl rfl ?_
      exact TT.ret (cd := cd93) rfl rfl rfl rfl (⟨rfl, rfl⟩)
    · replace h4 := ite_t h4
      refine TT.steps (cd := cd93) 3 (c' := ((if decide (p = q) = true then 16 else 11), [(2, 295), (0, p), (0, q), (0, w), (9, 0), (9, 0), (9, 0)], [], σ)) rfl rfl ?_
      refine TT.br (p := p = q) (fun h5 => ?_) (fun h5 => ?_)
      · refine TT.steps (cd := cd93) 1 (c' := (17, [(2, 295), (0, p), (0, q), (0, w), (9, 0), (9, 0), (9, 0)], [(0, -1)], σ)) rfl rfl ?_
        exact TT.ret (cd := cd93) rfl rfl rfl rfl (⟨rfl, rfl⟩)
      · refine TT.steps (cd := cd93) 3 (c' := (14, [(2, 295), (0, p), (0, q), (0, w), (9, 0), (9, 0), (9, 0)], [(0, 1), (0, 0), (0, w)], σ)) rfl rfl ?_
        refine TT.call (cd := cd93) rfl rfl rfl (by decide) rfl (t_is X w 0 1 σ) (fun r6 σ6 hq => ?_)
        rw [hq.1, hq.2]
        refine TT.steps (cd := cd93) 1 (c' := ((if decide (¬ ((if 0 ≤ w ∧ w ≤ 1 then 1 else 0) : Int) = 0) = true then 18 else 16), [(2, 295), (0, p), (0, q), (0, w), (9, 0), (9, 0), (9, 0)], [], σ)) rfl rfl ?_
        refine TT.br (p := ¬ ((if 0 ≤ w ∧ w ≤ 1 then 1 else 0) : Int) = 0) (fun h7 => ?_) (fun h7 => ?_)
        · replace h7 := ite_t h7
          exfalso
          omega
        · replace h7 := ite_f (Decidable.not_not.mp h7)
          refine TT.steps (cd := cd93) 1 (c' := (17, [(2, 295), (0, p), (0, q), (0, w), (9, 0), (9, 0), (9, 0)], [(0, -1)], σ)) rfl rfl ?_
          exact TT.ret (cd := cd93) rfl rfl rfl rfl (⟨rfl, rfl⟩)
def stMo (b np nt : Nat) (L : Nat → Nat) (n : Nat) (S : Int × Int × Int × AH) : Int × Int × Int × AH :=
  if mCanC S.2.2.2 b np ((n : Nat) : Int) then (if mGood (mDW S.2.2.2 b np nt L ((n : Nat) : Int)) 1 np < S.2.1 then (S.1, S.2.1, S.2.2.1, mDW S.2.2.2 b np nt L ((n : Nat) : Int)) else if mGood (mDW S.2.2.2 b np nt L ((n : Nat) : Int)) 1 np = S.2.1 then (if mCoin (mDW S.2.2.2 b np nt L ((n : Nat) : Int)) b np ((n : Nat) : Int) < S.2.2.1 then (((n : Nat) : Int), mGood (mDW S.2.2.2 b np nt L ((n : Nat) : Int)) 1 np, mCoin (mDW S.2.2.2 b np nt L ((n : Nat) : Int)) b np ((n : Nat) : Int), mDW S.2.2.2 b np nt L ((n : Nat) : Int)) else (S.1, S.2.1, S.2.2.1, mDW S.2.2.2 b np nt L ((n : Nat) : Int))) else (((n : Nat) : Int), mGood (mDW S.2.2.2 b np nt L ((n : Nat) : Int)) 1 np, mCoin (mDW S.2.2.2 b np nt L ((n : Nat) : Int)) b np ((n : Nat) : Int), mDW S.2.2.2 b np nt L ((n : Nat) : Int))) else S
def mMo (σ : AH) (b np nt : Nat) (L : Nat → Nat) : Nat → Int × Int × Int × AH
  | 0 => (0, -1, 0, σ)
  | n + 1 => stMo b np nt L  n (mMo σ b np nt L  n)
theorem stMo_fr (b np nt : Nat) (L : Nat → Nat) (n : Nat) (S : Int × Int × Int × AH) (c j : Nat) (h : c ≠ 295 ∧ (c < 316 ∨ 337 < c)) : (stMo b np nt L  n S).2.2.2 c j = S.2.2.2 c j := by
    unfold stMo
    repeat' split
    all_goals first | rfl | exact mDW_fr _ _ _ _ _ _ _ _ h
theorem stMo_M (b np nt : Nat) (L : Nat → Nat) (n : Nat) (S : Int × Int × Int × AH) (j : Nat) (h : j ≠ 46) : (stMo b np nt L  n S).2.2.2 295 j = S.2.2.2 295 j := by
    unfold stMo
    repeat' split
    all_goals first | rfl | exact mDW_M _ _ _ _ _ _ _ h
theorem mMo_fr (σ : AH) (b np nt : Nat) (L : Nat → Nat) (n c j : Nat) (h : c ≠ 295 ∧ (c < 316 ∨ 337 < c)) : (mMo σ b np nt L  n).2.2.2 c j = σ c j := by
  induction n with
  | zero => rfl
  | succ n ih => rw [mMo, stMo_fr _ _ _ _ _ _ _ _ h, ih]
theorem mMo_M (σ : AH) (b np nt : Nat) (L : Nat → Nat) (n j : Nat) (h : j ≠ 46) : (mMo σ b np nt L  n).2.2.2 295 j = σ 295 j := by
  induction n with
  | zero => rfl
  | succ n ih => rw [mMo, stMo_M _ _ _ _ _ _ _ h, ih]
theorem l_Mo (X : AX) (Q : Option AV → AH → Prop) (np nt : Nat) (L : Nat → Nat) (σ : AH) {b : Nat} (hb : σ 295 13 = (b : Int)) (hb2 : b < 2) (hnp : σ 307 b = (np : Int)) (hnp2 : np ≤ 10) (hnt : σ 300 b = (nt : Int)) (hnt2 : nt ≤ 6) (hL : ∀ t, t < nt → σ 304 (6 * b + t) = (L t : Int) ∧ 2 ≤ L t ∧ L t ≤ 8) (w : Int) (x0 : AV) (kk : ∀ x y : AV, TT X 94 (57, [(2, 295), (0, w), (0, (mMo σ b np nt L  (2 ^ np)).1), (0, (mMo σ b np nt L  (2 ^ np)).2.1), (0, (mMo σ b np nt L  (2 ^ np)).2.2.1), x, y], [], (mMo σ b np nt L  (2 ^ np)).2.2.2) Q) : ∀ (d n : Nat), n + d = 2 ^ np → ∀ y : AV, TT X 94 (15, [(2, 295), (0, w), (0, (mMo σ b np nt L  n).1), (0, (mMo σ b np nt L  n).2.1), (0, (mMo σ b np nt L  n).2.2.1), (0, ((n : Nat) : Int)), y], [], (mMo σ b np nt L  n).2.2.2) Q := by
  intro d
  have hN : 2 ^ np ≤ 1024 := pw10 np hnp2
  induction d with
  | zero =>
    intro n hn y
    have hnn : n = 2 ^ np := by omega
    have hfr := fun c j h => mMo_fr σ b np nt L  n c j h
    have hfM := fun j h => mMo_M σ b np nt L  n j h
    subst hnn
    obtain ⟨⟨s0, s1, s2, τ⟩, hS⟩ : ∃ S, mMo σ b np nt L  (2 ^ np) = S := ⟨_, rfl⟩
    rw [hS] at hfr hfM ⊢
    rw [hS] at kk
    dsimp only at hfr hfM ⊢ kk
    refine TT.steps (cd := cd94) 6 (c' := (21, [(2, 295), (0, w), (0, s0), (0, s1), (0, s2), (0, (((2 ^ np) : Nat) : Int)), y], [(0, (τ 295 13)), (2, 307), (0, 1), (0, (((2 ^ np) : Nat) : Int))], τ)) rfl rfl ?_
    refine TT.top0 (z := ((b : Nat) : Int)) ((hfM (13) (by decide)).trans hb) ?_
    refine TT.aldN (cd := cd94) (307) (b) rfl rfl rfl rfl (show b < 2 by omega) ?_
    refine TT.top0 (z := ((np : Nat) : Int)) ((hfr 307 (b) (by decide)).trans hnp) ?_
    refine TT.steps (cd := cd94) 1 (c' := (23, [(2, 295), (0, w), (0, s0), (0, s1), (0, s2), (0, (((2 ^ np) : Nat) : Int)), y], [(0, (aShl 1 ((np : Nat) : Int))), (0, (((2 ^ np) : Nat) : Int))], τ)) rfl rfl ?_
    refine TT.top0 (z := (((2 ^ np) : Nat) : Int)) (shl1 np hnp2) ?_
    refine TT.steps (cd := cd94) 1 (c' := ((if decide ((((2 ^ np) : Nat) : Int) ≤ (((2 ^ np) : Nat) : Int)) = true then 57 else 24), [(2, 295), (0, w), (0, s0), (0, s1), (0, s2), (0, (((2 ^ np) : Nat) : Int)), y], [], τ)) rfl rfl ?_
    refine TT.br (p := (((2 ^ np) : Nat) : Int) ≤ (((2 ^ np) : Nat) : Int)) (fun h1 => ?_) (fun h1 => absurd (show (((2 ^ np) : Nat) : Int) ≤ (((2 ^ np) : Nat) : Int) by omega) h1)
    exact kk _ y
  | succ d ih =>
    intro n hn y
    have hfr := fun c j h => mMo_fr σ b np nt L  n c j h
    have hfM := fun j h => mMo_M σ b np nt L  n j h
    obtain ⟨⟨s0, s1, s2, τ⟩, hS⟩ : ∃ S, mMo σ b np nt L  n = S := ⟨_, rfl⟩
    rw [hS] at hfr hfM ⊢
    dsimp only at hfr hfM ⊢
    refine TT.steps (cd := cd94) 6 (c' := (21, [(2, 295), (0, w), (0, s0), (0, s1), (0, s2), (0, ((n : Nat) : Int)), y], [(0, (τ 295 13)), (2, 307), (0, 1), (0, ((n : Nat) : Int))], τ)) rfl rfl ?_
    refine TT.top0 (z := ((b : Nat) : Int)) ((hfM (13) (by decide)).trans hb) ?_
    refine TT.aldN (cd := cd94) (307) (b) rfl rfl rfl rfl (show b < 2 by omega) ?_
    refine TT.top0 (z := ((np : Nat) : Int)) ((hfr 307 (b) (by decide)).trans hnp) ?_
    refine TT.steps (cd := cd94) 1 (c' := (23, [(2, 295), (0, w), (0, s0), (0, s1), (0, s2), (0, ((n : Nat) : Int)), y], [(0, (aShl 1 ((np : Nat) : Int))), (0, ((n : Nat) : Int))], τ)) rfl rfl ?_
    refine TT.top0 (z := (((2 ^ np) : Nat) : Int)) (shl1 np hnp2) ?_
    refine TT.steps (cd := cd94) 1 (c' := ((if decide ((((2 ^ np) : Nat) : Int) ≤ ((n : Nat) : Int)) = true then 57 else 24), [(2, 295), (0, w), (0, s0), (0, s1), (0, s2), (0, ((n : Nat) : Int)), y], [], τ)) rfl rfl ?_
    refine TT.br (p := (((2 ^ np) : Nat) : Int) ≤ ((n : Nat) : Int)) (fun h1 => absurd h1 (show ¬ ((((2 ^ np) : Nat) : Int) ≤ ((n : Nat) : Int)) by omega)) (fun h1 => ?_)
    refine TT.steps (cd := cd94) 2 (c' := (26, [(2, 295), (0, w), (0, s0), (0, s1), (0, s2), (0, ((n : Nat) : Int)), y], [(0, ((n : Nat) : Int)), (2, 295)], τ)) rfl rfl ?_
    refine TT.call (cd := cd94) rfl rfl rfl (by decide) rfl (t_canHire X ((n : Nat) : Int) np τ ((hfM (13) (by decide)).trans hb) hb2 ((hfr 307 (b) (by decide)).trans hnp) hnp2) (fun r2 σ2 hq => ?_)
    rw [hq.1, hq.2]
    refine TT.steps (cd := cd94) 1 (c' := ((if decide (¬ ((if mCanC τ b np ((n : Nat) : Int) then 1 else 0) : Int) = 0) = true then 29 else 28), [(2, 295), (0, w), (0, s0), (0, s1), (0, s2), (0, ((n : Nat) : Int)), y], [], τ)) rfl rfl ?_
    refine TT.br (p := ¬ ((if mCanC τ b np ((n : Nat) : Int) then 1 else 0) : Int) = 0) (fun h3 => ?_) (fun h3 => ?_)
    · replace h3 := ite_t h3
      refine TT.steps (cd := cd94) 2 (c' := (31, [(2, 295), (0, w), (0, s0), (0, s1), (0, s2), (0, ((n : Nat) : Int)), y], [(0, ((n : Nat) : Int)), (2, 295)], τ)) rfl rfl ?_
      refine TT.call (cd := cd94) rfl rfl rfl (by decide) rfl (t_dayWith X ((n : Nat) : Int) np nt L τ ((hfM (13) (by decide)).trans hb) hb2 ((hfr 307 (b) (by decide)).trans hnp) hnp2 ((hfr 300 (b) (by decide)).trans hnt) hnt2 (fun t ht => ⟨(show ∀ j, τ 304 j = σ 304 j from fun j => (hfr 304 (j) (by decide))) _ |>.trans (hL t ht).1, (hL t ht).2⟩)) (fun r4 σ4 hq => ?_)
      rw [hq.1, hq.2]
      refine TT.steps (cd := cd94) 1 (c' := (33, [(2, 295), (0, w), (0, s0), (0, s1), (0, s2), (0, ((n : Nat) : Int)), y], [(2, 295)], (mDW τ b np nt L ((n : Nat) : Int)))) rfl rfl ?_
      refine TT.call (cd := cd94) rfl rfl rfl (by decide) rfl (t_good X np (mDW τ b np nt L ((n : Nat) : Int)) (((mDW_M _ _ _ _ _ _ (13) (by decide)).trans (hfM (13) (by decide))).trans hb) hb2 (mDW_l _ _ _ _ _ _) (by decide) (((mDW_fr _ _ _ _ _ _ 307 (b) (by decide)).trans (hfr 307 (b) (by decide))).trans hnp) hnp2) (fun r5 σ5 hq => ?_)
      rw [hq.1, hq.2]
      refine TT.steps (cd := cd94) 4 (c' := ((if decide ((mGood (mDW τ b np nt L ((n : Nat) : Int)) 1 np) < s1) = true then 55 else 38), [(2, 295), (0, w), (0, s0), (0, s1), (0, s2), (0, ((n : Nat) : Int)), (0, (mGood (mDW τ b np nt L ((n : Nat) : Int)) 1 np))], [], (mDW τ b np nt L ((n : Nat) : Int)))) rfl rfl ?_
      refine TT.br (p := (mGood (mDW τ b np nt L ((n : Nat) : Int)) 1 np) < s1) (fun h6 => ?_) (fun h6 => ?_)
      · refine TT.inc (cd := cd94) ((n + 1 : Nat) : Int) rfl rfl rfl rfl (fun h => absurd h.2 (show ¬ (0 = 1) by decide)) (aAdd_n (a := n) (b := 1) (by omega)) (ls' := [(2, 295), (0, w), (0, s0), (0, s1), (0, s2), (0, ((n + 1 : Nat) : Int)), (0, (mGood (mDW τ b np nt L ((n : Nat) : Int)) 1 np))]) rfl ?_
        refine TT.steps (cd := cd94) 1 (c' := (15, [(2, 295), (0, w), (0, s0), (0, s1), (0, s2), (0, ((n + 1 : Nat) : Int)), (0, (mGood (mDW τ b np nt L ((n : Nat) : Int)) 1 np))], [], (mDW τ b np nt L ((n : Nat) : Int)))) rfl rfl ?_
        have e1 : mMo σ b np nt L  (n + 1) = (s0, s1, s2, (mDW τ b np nt L ((n : Nat) : Int))) := by
          rw [mMo, hS]
          unfold stMo
          dsimp only
          first | (rw [if_neg (by first | assumption | omega)]; done) | (rw [if_pos (by first | assumption | omega), if_pos (by first | assumption | omega)]; done) | (rw [if_pos (by first | assumption | omega), if_neg (by first | assumption | omega), if_neg (by first | assumption | omega)]; done) | (rw [if_pos (by first | assumption | omega), if_neg (by first | assumption | omega), if_pos (by first | assumption | omega), if_neg (by first | assumption | omega)]; done) | (rw [if_pos (by first | assumption | omega), if_neg (by first | assumption | omega), if_pos (by first | assumption | omega), if_pos (by first | assumption | omega)]; done)
        have := ih (n + 1) (by omega) (0, (mGood (mDW τ b np nt L ((n : Nat) : Int)) 1 np))
        rw [e1] at this
        exact this
      · refine TT.steps (cd := cd94) 3 (c' := ((if decide (¬ (mGood (mDW τ b np nt L ((n : Nat) : Int)) 1 np) = s1) = true then 47 else 41), [(2, 295), (0, w), (0, s0), (0, s1), (0, s2), (0, ((n : Nat) : Int)), (0, (mGood (mDW τ b np nt L ((n : Nat) : Int)) 1 np))], [], (mDW τ b np nt L ((n : Nat) : Int)))) rfl rfl ?_
        refine TT.br (p := ¬ (mGood (mDW τ b np nt L ((n : Nat) : Int)) 1 np) = s1) (fun h7 => ?_) (fun h7 => ?_)
        · refine TT.steps (cd := cd94) 6 (c' := (53, [(2, 295), (0, w), (0, ((n : Nat) : Int)), (0, (mGood (mDW τ b np nt L ((n : Nat) : Int)) 1 np)), (0, s2), (0, ((n : Nat) : Int)), (0, (mGood (mDW τ b np nt L ((n : Nat) : Int)) 1 np))], [(0, ((n : Nat) : Int)), (2, 295)], (mDW τ b np nt L ((n : Nat) : Int)))) rfl rfl ?_
          refine TT.call (cd := cd94) rfl rfl rfl (by decide) rfl (t_coinOf X ((n : Nat) : Int) np (mDW τ b np nt L ((n : Nat) : Int)) (((mDW_M _ _ _ _ _ _ (13) (by decide)).trans (hfM (13) (by decide))).trans hb) hb2 (((mDW_fr _ _ _ _ _ _ 307 (b) (by decide)).trans (hfr 307 (b) (by decide))).trans hnp) hnp2) (fun r8 σ8 hq => ?_)
          rw [hq.1, hq.2]
          refine TT.steps (cd := cd94) 1 (c' := (55, [(2, 295), (0, w), (0, ((n : Nat) : Int)), (0, (mGood (mDW τ b np nt L ((n : Nat) : Int)) 1 np)), (0, (mCoin (mDW τ b np nt L ((n : Nat) : Int)) b np ((n : Nat) : Int))), (0, ((n : Nat) : Int)), (0, (mGood (mDW τ b np nt L ((n : Nat) : Int)) 1 np))], [], (mDW τ b np nt L ((n : Nat) : Int)))) rfl rfl ?_
          refine TT.inc (cd := cd94) ((n + 1 : Nat) : Int) rfl rfl rfl rfl (fun h => absurd h.2 (show ¬ (0 = 1) by decide)) (aAdd_n (a := n) (b := 1) (by omega)) (ls' := [(2, 295), (0, w), (0, ((n : Nat) : Int)), (0, (mGood (mDW τ b np nt L ((n : Nat) : Int)) 1 np)), (0, (mCoin (mDW τ b np nt L ((n : Nat) : Int)) b np ((n : Nat) : Int))), (0, ((n + 1 : Nat) : Int)), (0, (mGood (mDW τ b np nt L ((n : Nat) : Int)) 1 np))]) rfl ?_
          refine TT.steps (cd := cd94) 1 (c' := (15, [(2, 295), (0, w), (0, ((n : Nat) : Int)), (0, (mGood (mDW τ b np nt L ((n : Nat) : Int)) 1 np)), (0, (mCoin (mDW τ b np nt L ((n : Nat) : Int)) b np ((n : Nat) : Int))), (0, ((n + 1 : Nat) : Int)), (0, (mGood (mDW τ b np nt L ((n : Nat) : Int)) 1 np))], [], (mDW τ b np nt L ((n : Nat) : Int)))) rfl rfl ?_
          have e1 : mMo σ b np nt L  (n + 1) = (((n : Nat) : Int), (mGood (mDW τ b np nt L ((n : Nat) : Int)) 1 np), (mCoin (mDW τ b np nt L ((n : Nat) : Int)) b np ((n : Nat) : Int)), (mDW τ b np nt L ((n : Nat) : Int))) := by
            rw [mMo, hS]
            unfold stMo
            dsimp only
            first | (rw [if_neg (by first | assumption | omega)]; done) | (rw [if_pos (by first | assumption | omega), if_pos (by first | assumption | omega)]; done) | (rw [if_pos (by first | assumption | omega), if_neg (by first | assumption | omega), if_neg (by first | assumption | omega)]; done) | (rw [if_pos (by first | assumption | omega), if_neg (by first | assumption | omega), if_pos (by first | assumption | omega), if_neg (by first | assumption | omega)]; done) | (rw [if_pos (by first | assumption | omega), if_neg (by first | assumption | omega), if_pos (by first | assumption | omega), if_pos (by first | assumption | omega)]; done)
          have := ih (n + 1) (by omega) (0, (mGood (mDW τ b np nt L ((n : Nat) : Int)) 1 np))
          rw [e1] at this
          exact this
        · refine TT.steps (cd := cd94) 2 (c' := (43, [(2, 295), (0, w), (0, s0), (0, s1), (0, s2), (0, ((n : Nat) : Int)), (0, (mGood (mDW τ b np nt L ((n : Nat) : Int)) 1 np))], [(0, ((n : Nat) : Int)), (2, 295)], (mDW τ b np nt L ((n : Nat) : Int)))) rfl rfl ?_
          refine TT.call (cd := cd94) rfl rfl rfl (by decide) rfl (t_coinOf X ((n : Nat) : Int) np (mDW τ b np nt L ((n : Nat) : Int)) (((mDW_M _ _ _ _ _ _ (13) (by decide)).trans (hfM (13) (by decide))).trans hb) hb2 (((mDW_fr _ _ _ _ _ _ 307 (b) (by decide)).trans (hfr 307 (b) (by decide))).trans hnp) hnp2) (fun r9 σ9 hq => ?_)
          rw [hq.1, hq.2]
          refine TT.steps (cd := cd94) 2 (c' := ((if decide ((mCoin (mDW τ b np nt L ((n : Nat) : Int)) b np ((n : Nat) : Int)) < s2) = true then 47 else 46), [(2, 295), (0, w), (0, s0), (0, s1), (0, s2), (0, ((n : Nat) : Int)), (0, (mGood (mDW τ b np nt L ((n : Nat) : Int)) 1 np))], [], (mDW τ b np nt L ((n : Nat) : Int)))) rfl rfl ?_
          refine TT.br (p := (mCoin (mDW τ b np nt L ((n : Nat) : Int)) b np ((n : Nat) : Int)) < s2) (fun h10 => ?_) (fun h10 => ?_)
          · refine TT.steps (cd := cd94) 6 (c' := (53, [(2, 295), (0, w), (0, ((n : Nat) : Int)), (0, (mGood (mDW τ b np nt L ((n : Nat) : Int)) 1 np)), (0, s2), (0, ((n : Nat) : Int)), (0, (mGood (mDW τ b np nt L ((n : Nat) : Int)) 1 np))], [(0, ((n : Nat) : Int)), (2, 295)], (mDW τ b np nt L ((n : Nat) : Int)))) rfl rfl ?_
            refine TT.call (cd := cd94) rfl rfl rfl (by decide) rfl (t_coinOf X ((n : Nat) : Int) np (mDW τ b np nt L ((n : Nat) : Int)) (((mDW_M _ _ _ _ _ _ (13) (by decide)).trans (hfM (13) (by decide))).trans hb) hb2 (((mDW_fr _ _ _ _ _ _ 307 (b) (by decide)).trans (hfr 307 (b) (by decide))).trans hnp) hnp2) (fun r11 σ11 hq => ?_)
            rw [hq.1, hq.2]
            refine TT.steps (cd := cd94) 1 (c' := (55, [(2, 295), (0, w), (0, ((n : Nat) : Int)), (0, (mGood (mDW τ b np nt L ((n : Nat) : Int)) 1 np)), (0, (mCoin (mDW τ b np nt L ((n : Nat) : Int)) b np ((n : Nat) : Int))), (0, ((n : Nat) : Int)), (0, (mGood (mDW τ b np nt L ((n : Nat) : Int)) 1 np))], [], (mDW τ b np nt L ((n : Nat) : Int)))) rfl rfl ?_
            refine TT.inc (cd := cd94) ((n + 1 : Nat) : Int) rfl rfl rfl rfl (fun h => absurd h.2 (show ¬ (0 = 1) by decide)) (aAdd_n (a := n) (b := 1) (by omega)) (ls' := [(2, 295), (0, w), (0, ((n : Nat) : Int)), (0, (mGood (mDW τ b np nt L ((n : Nat) : Int)) 1 np)), (0, (mCoin (mDW τ b np nt L ((n : Nat) : Int)) b np ((n : Nat) : Int))), (0, ((n + 1 : Nat) : Int)), (0, (mGood (mDW τ b np nt L ((n : Nat) : Int)) 1 np))]) rfl ?_
            refine TT.steps (cd := cd94) 1 (c' := (15, [(2, 295), (0, w), (0, ((n : Nat) : Int)), (0, (mGood (mDW τ b np nt L ((n : Nat) : Int)) 1 np)), (0, (mCoin (mDW τ b np nt L ((n : Nat) : Int)) b np ((n : Nat) : Int))), (0, ((n + 1 : Nat) : Int)), (0, (mGood (mDW τ b np nt L ((n : Nat) : Int)) 1 np))], [], (mDW τ b np nt L ((n : Nat) : Int)))) rfl rfl ?_
            have e1 : mMo σ b np nt L  (n + 1) = (((n : Nat) : Int), (mGood (mDW τ b np nt L ((n : Nat) : Int)) 1 np), (mCoin (mDW τ b np nt L ((n : Nat) : Int)) b np ((n : Nat) : Int)), (mDW τ b np nt L ((n : Nat) : Int))) := by
              rw [mMo, hS]
              unfold stMo
              dsimp only
              first | (rw [if_neg (by first | assumption | omega)]; done) | (rw [if_pos (by first | assumption | omega), if_pos (by first | assumption | omega)]; done) | (rw [if_pos (by first | assumption | omega), if_neg (by first | assumption | omega), if_neg (by first | assumption | omega)]; done) | (rw [if_pos (by first | assumption | omega), if_neg (by first | assumption | omega), if_pos (by first | assumption | omega), if_neg (by first | assumption | omega)]; done) | (rw [if_pos (by first | assumption | omega), if_neg (by first | assumption | omega), if_pos (by first | assumption | omega), if_pos (by first | assumption | omega)]; done)
            have := ih (n + 1) (by omega) (0, (mGood (mDW τ b np nt L ((n : Nat) : Int)) 1 np))
            rw [e1] at this
            exact this
          · refine TT.steps (cd := cd94) 1 (c' := (55, [(2, 295), (0, w), (0, s0), (0, s1), (0, s2), (0, ((n : Nat) : Int)), (0, (mGood (mDW τ b np nt L ((n : Nat) : Int)) 1 np))], [], (mDW τ b np nt L ((n : Nat) : Int)))) rfl rfl ?_
            refine TT.inc (cd := cd94) ((n + 1 : Nat) : Int) rfl rfl rfl rfl (fun h => absurd h.2 (show ¬ (0 = 1) by decide)) (aAdd_n (a := n) (b := 1) (by omega)) (ls' := [(2, 295), (0, w), (0, s0), (0, s1), (0, s2), (0, ((n + 1 : Nat) : Int)), (0, (mGood (mDW τ b np nt L ((n : Nat) : Int)) 1 np))]) rfl ?_
            refine TT.steps (cd := cd94) 1 (c' := (15, [(2, 295), (0, w), (0, s0), (0, s1), (0, s2), (0, ((n + 1 : Nat) : Int)), (0, (mGood (mDW τ b np nt L ((n : Nat) : Int)) 1 np))], [], (mDW τ b np nt L ((n : Nat) : Int)))) rfl rfl ?_
            have e1 : mMo σ b np nt L  (n + 1) = (s0, s1, s2, (mDW τ b np nt L ((n : Nat) : Int))) := by
              rw [mMo, hS]
              unfold stMo
              dsimp only
              first | (rw [if_neg (by first | assumption | omega)]; done) | (rw [if_pos (by first | assumption | omega), if_pos (by first | assumption | omega)]; done) | (rw [if_pos (by first | assumption | omega), if_neg (by first | assumption | omega), if_neg (by first | assumption | omega)]; done) | (rw [if_pos (by first | assumption | omega), if_neg (by first | assumption | omega), if_pos (by first | assumption | omega), if_neg (by first | assumption | omega)]; done) | (rw [if_pos (by first | assumption | omega), if_neg (by first | assumption | omega), if_pos (by first | assumption | omega), if_pos (by first | assumption | omega)]; done)
            have := ih (n + 1) (by omega) (0, (mGood (mDW τ b np nt L ((n : Nat) : Int)) 1 np))
            rw [e1] at this
            exact this
    · replace h3 := ite_f (Decidable.not_not.mp h3)
      refine TT.steps (cd := cd94) 1 (c' := (55, [(2, 295), (0, w), (0, s0), (0, s1), (0, s2), (0, ((n : Nat) : Int)), y], [], τ)) rfl rfl ?_
      refine TT.inc (cd := cd94) ((n + 1 : Nat) : Int) rfl rfl rfl rfl (fun h => absurd h.2 (show ¬ (0 = 1) by decide)) (aAdd_n (a := n) (b := 1) (by omega)) (ls' := [(2, 295), (0, w), (0, s0), (0, s1), (0, s2), (0, ((n + 1 : Nat) : Int)), y]) rfl ?_
      refine TT.steps (cd := cd94) 1 (c' := (15, [(2, 295), (0, w), (0, s0), (0, s1), (0, s2), (0, ((n + 1 : Nat) : Int)), y], [], τ)) rfl rfl ?_
      have e1 : mMo σ b np nt L  (n + 1) = (s0, s1, s2, τ) := by
        rw [mMo, hS]
        unfold stMo
        dsimp only
        first | (rw [if_neg (by first | assumption | omega)]; done) | (rw [if_pos (by first | assumption | omega), if_pos (by first | assumption | omega)]; done) | (rw [if_pos (by first | assumption | omega), if_neg (by first | assumption | omega), if_neg (by first | assumption | omega)]; done) | (rw [if_pos (by first | assumption | omega), if_neg (by first | assumption | omega), if_pos (by first | assumption | omega), if_neg (by first | assumption | omega)]; done) | (rw [if_pos (by first | assumption | omega), if_neg (by first | assumption | omega), if_pos (by first | assumption | omega), if_pos (by first | assumption | omega)]; done)
      have := ih (n + 1) (by omega) y
      rw [e1] at this
      exact this
theorem t_most1 (X : AX) (w : Int) (hw : 0 ≤ w ∧ w ≤ 2) (np nt : Nat) (L : Nat → Nat) (σ : AH) {b : Nat} (hb : σ 295 13 = (b : Int)) (hb2 : b < 2) (hnp : σ 307 b = (np : Int)) (hnp2 : np ≤ 10) (hnt : σ 300 b = (nt : Int)) (hnt2 : nt ≤ 6) (hL : ∀ t, t < nt → σ 304 (6 * b + t) = (L t : Int) ∧ 2 ≤ L t ∧ L t ≤ 8)  : TT X 94 (0, [(2, 295), (0, w), (9, 0), (9, 0), (9, 0), (9, 0), (9, 0)], [], σ) (fun r σ' => r = some (0, if w = 0 then (mMo σ b np nt L  (2 ^ np)).2.1 else if w = 1 then (mMo σ b np nt L  (2 ^ np)).2.2.1 else (mMo σ b np nt L  (2 ^ np)).1) ∧ σ' = (mMo σ b np nt L  (2 ^ np)).2.2.2) := by
  refine TT.steps (cd := cd94) 3 (c' := (3, [(2, 295), (0, w), (9, 0), (9, 0), (9, 0), (9, 0), (9, 0)], [(0, 2), (0, 0), (0, w)], σ)) rfl rfl ?_
  refine TT.call (cd := cd94) rfl rfl rfl (by decide) rfl (t_is X w 0 2 σ) (fun r1 σ1 hq => ?_)
  rw [hq.1, hq.2]
  refine TT.steps (cd := cd94) 1 (c' := ((if decide (¬ ((if 0 ≤ w ∧ w ≤ 2 then 1 else 0) : Int) = 0) = true then 7 else 5), [(2, 295), (0, w), (9, 0), (9, 0), (9, 0), (9, 0), (9, 0)], [], σ)) rfl rfl ?_
  refine TT.br (p := ¬ ((if 0 ≤ w ∧ w ≤ 2 then 1 else 0) : Int) = 0) (fun h2 => ?_) (fun h2 => absurd (show ¬ ((if 0 ≤ w ∧ w ≤ 2 then 1 else 0) : Int) = 0 by (rw [if_pos (by first | assumption | omega)]; decide)) h2)
  refine TT.steps (cd := cd94) 8 (c' := (15, [(2, 295), (0, w), (0, 0), (0, -1), (0, 0), (0, 0), (9, 0)], [], σ)) rfl rfl ?_
  refine l_Mo X _  np nt L σ hb hb2 hnp hnp2 hnt hnt2 hL w (0, 0) (fun x y => ?_) (2 ^ np) 0 (by omega) (9, 0)
  refine TT.steps (cd := cd94) 2 (c' := ((if decide (¬ w = 0) = true then 61 else 59), [(2, 295), (0, w), (0, (mMo σ b np nt L  (2 ^ np)).1), (0, (mMo σ b np nt L  (2 ^ np)).2.1), (0, (mMo σ b np nt L  (2 ^ np)).2.2.1), x, y], [], ((mMo σ b np nt L  (2 ^ np)).2.2.2))) rfl rfl ?_
  refine TT.br (p := ¬ w = 0) (fun h3 => ?_) (fun h3 => ?_)
  · refine TT.steps (cd := cd94) 3 (c' := ((if decide (¬ w = 1) = true then 66 else 64), [(2, 295), (0, w), (0, (mMo σ b np nt L  (2 ^ np)).1), (0, (mMo σ b np nt L  (2 ^ np)).2.1), (0, (mMo σ b np nt L  (2 ^ np)).2.2.1), x, y], [], ((mMo σ b np nt L  (2 ^ np)).2.2.2))) rfl rfl ?_
    refine TT.br (p := ¬ w = 1) (fun h4 => ?_) (fun h4 => ?_)
    · refine TT.steps (cd := cd94) 1 (c' := (67, [(2, 295), (0, w), (0, (mMo σ b np nt L  (2 ^ np)).1), (0, (mMo σ b np nt L  (2 ^ np)).2.1), (0, (mMo σ b np nt L  (2 ^ np)).2.2.1), x, y], [(0, (mMo σ b np nt L  (2 ^ np)).1)], ((mMo σ b np nt L  (2 ^ np)).2.2.2))) rfl rfl ?_
      exact TT.ret (cd := cd94) rfl rfl rfl rfl (⟨by first | rfl | (rw [if_pos (by omega)]; done) | (rw [if_neg (by omega), if_pos (by omega)]; done) | (rw [if_neg (by omega), if_neg (by omega)]; done) | (rw [if_neg (by omega)]; done) | (rw [if_neg (by omega), if_neg (by omega), if_pos (by omega)]; done) | (rw [if_neg (by omega), if_neg (by omega), if_neg (by omega)]; done), rfl⟩)
    · refine TT.steps (cd := cd94) 2 (c' := (67, [(2, 295), (0, w), (0, (mMo σ b np nt L  (2 ^ np)).1), (0, (mMo σ b np nt L  (2 ^ np)).2.1), (0, (mMo σ b np nt L  (2 ^ np)).2.2.1), x, y], [(0, (mMo σ b np nt L  (2 ^ np)).2.2.1)], ((mMo σ b np nt L  (2 ^ np)).2.2.2))) rfl rfl ?_
      exact TT.ret (cd := cd94) rfl rfl rfl rfl (⟨by first | rfl | (rw [if_pos (by omega)]; done) | (rw [if_neg (by omega), if_pos (by omega)]; done) | (rw [if_neg (by omega), if_neg (by omega)]; done) | (rw [if_neg (by omega)]; done) | (rw [if_neg (by omega), if_neg (by omega), if_pos (by omega)]; done) | (rw [if_neg (by omega), if_neg (by omega), if_neg (by omega)]; done), rfl⟩)
  · refine TT.steps (cd := cd94) 2 (c' := (67, [(2, 295), (0, w), (0, (mMo σ b np nt L  (2 ^ np)).1), (0, (mMo σ b np nt L  (2 ^ np)).2.1), (0, (mMo σ b np nt L  (2 ^ np)).2.2.1), x, y], [(0, (mMo σ b np nt L  (2 ^ np)).2.1)], ((mMo σ b np nt L  (2 ^ np)).2.2.2))) rfl rfl ?_
    exact TT.ret (cd := cd94) rfl rfl rfl rfl (⟨by first | rfl | (rw [if_pos (by omega)]; done) | (rw [if_neg (by omega), if_pos (by omega)]; done) | (rw [if_neg (by omega), if_neg (by omega)]; done) | (rw [if_neg (by omega)]; done) | (rw [if_neg (by omega), if_neg (by omega), if_pos (by omega)]; done) | (rw [if_neg (by omega), if_neg (by omega), if_neg (by omega)]; done), rfl⟩)
theorem t_most0 (X : AX) (w : Int) (np nt : Nat) (L : Nat → Nat) (σ : AH) {b : Nat} (hb : σ 295 13 = (b : Int)) (hb2 : b < 2) (hnp : σ 307 b = (np : Int)) (hnp2 : np ≤ 10) (hnt : σ 300 b = (nt : Int)) (hnt2 : nt ≤ 6) (hL : ∀ t, t < nt → σ 304 (6 * b + t) = (L t : Int) ∧ 2 ≤ L t ∧ L t ≤ 8) (hw : ¬ (0 ≤ w ∧ w ≤ 2))  : TT X 94 (0, [(2, 295), (0, w), (9, 0), (9, 0), (9, 0), (9, 0), (9, 0)], [], σ) (fun r σ' => r = some (0, -1) ∧ σ' = σ) := by
  refine TT.steps (cd := cd94) 3 (c' := (3, [(2, 295), (0, w), (9, 0), (9, 0), (9, 0), (9, 0), (9, 0)], [(0, 2), (0, 0), (0, w)], σ)) rfl rfl ?_
  refine TT.call (cd := cd94) rfl rfl rfl (by decide) rfl (t_is X w 0 2 σ) (fun r1 σ1 hq => ?_)
  rw [hq.1, hq.2]
  refine TT.steps (cd := cd94) 1 (c' := ((if decide (¬ ((if 0 ≤ w ∧ w ≤ 2 then 1 else 0) : Int) = 0) = true then 7 else 5), [(2, 295), (0, w), (9, 0), (9, 0), (9, 0), (9, 0), (9, 0)], [], σ)) rfl rfl ?_
  refine TT.br (p := ¬ ((if 0 ≤ w ∧ w ≤ 2 then 1 else 0) : Int) = 0) (fun h2 => ?_) (fun h2 => ?_)
  · replace h2 := ite_t h2
    exfalso
    omega
  · replace h2 := ite_f (Decidable.not_not.mp h2)
    refine TT.steps (cd := cd94) 1 (c' := (6, [(2, 295), (0, w), (9, 0), (9, 0), (9, 0), (9, 0), (9, 0)], [(0, -1)], σ)) rfl rfl ?_
    exact TT.ret (cd := cd94) rfl rfl rfl rfl (⟨rfl, rfl⟩)
